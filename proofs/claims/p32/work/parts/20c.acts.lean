/-! THE CLASS: actions. Laid by gen/p20.py. -/
set_option maxHeartbeats 4000000 in
set_option maxRecDepth 100000 in
theorem mX6_addHouse {l : Launch} {Γ : gX} (M : Nat → Nat → Int32) (R : Nat → Nat → Option Nat) (O : Int64) (hC : LC Γ R) (X G J S C P Q : Nat → Int32) (pm : Nat → Nat) (hp : HP R pm) (k : Nat) (hk : J 1 = nI k) (hk14 : k ≤ 14) (hB : BL P) (a d : Int32) (hr : xOf (fX2_buildHouse_v P a d) = none) : gMet l Γ yX6_addHouse wsX6_addHouse 3 64 [.ref (gad Γ 475), .int a, .int d] (cS M X G J S C P Q) R O (some (.int (fX2_buildHouse_v P a d))) (cS (va_up M (pm k) (fX2_copyFrom_P P (M (pm k)))) X G (keepJ J) S C (fX2_buildHouse_P P a d) Q) (keepR R J) O := by
  refine g_start (cc := cX6_addHouse) (maxL := 3) (ret := (some .int)) (by decide) rfl (Nat.le_of_ble_eq_true rfl) ?_
  intro p e s m below meth c ls hx hb hml hrt hts hown hlocks hname hK hZ hG hS hl
  have hl : lv_has ls 3 [(0, .ref (gad Γ 475)), (1, .int a), (2, .int d)] := hl
  have hown : s.vm.findClass RX6 = some m.cls := hown
  have hF : CallFix p m c cX6_addHouse 3 s _ wsX6_addHouse RX6 := ⟨hx, hb, hml, hown, hts⟩
  have k_1 : (Cond.fieldLink RX6 29 "RoadDust" "history" "LRoadDust$History;").before _ s = true := hts _ (by decide +kernel)
  have in_X6 : ∀ w ∈ wsX60, w ∈ wsX6_addHouse := by decide +kernel
  have k_3 : (Cond.fieldLink RX6 19 "RoadDust" "now" "LRoadDust$Road;").before _ s = true := hts _ (by decide +kernel)
  have hV0 := hC.2.1 0 (by decide)
  have hV1 := hC.2.1 1 (by decide)
  refine lv_aload_n hx hb dX6_addHouse_0 rfl (lv_at hl 0 rfl) ?_
  refine go_getr (C := RX6) (T := TX6) (ci := 6) hx hb hts in_X6 hown hK hG (hC.1 475 (by decide) (by decide)) (show gC 475 = (6, 32, 0) from rfl) (by decide) rfl 3 (by decide) rfl hC.2.2.2.2.2.1 k_1 (fun _ h => h) dX6_addHouse_1 ?_
  refine lv_aload_n hx hb dX6_addHouse_4 rfl (lv_at hl 0 rfl) ?_
  refine go_getr (C := RX6) (T := TX6) (ci := 6) hx hb hts in_X6 hown hK hG (hC.1 475 (by decide) (by decide)) (show gC 475 = (6, 32, 0) from rfl) (by decide) rfl 1 (by decide) rfl hC.2.2.2.1 k_3 (fun _ h => h) dX6_addHouse_5 ?_
  refine g_callV (As := [.ref (gad Γ (25 * 0))]) (rest := []) (st1 := []) hF (mX0_draft M R O hC X G J S C P Q pm hp k hk hk14 hB) (cwV 1 hts gX6_addHouse_X0_draft rfl rfl rfl (by decide +kernel) ⟨Nat.le_of_ble_eq_true rfl, Nat.le_of_ble_eq_true rfl⟩) hK hZ hG hS (hC.1 478 (by decide) (by decide)) (show gC 478 = (0, 21, 0) from rfl) (by decide) rfl rfl hl.1 (Nat.le_of_ble_eq_true rfl) dX6_addHouse_8 ⟨Nat.zero_le _, Nat.zero_le _⟩ rfl rfl (fun H locs hG hS => ?_)
  refine lv_aload_n hx hb dX6_addHouse_11 rfl (lv_at hl 0 rfl) ?_
  refine lv_aload_n hx hb dX6_addHouse_12 rfl (lv_at hl 0 rfl) ?_
  refine go_getr (C := RX6) (T := TX6) (ci := 6) hx hb hts in_X6 hown hK hG (hC.1 475 (by decide) (by decide)) (show gC 475 = (6, 32, 0) from rfl) (by decide) rfl 1 (by decide) rfl hC.2.2.2.1 k_3 (fun _ h => h) dX6_addHouse_13 ?_
  refine lv_iload_n hx hb dX6_addHouse_16 rfl (lv_at hl 1 rfl) ?_
  refine lv_iload_n hx hb dX6_addHouse_17 rfl (lv_at hl 2 rfl) ?_
  replace hG := g_st (show _ = va_up (cS (va_up M (pm k) (fX2_copyFrom_P P (M (pm k)))) X G J S C P Q) 0 P from (cS_u0 _ _ _ _ _ _ _ _ _).symm) hG
  refine g_callV (As := [.int a, .int d]) (rest := [.ref (gad Γ 475)]) (st1 := [.int (fX2_buildHouse_v P a d), .ref (gad Γ 475)]) hF (mX2_buildHouse (cS (va_up M (pm k) (fX2_copyFrom_P P (M (pm k)))) X G J S C P Q) R O hV0 P a d) (cwV 2 hts gX6_addHouse_X2_buildHouse rfl rfl rfl (by decide +kernel) ⟨Nat.le_of_ble_eq_true rfl, Nat.le_of_ble_eq_true rfl⟩) hK hZ hG hS hV0.c0 (gC_Rd hV0.1) (by decide) rfl rfl hl.1 (Nat.le_of_ble_eq_true rfl) dX6_addHouse_18 ⟨Nat.zero_le _, Nat.zero_le _⟩ rfl rfl (fun H locs hG hS => ?_)
  replace hG : GH Γ (cS (va_up M (pm k) (fX2_copyFrom_P P (M (pm k)))) X G J S C (fX2_buildHouse_P P a d) Q) R O _ := g_st (cS_u0 _ _ _ _ _ _ _ _ _) hG
  refine g_callV (As := [.int (fX2_buildHouse_v P a d)]) (rest := []) (st1 := [.int (fX2_buildHouse_v P a d)]) hF (mX6_acted (va_up M (pm k) (fX2_copyFrom_P P (M (pm k)))) R O hC X G J S C (fX2_buildHouse_P P a d) Q pm hp k hk hk14 (fX2_buildHouse_v P a d) hr) (cwV 1 hts gX6_addHouse_X6_acted rfl rfl rfl (by decide +kernel) ⟨Nat.le_of_ble_eq_true rfl, Nat.le_of_ble_eq_true rfl⟩) hK hZ hG hS (hC.1 475 (by decide) (by decide)) (show gC 475 = (6, 32, 0) from rfl) (by decide) rfl rfl hl.1 (Nat.le_of_ble_eq_true rfl) dX6_addHouse_21 ⟨Nat.zero_le _, Nat.zero_le _⟩ rfl rfl (fun H locs hG hS => ?_)
  exact g_iret hx hb hrt hlocks hS hG rfl rfl dX6_addHouse_24

set_option maxHeartbeats 4000000 in
set_option maxRecDepth 100000 in
theorem tX6_addHouse {l : Launch} {Γ : gX} (hst : l.stackTraces = false) (M : Nat → Nat → Int32) (R : Nat → Nat → Option Nat) (O : Int64) (hC : LC Γ R) (X G J S C P Q : Nat → Int32) (pm : Nat → Nat) (hp : HP R pm) (k : Nat) (hk : J 1 = nI k) (hk14 : k ≤ 14) (hB : BL P) (a d : Int32) {En : String} (hr : xOf (fX2_buildHouse_v P a d) = some En) : gThr l Γ yX6_addHouse wsX6_addHouse 8 124 [.ref (gad Γ 475), .int a, .int d] (cS M X G J S C P Q) R O En (cS (va_up M (pm k) (fX2_copyFrom_P P (M (pm k)))) X G J S C (fX2_buildHouse_P P a d) Q) R O := by
  refine g_startT (cc := cX6_addHouse) (maxL := 3) (ret := (some .int)) (by decide) rfl (Nat.le_of_ble_eq_true rfl) ?_
  intro p e s m below meth c ls hx hb hml hrt hts hown hlocks hname hK hZ hG hS hl hX hnx
  have hl : lv_has ls 3 [(0, .ref (gad Γ 475)), (1, .int a), (2, .int d)] := hl
  have hown : s.vm.findClass RX6 = some m.cls := hown
  have hF : CallFix p m c cX6_addHouse 3 s _ wsX6_addHouse RX6 := ⟨hx, hb, hml, hown, hts⟩
  have k_1 : (Cond.fieldLink RX6 29 "RoadDust" "history" "LRoadDust$History;").before _ s = true := hts _ (by decide +kernel)
  have in_X6 : ∀ w ∈ wsX60, w ∈ wsX6_addHouse := by decide +kernel
  have k_3 : (Cond.fieldLink RX6 19 "RoadDust" "now" "LRoadDust$Road;").before _ s = true := hts _ (by decide +kernel)
  have hV0 := hC.2.1 0 (by decide)
  have hV1 := hC.2.1 1 (by decide)
  refine lv_aload_n hx hb dX6_addHouse_0 rfl (lv_at hl 0 rfl) ?_
  refine go_getr (C := RX6) (T := TX6) (ci := 6) hx hb hts in_X6 hown hK hG (hC.1 475 (by decide) (by decide)) (show gC 475 = (6, 32, 0) from rfl) (by decide) rfl 3 (by decide) rfl hC.2.2.2.2.2.1 k_1 (fun _ h => h) dX6_addHouse_1 ?_
  refine lv_aload_n hx hb dX6_addHouse_4 rfl (lv_at hl 0 rfl) ?_
  refine go_getr (C := RX6) (T := TX6) (ci := 6) hx hb hts in_X6 hown hK hG (hC.1 475 (by decide) (by decide)) (show gC 475 = (6, 32, 0) from rfl) (by decide) rfl 1 (by decide) rfl hC.2.2.2.1 k_3 (fun _ h => h) dX6_addHouse_5 ?_
  refine g_callV (As := [.ref (gad Γ (25 * 0))]) (rest := []) (st1 := []) hF (mX0_draft M R O hC X G J S C P Q pm hp k hk hk14 hB) (cwV 1 hts gX6_addHouse_X0_draft rfl rfl rfl (by decide +kernel) ⟨Nat.le_of_ble_eq_true rfl, Nat.le_of_ble_eq_true rfl⟩) hK hZ hG hS (hC.1 478 (by decide) (by decide)) (show gC 478 = (0, 21, 0) from rfl) (by decide) rfl rfl hl.1 (Nat.le_of_ble_eq_true rfl) dX6_addHouse_8 ⟨Nat.zero_le _, Nat.zero_le _⟩ rfl rfl (fun H locs hG hS => ?_)
  refine lv_aload_n hx hb dX6_addHouse_11 rfl (lv_at hl 0 rfl) ?_
  refine lv_aload_n hx hb dX6_addHouse_12 rfl (lv_at hl 0 rfl) ?_
  refine go_getr (C := RX6) (T := TX6) (ci := 6) hx hb hts in_X6 hown hK hG (hC.1 475 (by decide) (by decide)) (show gC 475 = (6, 32, 0) from rfl) (by decide) rfl 1 (by decide) rfl hC.2.2.2.1 k_3 (fun _ h => h) dX6_addHouse_13 ?_
  refine lv_iload_n hx hb dX6_addHouse_16 rfl (lv_at hl 1 rfl) ?_
  refine lv_iload_n hx hb dX6_addHouse_17 rfl (lv_at hl 2 rfl) ?_
  replace hG := g_st (show _ = va_up (cS (va_up M (pm k) (fX2_copyFrom_P P (M (pm k)))) X G J S C P Q) 0 P from (cS_u0 _ _ _ _ _ _ _ _ _).symm) hG
  refine g_callV (As := [.int a, .int d]) (rest := [.ref (gad Γ 475)]) (st1 := [.int (fX2_buildHouse_v P a d), .ref (gad Γ 475)]) hF (mX2_buildHouse (cS (va_up M (pm k) (fX2_copyFrom_P P (M (pm k)))) X G J S C P Q) R O hV0 P a d) (cwV 2 hts gX6_addHouse_X2_buildHouse rfl rfl rfl (by decide +kernel) ⟨Nat.le_of_ble_eq_true rfl, Nat.le_of_ble_eq_true rfl⟩) hK hZ hG hS hV0.c0 (gC_Rd hV0.1) (by decide) rfl rfl hl.1 (Nat.le_of_ble_eq_true rfl) dX6_addHouse_18 ⟨Nat.zero_le _, Nat.zero_le _⟩ rfl rfl (fun H locs hG hS => ?_)
  replace hG : GH Γ (cS (va_up M (pm k) (fX2_copyFrom_P P (M (pm k)))) X G J S C (fX2_buildHouse_P P a d) Q) R O _ := g_st (cS_u0 _ _ _ _ _ _ _ _ _) hG
  exact g_xV (As := [.int (fX2_buildHouse_v P a d)]) (rest := []) hF (tX6_acted hst (va_up M (pm k) (fX2_copyFrom_P P (M (pm k)))) R O hC X G J S C (fX2_buildHouse_P P a d) Q (fX2_buildHouse_v P a d) hr) (cwV 1 hts gX6_addHouse_X6_acted rfl rfl rfl (by decide +kernel) ⟨Nat.le_of_ble_eq_true rfl, Nat.le_of_ble_eq_true rfl⟩) hK hZ hX hG hS (hC.1 475 (by decide) (by decide)) (show gC 475 = (6, 32, 0) from rfl) (by decide) rfl rfl hl.1 (Nat.le_of_ble_eq_true rfl) dX6_addHouse_21 ⟨Nat.le_of_ble_eq_true rfl, Nat.le_of_ble_eq_true rfl⟩ rfl hnx hlocks

set_option maxHeartbeats 4000000 in
set_option maxRecDepth 100000 in
theorem mX6_addWagon {l : Launch} {Γ : gX} (M : Nat → Nat → Int32) (R : Nat → Nat → Option Nat) (O : Int64) (hC : LC Γ R) (X G J S C P Q : Nat → Int32) (pm : Nat → Nat) (hp : HP R pm) (k : Nat) (hk : J 1 = nI k) (hk14 : k ≤ 14) (hB : BL P) (a : Int32) (hr : xOf (fX2_bringWagon_v P a) = none) : gMet l Γ yX6_addWagon wsX6_addWagon 3 64 [.ref (gad Γ 475), .int a] (cS M X G J S C P Q) R O (some (.int (fX2_bringWagon_v P a))) (cS (va_up M (pm k) (fX2_copyFrom_P P (M (pm k)))) X G (keepJ J) S C (fX2_bringWagon_P P a) Q) (keepR R J) O := by
  refine g_start (cc := cX6_addWagon) (maxL := 2) (ret := (some .int)) (by decide) rfl (Nat.le_of_ble_eq_true rfl) ?_
  intro p e s m below meth c ls hx hb hml hrt hts hown hlocks hname hK hZ hG hS hl
  have hl : lv_has ls 2 [(0, .ref (gad Γ 475)), (1, .int a)] := hl
  have hown : s.vm.findClass RX6 = some m.cls := hown
  have hF : CallFix p m c cX6_addWagon 2 s _ wsX6_addWagon RX6 := ⟨hx, hb, hml, hown, hts⟩
  have k_1 : (Cond.fieldLink RX6 29 "RoadDust" "history" "LRoadDust$History;").before _ s = true := hts _ (by decide +kernel)
  have in_X6 : ∀ w ∈ wsX60, w ∈ wsX6_addWagon := by decide +kernel
  have k_3 : (Cond.fieldLink RX6 19 "RoadDust" "now" "LRoadDust$Road;").before _ s = true := hts _ (by decide +kernel)
  have hV0 := hC.2.1 0 (by decide)
  have hV1 := hC.2.1 1 (by decide)
  refine lv_aload_n hx hb dX6_addWagon_0 rfl (lv_at hl 0 rfl) ?_
  refine go_getr (C := RX6) (T := TX6) (ci := 6) hx hb hts in_X6 hown hK hG (hC.1 475 (by decide) (by decide)) (show gC 475 = (6, 32, 0) from rfl) (by decide) rfl 3 (by decide) rfl hC.2.2.2.2.2.1 k_1 (fun _ h => h) dX6_addWagon_1 ?_
  refine lv_aload_n hx hb dX6_addWagon_4 rfl (lv_at hl 0 rfl) ?_
  refine go_getr (C := RX6) (T := TX6) (ci := 6) hx hb hts in_X6 hown hK hG (hC.1 475 (by decide) (by decide)) (show gC 475 = (6, 32, 0) from rfl) (by decide) rfl 1 (by decide) rfl hC.2.2.2.1 k_3 (fun _ h => h) dX6_addWagon_5 ?_
  refine g_callV (As := [.ref (gad Γ (25 * 0))]) (rest := []) (st1 := []) hF (mX0_draft M R O hC X G J S C P Q pm hp k hk hk14 hB) (cwV 1 hts gX6_addWagon_X0_draft rfl rfl rfl (by decide +kernel) ⟨Nat.le_of_ble_eq_true rfl, Nat.le_of_ble_eq_true rfl⟩) hK hZ hG hS (hC.1 478 (by decide) (by decide)) (show gC 478 = (0, 21, 0) from rfl) (by decide) rfl rfl hl.1 (Nat.le_of_ble_eq_true rfl) dX6_addWagon_8 ⟨Nat.zero_le _, Nat.zero_le _⟩ rfl rfl (fun H locs hG hS => ?_)
  refine lv_aload_n hx hb dX6_addWagon_11 rfl (lv_at hl 0 rfl) ?_
  refine lv_aload_n hx hb dX6_addWagon_12 rfl (lv_at hl 0 rfl) ?_
  refine go_getr (C := RX6) (T := TX6) (ci := 6) hx hb hts in_X6 hown hK hG (hC.1 475 (by decide) (by decide)) (show gC 475 = (6, 32, 0) from rfl) (by decide) rfl 1 (by decide) rfl hC.2.2.2.1 k_3 (fun _ h => h) dX6_addWagon_13 ?_
  refine lv_iload_n hx hb dX6_addWagon_16 rfl (lv_at hl 1 rfl) ?_
  replace hG := g_st (show _ = va_up (cS (va_up M (pm k) (fX2_copyFrom_P P (M (pm k)))) X G J S C P Q) 0 P from (cS_u0 _ _ _ _ _ _ _ _ _).symm) hG
  refine g_callV (As := [.int a]) (rest := [.ref (gad Γ 475)]) (st1 := [.int (fX2_bringWagon_v P a), .ref (gad Γ 475)]) hF (mX2_bringWagon (cS (va_up M (pm k) (fX2_copyFrom_P P (M (pm k)))) X G J S C P Q) R O hV0 P a) (cwV 1 hts gX6_addWagon_X2_bringWagon rfl rfl rfl (by decide +kernel) ⟨Nat.le_of_ble_eq_true rfl, Nat.le_of_ble_eq_true rfl⟩) hK hZ hG hS hV0.c0 (gC_Rd hV0.1) (by decide) rfl rfl hl.1 (Nat.le_of_ble_eq_true rfl) dX6_addWagon_17 ⟨Nat.zero_le _, Nat.zero_le _⟩ rfl rfl (fun H locs hG hS => ?_)
  replace hG : GH Γ (cS (va_up M (pm k) (fX2_copyFrom_P P (M (pm k)))) X G J S C (fX2_bringWagon_P P a) Q) R O _ := g_st (cS_u0 _ _ _ _ _ _ _ _ _) hG
  refine g_callV (As := [.int (fX2_bringWagon_v P a)]) (rest := []) (st1 := [.int (fX2_bringWagon_v P a)]) hF (mX6_acted (va_up M (pm k) (fX2_copyFrom_P P (M (pm k)))) R O hC X G J S C (fX2_bringWagon_P P a) Q pm hp k hk hk14 (fX2_bringWagon_v P a) hr) (cwV 1 hts gX6_addWagon_X6_acted rfl rfl rfl (by decide +kernel) ⟨Nat.le_of_ble_eq_true rfl, Nat.le_of_ble_eq_true rfl⟩) hK hZ hG hS (hC.1 475 (by decide) (by decide)) (show gC 475 = (6, 32, 0) from rfl) (by decide) rfl rfl hl.1 (Nat.le_of_ble_eq_true rfl) dX6_addWagon_20 ⟨Nat.zero_le _, Nat.zero_le _⟩ rfl rfl (fun H locs hG hS => ?_)
  exact g_iret hx hb hrt hlocks hS hG rfl rfl dX6_addWagon_23

set_option maxHeartbeats 4000000 in
set_option maxRecDepth 100000 in
theorem tX6_addWagon {l : Launch} {Γ : gX} (hst : l.stackTraces = false) (M : Nat → Nat → Int32) (R : Nat → Nat → Option Nat) (O : Int64) (hC : LC Γ R) (X G J S C P Q : Nat → Int32) (pm : Nat → Nat) (hp : HP R pm) (k : Nat) (hk : J 1 = nI k) (hk14 : k ≤ 14) (hB : BL P) (a : Int32) {En : String} (hr : xOf (fX2_bringWagon_v P a) = some En) : gThr l Γ yX6_addWagon wsX6_addWagon 8 124 [.ref (gad Γ 475), .int a] (cS M X G J S C P Q) R O En (cS (va_up M (pm k) (fX2_copyFrom_P P (M (pm k)))) X G J S C (fX2_bringWagon_P P a) Q) R O := by
  refine g_startT (cc := cX6_addWagon) (maxL := 2) (ret := (some .int)) (by decide) rfl (Nat.le_of_ble_eq_true rfl) ?_
  intro p e s m below meth c ls hx hb hml hrt hts hown hlocks hname hK hZ hG hS hl hX hnx
  have hl : lv_has ls 2 [(0, .ref (gad Γ 475)), (1, .int a)] := hl
  have hown : s.vm.findClass RX6 = some m.cls := hown
  have hF : CallFix p m c cX6_addWagon 2 s _ wsX6_addWagon RX6 := ⟨hx, hb, hml, hown, hts⟩
  have k_1 : (Cond.fieldLink RX6 29 "RoadDust" "history" "LRoadDust$History;").before _ s = true := hts _ (by decide +kernel)
  have in_X6 : ∀ w ∈ wsX60, w ∈ wsX6_addWagon := by decide +kernel
  have k_3 : (Cond.fieldLink RX6 19 "RoadDust" "now" "LRoadDust$Road;").before _ s = true := hts _ (by decide +kernel)
  have hV0 := hC.2.1 0 (by decide)
  have hV1 := hC.2.1 1 (by decide)
  refine lv_aload_n hx hb dX6_addWagon_0 rfl (lv_at hl 0 rfl) ?_
  refine go_getr (C := RX6) (T := TX6) (ci := 6) hx hb hts in_X6 hown hK hG (hC.1 475 (by decide) (by decide)) (show gC 475 = (6, 32, 0) from rfl) (by decide) rfl 3 (by decide) rfl hC.2.2.2.2.2.1 k_1 (fun _ h => h) dX6_addWagon_1 ?_
  refine lv_aload_n hx hb dX6_addWagon_4 rfl (lv_at hl 0 rfl) ?_
  refine go_getr (C := RX6) (T := TX6) (ci := 6) hx hb hts in_X6 hown hK hG (hC.1 475 (by decide) (by decide)) (show gC 475 = (6, 32, 0) from rfl) (by decide) rfl 1 (by decide) rfl hC.2.2.2.1 k_3 (fun _ h => h) dX6_addWagon_5 ?_
  refine g_callV (As := [.ref (gad Γ (25 * 0))]) (rest := []) (st1 := []) hF (mX0_draft M R O hC X G J S C P Q pm hp k hk hk14 hB) (cwV 1 hts gX6_addWagon_X0_draft rfl rfl rfl (by decide +kernel) ⟨Nat.le_of_ble_eq_true rfl, Nat.le_of_ble_eq_true rfl⟩) hK hZ hG hS (hC.1 478 (by decide) (by decide)) (show gC 478 = (0, 21, 0) from rfl) (by decide) rfl rfl hl.1 (Nat.le_of_ble_eq_true rfl) dX6_addWagon_8 ⟨Nat.zero_le _, Nat.zero_le _⟩ rfl rfl (fun H locs hG hS => ?_)
  refine lv_aload_n hx hb dX6_addWagon_11 rfl (lv_at hl 0 rfl) ?_
  refine lv_aload_n hx hb dX6_addWagon_12 rfl (lv_at hl 0 rfl) ?_
  refine go_getr (C := RX6) (T := TX6) (ci := 6) hx hb hts in_X6 hown hK hG (hC.1 475 (by decide) (by decide)) (show gC 475 = (6, 32, 0) from rfl) (by decide) rfl 1 (by decide) rfl hC.2.2.2.1 k_3 (fun _ h => h) dX6_addWagon_13 ?_
  refine lv_iload_n hx hb dX6_addWagon_16 rfl (lv_at hl 1 rfl) ?_
  replace hG := g_st (show _ = va_up (cS (va_up M (pm k) (fX2_copyFrom_P P (M (pm k)))) X G J S C P Q) 0 P from (cS_u0 _ _ _ _ _ _ _ _ _).symm) hG
  refine g_callV (As := [.int a]) (rest := [.ref (gad Γ 475)]) (st1 := [.int (fX2_bringWagon_v P a), .ref (gad Γ 475)]) hF (mX2_bringWagon (cS (va_up M (pm k) (fX2_copyFrom_P P (M (pm k)))) X G J S C P Q) R O hV0 P a) (cwV 1 hts gX6_addWagon_X2_bringWagon rfl rfl rfl (by decide +kernel) ⟨Nat.le_of_ble_eq_true rfl, Nat.le_of_ble_eq_true rfl⟩) hK hZ hG hS hV0.c0 (gC_Rd hV0.1) (by decide) rfl rfl hl.1 (Nat.le_of_ble_eq_true rfl) dX6_addWagon_17 ⟨Nat.zero_le _, Nat.zero_le _⟩ rfl rfl (fun H locs hG hS => ?_)
  replace hG : GH Γ (cS (va_up M (pm k) (fX2_copyFrom_P P (M (pm k)))) X G J S C (fX2_bringWagon_P P a) Q) R O _ := g_st (cS_u0 _ _ _ _ _ _ _ _ _) hG
  exact g_xV (As := [.int (fX2_bringWagon_v P a)]) (rest := []) hF (tX6_acted hst (va_up M (pm k) (fX2_copyFrom_P P (M (pm k)))) R O hC X G J S C (fX2_bringWagon_P P a) Q (fX2_bringWagon_v P a) hr) (cwV 1 hts gX6_addWagon_X6_acted rfl rfl rfl (by decide +kernel) ⟨Nat.le_of_ble_eq_true rfl, Nat.le_of_ble_eq_true rfl⟩) hK hZ hX hG hS (hC.1 475 (by decide) (by decide)) (show gC 475 = (6, 32, 0) from rfl) (by decide) rfl rfl hl.1 (Nat.le_of_ble_eq_true rfl) dX6_addWagon_20 ⟨Nat.le_of_ble_eq_true rfl, Nat.le_of_ble_eq_true rfl⟩ rfl hnx hlocks

set_option maxHeartbeats 4000000 in
set_option maxRecDepth 100000 in
theorem mX6_setSurface {l : Launch} {Γ : gX} (M : Nat → Nat → Int32) (R : Nat → Nat → Option Nat) (O : Int64) (hC : LC Γ R) (X G J S C P Q : Nat → Int32) (pm : Nat → Nat) (hp : HP R pm) (k : Nat) (hk : J 1 = nI k) (hk14 : k ≤ 14) (hB : BL P) (a d : Int32) (hr : xOf (fX2_changeSurface_v P a d) = none) : gMet l Γ yX6_setSurface wsX6_setSurface 3 64 [.ref (gad Γ 475), .int a, .int d] (cS M X G J S C P Q) R O (some (.int (fX2_changeSurface_v P a d))) (cS (va_up M (pm k) (fX2_copyFrom_P P (M (pm k)))) X G (keepJ J) S C (fX2_changeSurface_P P a d) Q) (keepR R J) O := by
  refine g_start (cc := cX6_setSurface) (maxL := 3) (ret := (some .int)) (by decide) rfl (Nat.le_of_ble_eq_true rfl) ?_
  intro p e s m below meth c ls hx hb hml hrt hts hown hlocks hname hK hZ hG hS hl
  have hl : lv_has ls 3 [(0, .ref (gad Γ 475)), (1, .int a), (2, .int d)] := hl
  have hown : s.vm.findClass RX6 = some m.cls := hown
  have hF : CallFix p m c cX6_setSurface 3 s _ wsX6_setSurface RX6 := ⟨hx, hb, hml, hown, hts⟩
  have k_1 : (Cond.fieldLink RX6 29 "RoadDust" "history" "LRoadDust$History;").before _ s = true := hts _ (by decide +kernel)
  have in_X6 : ∀ w ∈ wsX60, w ∈ wsX6_setSurface := by decide +kernel
  have k_3 : (Cond.fieldLink RX6 19 "RoadDust" "now" "LRoadDust$Road;").before _ s = true := hts _ (by decide +kernel)
  have hV0 := hC.2.1 0 (by decide)
  have hV1 := hC.2.1 1 (by decide)
  refine lv_aload_n hx hb dX6_setSurface_0 rfl (lv_at hl 0 rfl) ?_
  refine go_getr (C := RX6) (T := TX6) (ci := 6) hx hb hts in_X6 hown hK hG (hC.1 475 (by decide) (by decide)) (show gC 475 = (6, 32, 0) from rfl) (by decide) rfl 3 (by decide) rfl hC.2.2.2.2.2.1 k_1 (fun _ h => h) dX6_setSurface_1 ?_
  refine lv_aload_n hx hb dX6_setSurface_4 rfl (lv_at hl 0 rfl) ?_
  refine go_getr (C := RX6) (T := TX6) (ci := 6) hx hb hts in_X6 hown hK hG (hC.1 475 (by decide) (by decide)) (show gC 475 = (6, 32, 0) from rfl) (by decide) rfl 1 (by decide) rfl hC.2.2.2.1 k_3 (fun _ h => h) dX6_setSurface_5 ?_
  refine g_callV (As := [.ref (gad Γ (25 * 0))]) (rest := []) (st1 := []) hF (mX0_draft M R O hC X G J S C P Q pm hp k hk hk14 hB) (cwV 1 hts gX6_setSurface_X0_draft rfl rfl rfl (by decide +kernel) ⟨Nat.le_of_ble_eq_true rfl, Nat.le_of_ble_eq_true rfl⟩) hK hZ hG hS (hC.1 478 (by decide) (by decide)) (show gC 478 = (0, 21, 0) from rfl) (by decide) rfl rfl hl.1 (Nat.le_of_ble_eq_true rfl) dX6_setSurface_8 ⟨Nat.zero_le _, Nat.zero_le _⟩ rfl rfl (fun H locs hG hS => ?_)
  refine lv_aload_n hx hb dX6_setSurface_11 rfl (lv_at hl 0 rfl) ?_
  refine lv_aload_n hx hb dX6_setSurface_12 rfl (lv_at hl 0 rfl) ?_
  refine go_getr (C := RX6) (T := TX6) (ci := 6) hx hb hts in_X6 hown hK hG (hC.1 475 (by decide) (by decide)) (show gC 475 = (6, 32, 0) from rfl) (by decide) rfl 1 (by decide) rfl hC.2.2.2.1 k_3 (fun _ h => h) dX6_setSurface_13 ?_
  refine lv_iload_n hx hb dX6_setSurface_16 rfl (lv_at hl 1 rfl) ?_
  refine lv_iload_n hx hb dX6_setSurface_17 rfl (lv_at hl 2 rfl) ?_
  replace hG := g_st (show _ = va_up (cS (va_up M (pm k) (fX2_copyFrom_P P (M (pm k)))) X G J S C P Q) 0 P from (cS_u0 _ _ _ _ _ _ _ _ _).symm) hG
  refine g_callV (As := [.int a, .int d]) (rest := [.ref (gad Γ 475)]) (st1 := [.int (fX2_changeSurface_v P a d), .ref (gad Γ 475)]) hF (mX2_changeSurface (cS (va_up M (pm k) (fX2_copyFrom_P P (M (pm k)))) X G J S C P Q) R O hV0 P a d) (cwV 2 hts gX6_setSurface_X2_changeSurface rfl rfl rfl (by decide +kernel) ⟨Nat.le_of_ble_eq_true rfl, Nat.le_of_ble_eq_true rfl⟩) hK hZ hG hS hV0.c0 (gC_Rd hV0.1) (by decide) rfl rfl hl.1 (Nat.le_of_ble_eq_true rfl) dX6_setSurface_18 ⟨Nat.zero_le _, Nat.zero_le _⟩ rfl rfl (fun H locs hG hS => ?_)
  replace hG : GH Γ (cS (va_up M (pm k) (fX2_copyFrom_P P (M (pm k)))) X G J S C (fX2_changeSurface_P P a d) Q) R O _ := g_st (cS_u0 _ _ _ _ _ _ _ _ _) hG
  refine g_callV (As := [.int (fX2_changeSurface_v P a d)]) (rest := []) (st1 := [.int (fX2_changeSurface_v P a d)]) hF (mX6_acted (va_up M (pm k) (fX2_copyFrom_P P (M (pm k)))) R O hC X G J S C (fX2_changeSurface_P P a d) Q pm hp k hk hk14 (fX2_changeSurface_v P a d) hr) (cwV 1 hts gX6_setSurface_X6_acted rfl rfl rfl (by decide +kernel) ⟨Nat.le_of_ble_eq_true rfl, Nat.le_of_ble_eq_true rfl⟩) hK hZ hG hS (hC.1 475 (by decide) (by decide)) (show gC 475 = (6, 32, 0) from rfl) (by decide) rfl rfl hl.1 (Nat.le_of_ble_eq_true rfl) dX6_setSurface_21 ⟨Nat.zero_le _, Nat.zero_le _⟩ rfl rfl (fun H locs hG hS => ?_)
  exact g_iret hx hb hrt hlocks hS hG rfl rfl dX6_setSurface_24

set_option maxHeartbeats 4000000 in
set_option maxRecDepth 100000 in
theorem tX6_setSurface {l : Launch} {Γ : gX} (hst : l.stackTraces = false) (M : Nat → Nat → Int32) (R : Nat → Nat → Option Nat) (O : Int64) (hC : LC Γ R) (X G J S C P Q : Nat → Int32) (pm : Nat → Nat) (hp : HP R pm) (k : Nat) (hk : J 1 = nI k) (hk14 : k ≤ 14) (hB : BL P) (a d : Int32) {En : String} (hr : xOf (fX2_changeSurface_v P a d) = some En) : gThr l Γ yX6_setSurface wsX6_setSurface 8 124 [.ref (gad Γ 475), .int a, .int d] (cS M X G J S C P Q) R O En (cS (va_up M (pm k) (fX2_copyFrom_P P (M (pm k)))) X G J S C (fX2_changeSurface_P P a d) Q) R O := by
  refine g_startT (cc := cX6_setSurface) (maxL := 3) (ret := (some .int)) (by decide) rfl (Nat.le_of_ble_eq_true rfl) ?_
  intro p e s m below meth c ls hx hb hml hrt hts hown hlocks hname hK hZ hG hS hl hX hnx
  have hl : lv_has ls 3 [(0, .ref (gad Γ 475)), (1, .int a), (2, .int d)] := hl
  have hown : s.vm.findClass RX6 = some m.cls := hown
  have hF : CallFix p m c cX6_setSurface 3 s _ wsX6_setSurface RX6 := ⟨hx, hb, hml, hown, hts⟩
  have k_1 : (Cond.fieldLink RX6 29 "RoadDust" "history" "LRoadDust$History;").before _ s = true := hts _ (by decide +kernel)
  have in_X6 : ∀ w ∈ wsX60, w ∈ wsX6_setSurface := by decide +kernel
  have k_3 : (Cond.fieldLink RX6 19 "RoadDust" "now" "LRoadDust$Road;").before _ s = true := hts _ (by decide +kernel)
  have hV0 := hC.2.1 0 (by decide)
  have hV1 := hC.2.1 1 (by decide)
  refine lv_aload_n hx hb dX6_setSurface_0 rfl (lv_at hl 0 rfl) ?_
  refine go_getr (C := RX6) (T := TX6) (ci := 6) hx hb hts in_X6 hown hK hG (hC.1 475 (by decide) (by decide)) (show gC 475 = (6, 32, 0) from rfl) (by decide) rfl 3 (by decide) rfl hC.2.2.2.2.2.1 k_1 (fun _ h => h) dX6_setSurface_1 ?_
  refine lv_aload_n hx hb dX6_setSurface_4 rfl (lv_at hl 0 rfl) ?_
  refine go_getr (C := RX6) (T := TX6) (ci := 6) hx hb hts in_X6 hown hK hG (hC.1 475 (by decide) (by decide)) (show gC 475 = (6, 32, 0) from rfl) (by decide) rfl 1 (by decide) rfl hC.2.2.2.1 k_3 (fun _ h => h) dX6_setSurface_5 ?_
  refine g_callV (As := [.ref (gad Γ (25 * 0))]) (rest := []) (st1 := []) hF (mX0_draft M R O hC X G J S C P Q pm hp k hk hk14 hB) (cwV 1 hts gX6_setSurface_X0_draft rfl rfl rfl (by decide +kernel) ⟨Nat.le_of_ble_eq_true rfl, Nat.le_of_ble_eq_true rfl⟩) hK hZ hG hS (hC.1 478 (by decide) (by decide)) (show gC 478 = (0, 21, 0) from rfl) (by decide) rfl rfl hl.1 (Nat.le_of_ble_eq_true rfl) dX6_setSurface_8 ⟨Nat.zero_le _, Nat.zero_le _⟩ rfl rfl (fun H locs hG hS => ?_)
  refine lv_aload_n hx hb dX6_setSurface_11 rfl (lv_at hl 0 rfl) ?_
  refine lv_aload_n hx hb dX6_setSurface_12 rfl (lv_at hl 0 rfl) ?_
  refine go_getr (C := RX6) (T := TX6) (ci := 6) hx hb hts in_X6 hown hK hG (hC.1 475 (by decide) (by decide)) (show gC 475 = (6, 32, 0) from rfl) (by decide) rfl 1 (by decide) rfl hC.2.2.2.1 k_3 (fun _ h => h) dX6_setSurface_13 ?_
  refine lv_iload_n hx hb dX6_setSurface_16 rfl (lv_at hl 1 rfl) ?_
  refine lv_iload_n hx hb dX6_setSurface_17 rfl (lv_at hl 2 rfl) ?_
  replace hG := g_st (show _ = va_up (cS (va_up M (pm k) (fX2_copyFrom_P P (M (pm k)))) X G J S C P Q) 0 P from (cS_u0 _ _ _ _ _ _ _ _ _).symm) hG
  refine g_callV (As := [.int a, .int d]) (rest := [.ref (gad Γ 475)]) (st1 := [.int (fX2_changeSurface_v P a d), .ref (gad Γ 475)]) hF (mX2_changeSurface (cS (va_up M (pm k) (fX2_copyFrom_P P (M (pm k)))) X G J S C P Q) R O hV0 P a d) (cwV 2 hts gX6_setSurface_X2_changeSurface rfl rfl rfl (by decide +kernel) ⟨Nat.le_of_ble_eq_true rfl, Nat.le_of_ble_eq_true rfl⟩) hK hZ hG hS hV0.c0 (gC_Rd hV0.1) (by decide) rfl rfl hl.1 (Nat.le_of_ble_eq_true rfl) dX6_setSurface_18 ⟨Nat.zero_le _, Nat.zero_le _⟩ rfl rfl (fun H locs hG hS => ?_)
  replace hG : GH Γ (cS (va_up M (pm k) (fX2_copyFrom_P P (M (pm k)))) X G J S C (fX2_changeSurface_P P a d) Q) R O _ := g_st (cS_u0 _ _ _ _ _ _ _ _ _) hG
  exact g_xV (As := [.int (fX2_changeSurface_v P a d)]) (rest := []) hF (tX6_acted hst (va_up M (pm k) (fX2_copyFrom_P P (M (pm k)))) R O hC X G J S C (fX2_changeSurface_P P a d) Q (fX2_changeSurface_v P a d) hr) (cwV 1 hts gX6_setSurface_X6_acted rfl rfl rfl (by decide +kernel) ⟨Nat.le_of_ble_eq_true rfl, Nat.le_of_ble_eq_true rfl⟩) hK hZ hX hG hS (hC.1 475 (by decide) (by decide)) (show gC 475 = (6, 32, 0) from rfl) (by decide) rfl rfl hl.1 (Nat.le_of_ble_eq_true rfl) dX6_setSurface_21 ⟨Nat.le_of_ble_eq_true rfl, Nat.le_of_ble_eq_true rfl⟩ rfl hnx hlocks

set_option maxHeartbeats 4000000 in
set_option maxRecDepth 100000 in
theorem mX6_setLimit {l : Launch} {Γ : gX} (M : Nat → Nat → Int32) (R : Nat → Nat → Option Nat) (O : Int64) (hC : LC Γ R) (X G J S C P Q : Nat → Int32) (pm : Nat → Nat) (hp : HP R pm) (k : Nat) (hk : J 1 = nI k) (hk14 : k ≤ 14) (hB : BL P) (a d : Int32) (hr : xOf (fX2_changeLimit_v P a d) = none) : gMet l Γ yX6_setLimit wsX6_setLimit 3 64 [.ref (gad Γ 475), .int a, .int d] (cS M X G J S C P Q) R O (some (.int (fX2_changeLimit_v P a d))) (cS (va_up M (pm k) (fX2_copyFrom_P P (M (pm k)))) X G (keepJ J) S C (fX2_changeLimit_P P a d) Q) (keepR R J) O := by
  refine g_start (cc := cX6_setLimit) (maxL := 3) (ret := (some .int)) (by decide) rfl (Nat.le_of_ble_eq_true rfl) ?_
  intro p e s m below meth c ls hx hb hml hrt hts hown hlocks hname hK hZ hG hS hl
  have hl : lv_has ls 3 [(0, .ref (gad Γ 475)), (1, .int a), (2, .int d)] := hl
  have hown : s.vm.findClass RX6 = some m.cls := hown
  have hF : CallFix p m c cX6_setLimit 3 s _ wsX6_setLimit RX6 := ⟨hx, hb, hml, hown, hts⟩
  have k_1 : (Cond.fieldLink RX6 29 "RoadDust" "history" "LRoadDust$History;").before _ s = true := hts _ (by decide +kernel)
  have in_X6 : ∀ w ∈ wsX60, w ∈ wsX6_setLimit := by decide +kernel
  have k_3 : (Cond.fieldLink RX6 19 "RoadDust" "now" "LRoadDust$Road;").before _ s = true := hts _ (by decide +kernel)
  have hV0 := hC.2.1 0 (by decide)
  have hV1 := hC.2.1 1 (by decide)
  refine lv_aload_n hx hb dX6_setLimit_0 rfl (lv_at hl 0 rfl) ?_
  refine go_getr (C := RX6) (T := TX6) (ci := 6) hx hb hts in_X6 hown hK hG (hC.1 475 (by decide) (by decide)) (show gC 475 = (6, 32, 0) from rfl) (by decide) rfl 3 (by decide) rfl hC.2.2.2.2.2.1 k_1 (fun _ h => h) dX6_setLimit_1 ?_
  refine lv_aload_n hx hb dX6_setLimit_4 rfl (lv_at hl 0 rfl) ?_
  refine go_getr (C := RX6) (T := TX6) (ci := 6) hx hb hts in_X6 hown hK hG (hC.1 475 (by decide) (by decide)) (show gC 475 = (6, 32, 0) from rfl) (by decide) rfl 1 (by decide) rfl hC.2.2.2.1 k_3 (fun _ h => h) dX6_setLimit_5 ?_
  refine g_callV (As := [.ref (gad Γ (25 * 0))]) (rest := []) (st1 := []) hF (mX0_draft M R O hC X G J S C P Q pm hp k hk hk14 hB) (cwV 1 hts gX6_setLimit_X0_draft rfl rfl rfl (by decide +kernel) ⟨Nat.le_of_ble_eq_true rfl, Nat.le_of_ble_eq_true rfl⟩) hK hZ hG hS (hC.1 478 (by decide) (by decide)) (show gC 478 = (0, 21, 0) from rfl) (by decide) rfl rfl hl.1 (Nat.le_of_ble_eq_true rfl) dX6_setLimit_8 ⟨Nat.zero_le _, Nat.zero_le _⟩ rfl rfl (fun H locs hG hS => ?_)
  refine lv_aload_n hx hb dX6_setLimit_11 rfl (lv_at hl 0 rfl) ?_
  refine lv_aload_n hx hb dX6_setLimit_12 rfl (lv_at hl 0 rfl) ?_
  refine go_getr (C := RX6) (T := TX6) (ci := 6) hx hb hts in_X6 hown hK hG (hC.1 475 (by decide) (by decide)) (show gC 475 = (6, 32, 0) from rfl) (by decide) rfl 1 (by decide) rfl hC.2.2.2.1 k_3 (fun _ h => h) dX6_setLimit_13 ?_
  refine lv_iload_n hx hb dX6_setLimit_16 rfl (lv_at hl 1 rfl) ?_
  refine lv_iload_n hx hb dX6_setLimit_17 rfl (lv_at hl 2 rfl) ?_
  replace hG := g_st (show _ = va_up (cS (va_up M (pm k) (fX2_copyFrom_P P (M (pm k)))) X G J S C P Q) 0 P from (cS_u0 _ _ _ _ _ _ _ _ _).symm) hG
  refine g_callV (As := [.int a, .int d]) (rest := [.ref (gad Γ 475)]) (st1 := [.int (fX2_changeLimit_v P a d), .ref (gad Γ 475)]) hF (mX2_changeLimit (cS (va_up M (pm k) (fX2_copyFrom_P P (M (pm k)))) X G J S C P Q) R O hV0 P a d) (cwV 2 hts gX6_setLimit_X2_changeLimit rfl rfl rfl (by decide +kernel) ⟨Nat.le_of_ble_eq_true rfl, Nat.le_of_ble_eq_true rfl⟩) hK hZ hG hS hV0.c0 (gC_Rd hV0.1) (by decide) rfl rfl hl.1 (Nat.le_of_ble_eq_true rfl) dX6_setLimit_18 ⟨Nat.zero_le _, Nat.zero_le _⟩ rfl rfl (fun H locs hG hS => ?_)
  replace hG : GH Γ (cS (va_up M (pm k) (fX2_copyFrom_P P (M (pm k)))) X G J S C (fX2_changeLimit_P P a d) Q) R O _ := g_st (cS_u0 _ _ _ _ _ _ _ _ _) hG
  refine g_callV (As := [.int (fX2_changeLimit_v P a d)]) (rest := []) (st1 := [.int (fX2_changeLimit_v P a d)]) hF (mX6_acted (va_up M (pm k) (fX2_copyFrom_P P (M (pm k)))) R O hC X G J S C (fX2_changeLimit_P P a d) Q pm hp k hk hk14 (fX2_changeLimit_v P a d) hr) (cwV 1 hts gX6_setLimit_X6_acted rfl rfl rfl (by decide +kernel) ⟨Nat.le_of_ble_eq_true rfl, Nat.le_of_ble_eq_true rfl⟩) hK hZ hG hS (hC.1 475 (by decide) (by decide)) (show gC 475 = (6, 32, 0) from rfl) (by decide) rfl rfl hl.1 (Nat.le_of_ble_eq_true rfl) dX6_setLimit_21 ⟨Nat.zero_le _, Nat.zero_le _⟩ rfl rfl (fun H locs hG hS => ?_)
  exact g_iret hx hb hrt hlocks hS hG rfl rfl dX6_setLimit_24

set_option maxHeartbeats 4000000 in
set_option maxRecDepth 100000 in
theorem tX6_setLimit {l : Launch} {Γ : gX} (hst : l.stackTraces = false) (M : Nat → Nat → Int32) (R : Nat → Nat → Option Nat) (O : Int64) (hC : LC Γ R) (X G J S C P Q : Nat → Int32) (pm : Nat → Nat) (hp : HP R pm) (k : Nat) (hk : J 1 = nI k) (hk14 : k ≤ 14) (hB : BL P) (a d : Int32) {En : String} (hr : xOf (fX2_changeLimit_v P a d) = some En) : gThr l Γ yX6_setLimit wsX6_setLimit 8 124 [.ref (gad Γ 475), .int a, .int d] (cS M X G J S C P Q) R O En (cS (va_up M (pm k) (fX2_copyFrom_P P (M (pm k)))) X G J S C (fX2_changeLimit_P P a d) Q) R O := by
  refine g_startT (cc := cX6_setLimit) (maxL := 3) (ret := (some .int)) (by decide) rfl (Nat.le_of_ble_eq_true rfl) ?_
  intro p e s m below meth c ls hx hb hml hrt hts hown hlocks hname hK hZ hG hS hl hX hnx
  have hl : lv_has ls 3 [(0, .ref (gad Γ 475)), (1, .int a), (2, .int d)] := hl
  have hown : s.vm.findClass RX6 = some m.cls := hown
  have hF : CallFix p m c cX6_setLimit 3 s _ wsX6_setLimit RX6 := ⟨hx, hb, hml, hown, hts⟩
  have k_1 : (Cond.fieldLink RX6 29 "RoadDust" "history" "LRoadDust$History;").before _ s = true := hts _ (by decide +kernel)
  have in_X6 : ∀ w ∈ wsX60, w ∈ wsX6_setLimit := by decide +kernel
  have k_3 : (Cond.fieldLink RX6 19 "RoadDust" "now" "LRoadDust$Road;").before _ s = true := hts _ (by decide +kernel)
  have hV0 := hC.2.1 0 (by decide)
  have hV1 := hC.2.1 1 (by decide)
  refine lv_aload_n hx hb dX6_setLimit_0 rfl (lv_at hl 0 rfl) ?_
  refine go_getr (C := RX6) (T := TX6) (ci := 6) hx hb hts in_X6 hown hK hG (hC.1 475 (by decide) (by decide)) (show gC 475 = (6, 32, 0) from rfl) (by decide) rfl 3 (by decide) rfl hC.2.2.2.2.2.1 k_1 (fun _ h => h) dX6_setLimit_1 ?_
  refine lv_aload_n hx hb dX6_setLimit_4 rfl (lv_at hl 0 rfl) ?_
  refine go_getr (C := RX6) (T := TX6) (ci := 6) hx hb hts in_X6 hown hK hG (hC.1 475 (by decide) (by decide)) (show gC 475 = (6, 32, 0) from rfl) (by decide) rfl 1 (by decide) rfl hC.2.2.2.1 k_3 (fun _ h => h) dX6_setLimit_5 ?_
  refine g_callV (As := [.ref (gad Γ (25 * 0))]) (rest := []) (st1 := []) hF (mX0_draft M R O hC X G J S C P Q pm hp k hk hk14 hB) (cwV 1 hts gX6_setLimit_X0_draft rfl rfl rfl (by decide +kernel) ⟨Nat.le_of_ble_eq_true rfl, Nat.le_of_ble_eq_true rfl⟩) hK hZ hG hS (hC.1 478 (by decide) (by decide)) (show gC 478 = (0, 21, 0) from rfl) (by decide) rfl rfl hl.1 (Nat.le_of_ble_eq_true rfl) dX6_setLimit_8 ⟨Nat.zero_le _, Nat.zero_le _⟩ rfl rfl (fun H locs hG hS => ?_)
  refine lv_aload_n hx hb dX6_setLimit_11 rfl (lv_at hl 0 rfl) ?_
  refine lv_aload_n hx hb dX6_setLimit_12 rfl (lv_at hl 0 rfl) ?_
  refine go_getr (C := RX6) (T := TX6) (ci := 6) hx hb hts in_X6 hown hK hG (hC.1 475 (by decide) (by decide)) (show gC 475 = (6, 32, 0) from rfl) (by decide) rfl 1 (by decide) rfl hC.2.2.2.1 k_3 (fun _ h => h) dX6_setLimit_13 ?_
  refine lv_iload_n hx hb dX6_setLimit_16 rfl (lv_at hl 1 rfl) ?_
  refine lv_iload_n hx hb dX6_setLimit_17 rfl (lv_at hl 2 rfl) ?_
  replace hG := g_st (show _ = va_up (cS (va_up M (pm k) (fX2_copyFrom_P P (M (pm k)))) X G J S C P Q) 0 P from (cS_u0 _ _ _ _ _ _ _ _ _).symm) hG
  refine g_callV (As := [.int a, .int d]) (rest := [.ref (gad Γ 475)]) (st1 := [.int (fX2_changeLimit_v P a d), .ref (gad Γ 475)]) hF (mX2_changeLimit (cS (va_up M (pm k) (fX2_copyFrom_P P (M (pm k)))) X G J S C P Q) R O hV0 P a d) (cwV 2 hts gX6_setLimit_X2_changeLimit rfl rfl rfl (by decide +kernel) ⟨Nat.le_of_ble_eq_true rfl, Nat.le_of_ble_eq_true rfl⟩) hK hZ hG hS hV0.c0 (gC_Rd hV0.1) (by decide) rfl rfl hl.1 (Nat.le_of_ble_eq_true rfl) dX6_setLimit_18 ⟨Nat.zero_le _, Nat.zero_le _⟩ rfl rfl (fun H locs hG hS => ?_)
  replace hG : GH Γ (cS (va_up M (pm k) (fX2_copyFrom_P P (M (pm k)))) X G J S C (fX2_changeLimit_P P a d) Q) R O _ := g_st (cS_u0 _ _ _ _ _ _ _ _ _) hG
  exact g_xV (As := [.int (fX2_changeLimit_v P a d)]) (rest := []) hF (tX6_acted hst (va_up M (pm k) (fX2_copyFrom_P P (M (pm k)))) R O hC X G J S C (fX2_changeLimit_P P a d) Q (fX2_changeLimit_v P a d) hr) (cwV 1 hts gX6_setLimit_X6_acted rfl rfl rfl (by decide +kernel) ⟨Nat.le_of_ble_eq_true rfl, Nat.le_of_ble_eq_true rfl⟩) hK hZ hX hG hS (hC.1 475 (by decide) (by decide)) (show gC 475 = (6, 32, 0) from rfl) (by decide) rfl rfl hl.1 (Nat.le_of_ble_eq_true rfl) dX6_setLimit_21 ⟨Nat.le_of_ble_eq_true rfl, Nat.le_of_ble_eq_true rfl⟩ rfl hnx hlocks

set_option maxHeartbeats 4000000 in
set_option maxRecDepth 100000 in
theorem mX6_set {l : Launch} {Γ : gX} (M : Nat → Nat → Int32) (R : Nat → Nat → Option Nat) (O : Int64) (hC : LC Γ R) (X G J S C P Q : Nat → Int32) (pm : Nat → Nat) (hp : HP R pm) (k : Nat) (hk : J 1 = nI k) (hk14 : k ≤ 14) (hB : BL P) (a d : Int32) (hr : xOf (fX2_changeNumber_v P a d) = none) : gMet l Γ yX6_set wsX6_set 4 87 [.ref (gad Γ 475), .int a, .int d] (cS M X G J S C P Q) R O (some (.int (fX2_changeNumber_v P a d))) (cS (va_up M (pm k) (fX2_copyFrom_P P (M (pm k)))) X G (keepJ J) S C (fX2_changeNumber_P P a d) Q) (keepR R J) O := by
  refine g_start (cc := cX6_set) (maxL := 3) (ret := (some .int)) (by decide) rfl (Nat.le_of_ble_eq_true rfl) ?_
  intro p e s m below meth c ls hx hb hml hrt hts hown hlocks hname hK hZ hG hS hl
  have hl : lv_has ls 3 [(0, .ref (gad Γ 475)), (1, .int a), (2, .int d)] := hl
  have hown : s.vm.findClass RX6 = some m.cls := hown
  have hF : CallFix p m c cX6_set 3 s _ wsX6_set RX6 := ⟨hx, hb, hml, hown, hts⟩
  have k_1 : (Cond.fieldLink RX6 29 "RoadDust" "history" "LRoadDust$History;").before _ s = true := hts _ (by decide +kernel)
  have in_X6 : ∀ w ∈ wsX60, w ∈ wsX6_set := by decide +kernel
  have k_3 : (Cond.fieldLink RX6 19 "RoadDust" "now" "LRoadDust$Road;").before _ s = true := hts _ (by decide +kernel)
  have hV0 := hC.2.1 0 (by decide)
  have hV1 := hC.2.1 1 (by decide)
  refine lv_aload_n hx hb dX6_set_0 rfl (lv_at hl 0 rfl) ?_
  refine go_getr (C := RX6) (T := TX6) (ci := 6) hx hb hts in_X6 hown hK hG (hC.1 475 (by decide) (by decide)) (show gC 475 = (6, 32, 0) from rfl) (by decide) rfl 3 (by decide) rfl hC.2.2.2.2.2.1 k_1 (fun _ h => h) dX6_set_1 ?_
  refine lv_aload_n hx hb dX6_set_4 rfl (lv_at hl 0 rfl) ?_
  refine go_getr (C := RX6) (T := TX6) (ci := 6) hx hb hts in_X6 hown hK hG (hC.1 475 (by decide) (by decide)) (show gC 475 = (6, 32, 0) from rfl) (by decide) rfl 1 (by decide) rfl hC.2.2.2.1 k_3 (fun _ h => h) dX6_set_5 ?_
  refine g_callV (As := [.ref (gad Γ (25 * 0))]) (rest := []) (st1 := []) hF (mX0_draft M R O hC X G J S C P Q pm hp k hk hk14 hB) (cwV 1 hts gX6_set_X0_draft rfl rfl rfl (by decide +kernel) ⟨Nat.le_of_ble_eq_true rfl, Nat.le_of_ble_eq_true rfl⟩) hK hZ hG hS (hC.1 478 (by decide) (by decide)) (show gC 478 = (0, 21, 0) from rfl) (by decide) rfl rfl hl.1 (Nat.le_of_ble_eq_true rfl) dX6_set_8 ⟨Nat.zero_le _, Nat.zero_le _⟩ rfl rfl (fun H locs hG hS => ?_)
  refine lv_aload_n hx hb dX6_set_11 rfl (lv_at hl 0 rfl) ?_
  refine lv_aload_n hx hb dX6_set_12 rfl (lv_at hl 0 rfl) ?_
  refine go_getr (C := RX6) (T := TX6) (ci := 6) hx hb hts in_X6 hown hK hG (hC.1 475 (by decide) (by decide)) (show gC 475 = (6, 32, 0) from rfl) (by decide) rfl 1 (by decide) rfl hC.2.2.2.1 k_3 (fun _ h => h) dX6_set_13 ?_
  refine lv_iload_n hx hb dX6_set_16 rfl (lv_at hl 1 rfl) ?_
  refine lv_iload_n hx hb dX6_set_17 rfl (lv_at hl 2 rfl) ?_
  replace hG := g_st (show _ = va_up (cS (va_up M (pm k) (fX2_copyFrom_P P (M (pm k)))) X G J S C P Q) 0 P from (cS_u0 _ _ _ _ _ _ _ _ _).symm) hG
  refine g_callV (As := [.int a, .int d]) (rest := [.ref (gad Γ 475)]) (st1 := [.int (fX2_changeNumber_v P a d), .ref (gad Γ 475)]) hF (mX2_changeNumber (cS (va_up M (pm k) (fX2_copyFrom_P P (M (pm k)))) X G J S C P Q) R O hV0 P a d) (cwV 2 hts gX6_set_X2_changeNumber rfl rfl rfl (by decide +kernel) ⟨Nat.le_of_ble_eq_true rfl, Nat.le_of_ble_eq_true rfl⟩) hK hZ hG hS hV0.c0 (gC_Rd hV0.1) (by decide) rfl rfl hl.1 (Nat.le_of_ble_eq_true rfl) dX6_set_18 ⟨Nat.zero_le _, Nat.zero_le _⟩ rfl rfl (fun H locs hG hS => ?_)
  replace hG : GH Γ (cS (va_up M (pm k) (fX2_copyFrom_P P (M (pm k)))) X G J S C (fX2_changeNumber_P P a d) Q) R O _ := g_st (cS_u0 _ _ _ _ _ _ _ _ _) hG
  refine g_callV (As := [.int (fX2_changeNumber_v P a d)]) (rest := []) (st1 := [.int (fX2_changeNumber_v P a d)]) hF (mX6_acted (va_up M (pm k) (fX2_copyFrom_P P (M (pm k)))) R O hC X G J S C (fX2_changeNumber_P P a d) Q pm hp k hk hk14 (fX2_changeNumber_v P a d) hr) (cwV 1 hts gX6_set_X6_acted rfl rfl rfl (by decide +kernel) ⟨Nat.le_of_ble_eq_true rfl, Nat.le_of_ble_eq_true rfl⟩) hK hZ hG hS (hC.1 475 (by decide) (by decide)) (show gC 475 = (6, 32, 0) from rfl) (by decide) rfl rfl hl.1 (Nat.le_of_ble_eq_true rfl) dX6_set_21 ⟨Nat.zero_le _, Nat.zero_le _⟩ rfl rfl (fun H locs hG hS => ?_)
  exact g_iret hx hb hrt hlocks hS hG rfl rfl dX6_set_24

set_option maxHeartbeats 4000000 in
set_option maxRecDepth 100000 in
theorem tX6_set {l : Launch} {Γ : gX} (hst : l.stackTraces = false) (M : Nat → Nat → Int32) (R : Nat → Nat → Option Nat) (O : Int64) (hC : LC Γ R) (X G J S C P Q : Nat → Int32) (pm : Nat → Nat) (hp : HP R pm) (k : Nat) (hk : J 1 = nI k) (hk14 : k ≤ 14) (hB : BL P) (a d : Int32) {En : String} (hr : xOf (fX2_changeNumber_v P a d) = some En) : gThr l Γ yX6_set wsX6_set 8 124 [.ref (gad Γ 475), .int a, .int d] (cS M X G J S C P Q) R O En (cS (va_up M (pm k) (fX2_copyFrom_P P (M (pm k)))) X G J S C (fX2_changeNumber_P P a d) Q) R O := by
  refine g_startT (cc := cX6_set) (maxL := 3) (ret := (some .int)) (by decide) rfl (Nat.le_of_ble_eq_true rfl) ?_
  intro p e s m below meth c ls hx hb hml hrt hts hown hlocks hname hK hZ hG hS hl hX hnx
  have hl : lv_has ls 3 [(0, .ref (gad Γ 475)), (1, .int a), (2, .int d)] := hl
  have hown : s.vm.findClass RX6 = some m.cls := hown
  have hF : CallFix p m c cX6_set 3 s _ wsX6_set RX6 := ⟨hx, hb, hml, hown, hts⟩
  have k_1 : (Cond.fieldLink RX6 29 "RoadDust" "history" "LRoadDust$History;").before _ s = true := hts _ (by decide +kernel)
  have in_X6 : ∀ w ∈ wsX60, w ∈ wsX6_set := by decide +kernel
  have k_3 : (Cond.fieldLink RX6 19 "RoadDust" "now" "LRoadDust$Road;").before _ s = true := hts _ (by decide +kernel)
  have hV0 := hC.2.1 0 (by decide)
  have hV1 := hC.2.1 1 (by decide)
  refine lv_aload_n hx hb dX6_set_0 rfl (lv_at hl 0 rfl) ?_
  refine go_getr (C := RX6) (T := TX6) (ci := 6) hx hb hts in_X6 hown hK hG (hC.1 475 (by decide) (by decide)) (show gC 475 = (6, 32, 0) from rfl) (by decide) rfl 3 (by decide) rfl hC.2.2.2.2.2.1 k_1 (fun _ h => h) dX6_set_1 ?_
  refine lv_aload_n hx hb dX6_set_4 rfl (lv_at hl 0 rfl) ?_
  refine go_getr (C := RX6) (T := TX6) (ci := 6) hx hb hts in_X6 hown hK hG (hC.1 475 (by decide) (by decide)) (show gC 475 = (6, 32, 0) from rfl) (by decide) rfl 1 (by decide) rfl hC.2.2.2.1 k_3 (fun _ h => h) dX6_set_5 ?_
  refine g_callV (As := [.ref (gad Γ (25 * 0))]) (rest := []) (st1 := []) hF (mX0_draft M R O hC X G J S C P Q pm hp k hk hk14 hB) (cwV 1 hts gX6_set_X0_draft rfl rfl rfl (by decide +kernel) ⟨Nat.le_of_ble_eq_true rfl, Nat.le_of_ble_eq_true rfl⟩) hK hZ hG hS (hC.1 478 (by decide) (by decide)) (show gC 478 = (0, 21, 0) from rfl) (by decide) rfl rfl hl.1 (Nat.le_of_ble_eq_true rfl) dX6_set_8 ⟨Nat.zero_le _, Nat.zero_le _⟩ rfl rfl (fun H locs hG hS => ?_)
  refine lv_aload_n hx hb dX6_set_11 rfl (lv_at hl 0 rfl) ?_
  refine lv_aload_n hx hb dX6_set_12 rfl (lv_at hl 0 rfl) ?_
  refine go_getr (C := RX6) (T := TX6) (ci := 6) hx hb hts in_X6 hown hK hG (hC.1 475 (by decide) (by decide)) (show gC 475 = (6, 32, 0) from rfl) (by decide) rfl 1 (by decide) rfl hC.2.2.2.1 k_3 (fun _ h => h) dX6_set_13 ?_
  refine lv_iload_n hx hb dX6_set_16 rfl (lv_at hl 1 rfl) ?_
  refine lv_iload_n hx hb dX6_set_17 rfl (lv_at hl 2 rfl) ?_
  replace hG := g_st (show _ = va_up (cS (va_up M (pm k) (fX2_copyFrom_P P (M (pm k)))) X G J S C P Q) 0 P from (cS_u0 _ _ _ _ _ _ _ _ _).symm) hG
  refine g_callV (As := [.int a, .int d]) (rest := [.ref (gad Γ 475)]) (st1 := [.int (fX2_changeNumber_v P a d), .ref (gad Γ 475)]) hF (mX2_changeNumber (cS (va_up M (pm k) (fX2_copyFrom_P P (M (pm k)))) X G J S C P Q) R O hV0 P a d) (cwV 2 hts gX6_set_X2_changeNumber rfl rfl rfl (by decide +kernel) ⟨Nat.le_of_ble_eq_true rfl, Nat.le_of_ble_eq_true rfl⟩) hK hZ hG hS hV0.c0 (gC_Rd hV0.1) (by decide) rfl rfl hl.1 (Nat.le_of_ble_eq_true rfl) dX6_set_18 ⟨Nat.zero_le _, Nat.zero_le _⟩ rfl rfl (fun H locs hG hS => ?_)
  replace hG : GH Γ (cS (va_up M (pm k) (fX2_copyFrom_P P (M (pm k)))) X G J S C (fX2_changeNumber_P P a d) Q) R O _ := g_st (cS_u0 _ _ _ _ _ _ _ _ _) hG
  exact g_xV (As := [.int (fX2_changeNumber_v P a d)]) (rest := []) hF (tX6_acted hst (va_up M (pm k) (fX2_copyFrom_P P (M (pm k)))) R O hC X G J S C (fX2_changeNumber_P P a d) Q (fX2_changeNumber_v P a d) hr) (cwV 1 hts gX6_set_X6_acted rfl rfl rfl (by decide +kernel) ⟨Nat.le_of_ble_eq_true rfl, Nat.le_of_ble_eq_true rfl⟩) hK hZ hX hG hS (hC.1 475 (by decide) (by decide)) (show gC 475 = (6, 32, 0) from rfl) (by decide) rfl rfl hl.1 (Nat.le_of_ble_eq_true rfl) dX6_set_21 ⟨Nat.le_of_ble_eq_true rfl, Nat.le_of_ble_eq_true rfl⟩ rfl hnx hlocks

set_option maxHeartbeats 4000000 in
set_option maxRecDepth 100000 in
theorem mX6_drive {l : Launch} {Γ : gX} (M : Nat → Nat → Int32) (R : Nat → Nat → Option Nat) (O : Int64) (hC : LC Γ R) (X G J S C P Q : Nat → Int32) (pm : Nat → Nat) (hp : HP R pm) (k : Nat) (hk : J 1 = nI k) (hk14 : k ≤ 14) (hB : BL P) (a d : Int32) (hr : xOf (fX2_moveWagon_v P a d) = none) : gMet l Γ yX6_drive wsX6_drive 3 66 [.ref (gad Γ 475), .int a, .int d] (cS M X G J S C P Q) R O (some (.int (fX2_moveWagon_v P a d))) (cS (va_up M (pm k) (fX2_copyFrom_P P (M (pm k)))) X G (keepJ J) S C (fX2_moveWagon_P P a d) Q) (keepR R J) O := by
  refine g_start (cc := cX6_drive) (maxL := 3) (ret := (some .int)) (by decide) rfl (Nat.le_of_ble_eq_true rfl) ?_
  intro p e s m below meth c ls hx hb hml hrt hts hown hlocks hname hK hZ hG hS hl
  have hl : lv_has ls 3 [(0, .ref (gad Γ 475)), (1, .int a), (2, .int d)] := hl
  have hown : s.vm.findClass RX6 = some m.cls := hown
  have hF : CallFix p m c cX6_drive 3 s _ wsX6_drive RX6 := ⟨hx, hb, hml, hown, hts⟩
  have k_1 : (Cond.fieldLink RX6 29 "RoadDust" "history" "LRoadDust$History;").before _ s = true := hts _ (by decide +kernel)
  have in_X6 : ∀ w ∈ wsX60, w ∈ wsX6_drive := by decide +kernel
  have k_3 : (Cond.fieldLink RX6 19 "RoadDust" "now" "LRoadDust$Road;").before _ s = true := hts _ (by decide +kernel)
  have hV0 := hC.2.1 0 (by decide)
  have hV1 := hC.2.1 1 (by decide)
  refine lv_aload_n hx hb dX6_drive_0 rfl (lv_at hl 0 rfl) ?_
  refine go_getr (C := RX6) (T := TX6) (ci := 6) hx hb hts in_X6 hown hK hG (hC.1 475 (by decide) (by decide)) (show gC 475 = (6, 32, 0) from rfl) (by decide) rfl 3 (by decide) rfl hC.2.2.2.2.2.1 k_1 (fun _ h => h) dX6_drive_1 ?_
  refine lv_aload_n hx hb dX6_drive_4 rfl (lv_at hl 0 rfl) ?_
  refine go_getr (C := RX6) (T := TX6) (ci := 6) hx hb hts in_X6 hown hK hG (hC.1 475 (by decide) (by decide)) (show gC 475 = (6, 32, 0) from rfl) (by decide) rfl 1 (by decide) rfl hC.2.2.2.1 k_3 (fun _ h => h) dX6_drive_5 ?_
  refine g_callV (As := [.ref (gad Γ (25 * 0))]) (rest := []) (st1 := []) hF (mX0_draft M R O hC X G J S C P Q pm hp k hk hk14 hB) (cwV 1 hts gX6_drive_X0_draft rfl rfl rfl (by decide +kernel) ⟨Nat.le_of_ble_eq_true rfl, Nat.le_of_ble_eq_true rfl⟩) hK hZ hG hS (hC.1 478 (by decide) (by decide)) (show gC 478 = (0, 21, 0) from rfl) (by decide) rfl rfl hl.1 (Nat.le_of_ble_eq_true rfl) dX6_drive_8 ⟨Nat.zero_le _, Nat.zero_le _⟩ rfl rfl (fun H locs hG hS => ?_)
  refine lv_aload_n hx hb dX6_drive_11 rfl (lv_at hl 0 rfl) ?_
  refine lv_aload_n hx hb dX6_drive_12 rfl (lv_at hl 0 rfl) ?_
  refine go_getr (C := RX6) (T := TX6) (ci := 6) hx hb hts in_X6 hown hK hG (hC.1 475 (by decide) (by decide)) (show gC 475 = (6, 32, 0) from rfl) (by decide) rfl 1 (by decide) rfl hC.2.2.2.1 k_3 (fun _ h => h) dX6_drive_13 ?_
  refine lv_iload_n hx hb dX6_drive_16 rfl (lv_at hl 1 rfl) ?_
  refine lv_iload_n hx hb dX6_drive_17 rfl (lv_at hl 2 rfl) ?_
  replace hG := g_st (show _ = va_up (cS (va_up M (pm k) (fX2_copyFrom_P P (M (pm k)))) X G J S C P Q) 0 P from (cS_u0 _ _ _ _ _ _ _ _ _).symm) hG
  refine g_callV (As := [.int a, .int d]) (rest := [.ref (gad Γ 475)]) (st1 := [.int (fX2_moveWagon_v P a d), .ref (gad Γ 475)]) hF (mX2_moveWagon (cS (va_up M (pm k) (fX2_copyFrom_P P (M (pm k)))) X G J S C P Q) R O hV0 P a d) (cwV 2 hts gX6_drive_X2_moveWagon rfl rfl rfl (by decide +kernel) ⟨Nat.le_of_ble_eq_true rfl, Nat.le_of_ble_eq_true rfl⟩) hK hZ hG hS hV0.c0 (gC_Rd hV0.1) (by decide) rfl rfl hl.1 (Nat.le_of_ble_eq_true rfl) dX6_drive_18 ⟨Nat.zero_le _, Nat.zero_le _⟩ rfl rfl (fun H locs hG hS => ?_)
  replace hG : GH Γ (cS (va_up M (pm k) (fX2_copyFrom_P P (M (pm k)))) X G J S C (fX2_moveWagon_P P a d) Q) R O _ := g_st (cS_u0 _ _ _ _ _ _ _ _ _) hG
  refine g_callV (As := [.int (fX2_moveWagon_v P a d)]) (rest := []) (st1 := [.int (fX2_moveWagon_v P a d)]) hF (mX6_acted (va_up M (pm k) (fX2_copyFrom_P P (M (pm k)))) R O hC X G J S C (fX2_moveWagon_P P a d) Q pm hp k hk hk14 (fX2_moveWagon_v P a d) hr) (cwV 1 hts gX6_drive_X6_acted rfl rfl rfl (by decide +kernel) ⟨Nat.le_of_ble_eq_true rfl, Nat.le_of_ble_eq_true rfl⟩) hK hZ hG hS (hC.1 475 (by decide) (by decide)) (show gC 475 = (6, 32, 0) from rfl) (by decide) rfl rfl hl.1 (Nat.le_of_ble_eq_true rfl) dX6_drive_21 ⟨Nat.zero_le _, Nat.zero_le _⟩ rfl rfl (fun H locs hG hS => ?_)
  exact g_iret hx hb hrt hlocks hS hG rfl rfl dX6_drive_24

set_option maxHeartbeats 4000000 in
set_option maxRecDepth 100000 in
theorem tX6_drive {l : Launch} {Γ : gX} (hst : l.stackTraces = false) (M : Nat → Nat → Int32) (R : Nat → Nat → Option Nat) (O : Int64) (hC : LC Γ R) (X G J S C P Q : Nat → Int32) (pm : Nat → Nat) (hp : HP R pm) (k : Nat) (hk : J 1 = nI k) (hk14 : k ≤ 14) (hB : BL P) (a d : Int32) {En : String} (hr : xOf (fX2_moveWagon_v P a d) = some En) : gThr l Γ yX6_drive wsX6_drive 8 124 [.ref (gad Γ 475), .int a, .int d] (cS M X G J S C P Q) R O En (cS (va_up M (pm k) (fX2_copyFrom_P P (M (pm k)))) X G J S C (fX2_moveWagon_P P a d) Q) R O := by
  refine g_startT (cc := cX6_drive) (maxL := 3) (ret := (some .int)) (by decide) rfl (Nat.le_of_ble_eq_true rfl) ?_
  intro p e s m below meth c ls hx hb hml hrt hts hown hlocks hname hK hZ hG hS hl hX hnx
  have hl : lv_has ls 3 [(0, .ref (gad Γ 475)), (1, .int a), (2, .int d)] := hl
  have hown : s.vm.findClass RX6 = some m.cls := hown
  have hF : CallFix p m c cX6_drive 3 s _ wsX6_drive RX6 := ⟨hx, hb, hml, hown, hts⟩
  have k_1 : (Cond.fieldLink RX6 29 "RoadDust" "history" "LRoadDust$History;").before _ s = true := hts _ (by decide +kernel)
  have in_X6 : ∀ w ∈ wsX60, w ∈ wsX6_drive := by decide +kernel
  have k_3 : (Cond.fieldLink RX6 19 "RoadDust" "now" "LRoadDust$Road;").before _ s = true := hts _ (by decide +kernel)
  have hV0 := hC.2.1 0 (by decide)
  have hV1 := hC.2.1 1 (by decide)
  refine lv_aload_n hx hb dX6_drive_0 rfl (lv_at hl 0 rfl) ?_
  refine go_getr (C := RX6) (T := TX6) (ci := 6) hx hb hts in_X6 hown hK hG (hC.1 475 (by decide) (by decide)) (show gC 475 = (6, 32, 0) from rfl) (by decide) rfl 3 (by decide) rfl hC.2.2.2.2.2.1 k_1 (fun _ h => h) dX6_drive_1 ?_
  refine lv_aload_n hx hb dX6_drive_4 rfl (lv_at hl 0 rfl) ?_
  refine go_getr (C := RX6) (T := TX6) (ci := 6) hx hb hts in_X6 hown hK hG (hC.1 475 (by decide) (by decide)) (show gC 475 = (6, 32, 0) from rfl) (by decide) rfl 1 (by decide) rfl hC.2.2.2.1 k_3 (fun _ h => h) dX6_drive_5 ?_
  refine g_callV (As := [.ref (gad Γ (25 * 0))]) (rest := []) (st1 := []) hF (mX0_draft M R O hC X G J S C P Q pm hp k hk hk14 hB) (cwV 1 hts gX6_drive_X0_draft rfl rfl rfl (by decide +kernel) ⟨Nat.le_of_ble_eq_true rfl, Nat.le_of_ble_eq_true rfl⟩) hK hZ hG hS (hC.1 478 (by decide) (by decide)) (show gC 478 = (0, 21, 0) from rfl) (by decide) rfl rfl hl.1 (Nat.le_of_ble_eq_true rfl) dX6_drive_8 ⟨Nat.zero_le _, Nat.zero_le _⟩ rfl rfl (fun H locs hG hS => ?_)
  refine lv_aload_n hx hb dX6_drive_11 rfl (lv_at hl 0 rfl) ?_
  refine lv_aload_n hx hb dX6_drive_12 rfl (lv_at hl 0 rfl) ?_
  refine go_getr (C := RX6) (T := TX6) (ci := 6) hx hb hts in_X6 hown hK hG (hC.1 475 (by decide) (by decide)) (show gC 475 = (6, 32, 0) from rfl) (by decide) rfl 1 (by decide) rfl hC.2.2.2.1 k_3 (fun _ h => h) dX6_drive_13 ?_
  refine lv_iload_n hx hb dX6_drive_16 rfl (lv_at hl 1 rfl) ?_
  refine lv_iload_n hx hb dX6_drive_17 rfl (lv_at hl 2 rfl) ?_
  replace hG := g_st (show _ = va_up (cS (va_up M (pm k) (fX2_copyFrom_P P (M (pm k)))) X G J S C P Q) 0 P from (cS_u0 _ _ _ _ _ _ _ _ _).symm) hG
  refine g_callV (As := [.int a, .int d]) (rest := [.ref (gad Γ 475)]) (st1 := [.int (fX2_moveWagon_v P a d), .ref (gad Γ 475)]) hF (mX2_moveWagon (cS (va_up M (pm k) (fX2_copyFrom_P P (M (pm k)))) X G J S C P Q) R O hV0 P a d) (cwV 2 hts gX6_drive_X2_moveWagon rfl rfl rfl (by decide +kernel) ⟨Nat.le_of_ble_eq_true rfl, Nat.le_of_ble_eq_true rfl⟩) hK hZ hG hS hV0.c0 (gC_Rd hV0.1) (by decide) rfl rfl hl.1 (Nat.le_of_ble_eq_true rfl) dX6_drive_18 ⟨Nat.zero_le _, Nat.zero_le _⟩ rfl rfl (fun H locs hG hS => ?_)
  replace hG : GH Γ (cS (va_up M (pm k) (fX2_copyFrom_P P (M (pm k)))) X G J S C (fX2_moveWagon_P P a d) Q) R O _ := g_st (cS_u0 _ _ _ _ _ _ _ _ _) hG
  exact g_xV (As := [.int (fX2_moveWagon_v P a d)]) (rest := []) hF (tX6_acted hst (va_up M (pm k) (fX2_copyFrom_P P (M (pm k)))) R O hC X G J S C (fX2_moveWagon_P P a d) Q (fX2_moveWagon_v P a d) hr) (cwV 1 hts gX6_drive_X6_acted rfl rfl rfl (by decide +kernel) ⟨Nat.le_of_ble_eq_true rfl, Nat.le_of_ble_eq_true rfl⟩) hK hZ hX hG hS (hC.1 475 (by decide) (by decide)) (show gC 475 = (6, 32, 0) from rfl) (by decide) rfl rfl hl.1 (Nat.le_of_ble_eq_true rfl) dX6_drive_21 ⟨Nat.le_of_ble_eq_true rfl, Nat.le_of_ble_eq_true rfl⟩ rfl hnx hlocks

set_option maxHeartbeats 4000000 in
set_option maxRecDepth 100000 in
theorem mX6_spray {l : Launch} {Γ : gX} (M : Nat → Nat → Int32) (R : Nat → Nat → Option Nat) (O : Int64) (hC : LC Γ R) (X G J S C P Q : Nat → Int32) (pm : Nat → Nat) (hp : HP R pm) (k : Nat) (hk : J 1 = nI k) (hk14 : k ≤ 14) (hB : BL P) (a d : Int32) (hr : xOf (fX2_sprayFrom_v P a d) = none) : gMet l Γ yX6_spray wsX6_spray 4 88 [.ref (gad Γ 475), .int a, .int d] (cS M X G J S C P Q) R O (some (.int (fX2_sprayFrom_v P a d))) (cS (va_up M (pm k) (fX2_copyFrom_P P (M (pm k)))) X G (keepJ J) S C (fX2_sprayFrom_P P a d) Q) (keepR R J) O := by
  refine g_start (cc := cX6_spray) (maxL := 3) (ret := (some .int)) (by decide) rfl (Nat.le_of_ble_eq_true rfl) ?_
  intro p e s m below meth c ls hx hb hml hrt hts hown hlocks hname hK hZ hG hS hl
  have hl : lv_has ls 3 [(0, .ref (gad Γ 475)), (1, .int a), (2, .int d)] := hl
  have hown : s.vm.findClass RX6 = some m.cls := hown
  have hF : CallFix p m c cX6_spray 3 s _ wsX6_spray RX6 := ⟨hx, hb, hml, hown, hts⟩
  have k_1 : (Cond.fieldLink RX6 29 "RoadDust" "history" "LRoadDust$History;").before _ s = true := hts _ (by decide +kernel)
  have in_X6 : ∀ w ∈ wsX60, w ∈ wsX6_spray := by decide +kernel
  have k_3 : (Cond.fieldLink RX6 19 "RoadDust" "now" "LRoadDust$Road;").before _ s = true := hts _ (by decide +kernel)
  have hV0 := hC.2.1 0 (by decide)
  have hV1 := hC.2.1 1 (by decide)
  refine lv_aload_n hx hb dX6_spray_0 rfl (lv_at hl 0 rfl) ?_
  refine go_getr (C := RX6) (T := TX6) (ci := 6) hx hb hts in_X6 hown hK hG (hC.1 475 (by decide) (by decide)) (show gC 475 = (6, 32, 0) from rfl) (by decide) rfl 3 (by decide) rfl hC.2.2.2.2.2.1 k_1 (fun _ h => h) dX6_spray_1 ?_
  refine lv_aload_n hx hb dX6_spray_4 rfl (lv_at hl 0 rfl) ?_
  refine go_getr (C := RX6) (T := TX6) (ci := 6) hx hb hts in_X6 hown hK hG (hC.1 475 (by decide) (by decide)) (show gC 475 = (6, 32, 0) from rfl) (by decide) rfl 1 (by decide) rfl hC.2.2.2.1 k_3 (fun _ h => h) dX6_spray_5 ?_
  refine g_callV (As := [.ref (gad Γ (25 * 0))]) (rest := []) (st1 := []) hF (mX0_draft M R O hC X G J S C P Q pm hp k hk hk14 hB) (cwV 1 hts gX6_spray_X0_draft rfl rfl rfl (by decide +kernel) ⟨Nat.le_of_ble_eq_true rfl, Nat.le_of_ble_eq_true rfl⟩) hK hZ hG hS (hC.1 478 (by decide) (by decide)) (show gC 478 = (0, 21, 0) from rfl) (by decide) rfl rfl hl.1 (Nat.le_of_ble_eq_true rfl) dX6_spray_8 ⟨Nat.zero_le _, Nat.zero_le _⟩ rfl rfl (fun H locs hG hS => ?_)
  refine lv_aload_n hx hb dX6_spray_11 rfl (lv_at hl 0 rfl) ?_
  refine lv_aload_n hx hb dX6_spray_12 rfl (lv_at hl 0 rfl) ?_
  refine go_getr (C := RX6) (T := TX6) (ci := 6) hx hb hts in_X6 hown hK hG (hC.1 475 (by decide) (by decide)) (show gC 475 = (6, 32, 0) from rfl) (by decide) rfl 1 (by decide) rfl hC.2.2.2.1 k_3 (fun _ h => h) dX6_spray_13 ?_
  refine lv_iload_n hx hb dX6_spray_16 rfl (lv_at hl 1 rfl) ?_
  refine lv_iload_n hx hb dX6_spray_17 rfl (lv_at hl 2 rfl) ?_
  replace hG := g_st (show _ = va_up (cS (va_up M (pm k) (fX2_copyFrom_P P (M (pm k)))) X G J S C P Q) 0 P from (cS_u0 _ _ _ _ _ _ _ _ _).symm) hG
  refine g_callV (As := [.int a, .int d]) (rest := [.ref (gad Γ 475)]) (st1 := [.int (fX2_sprayFrom_v P a d), .ref (gad Γ 475)]) hF (mX2_sprayFrom (cS (va_up M (pm k) (fX2_copyFrom_P P (M (pm k)))) X G J S C P Q) R O hV0 P a d) (cwV 2 hts gX6_spray_X2_sprayFrom rfl rfl rfl (by decide +kernel) ⟨Nat.le_of_ble_eq_true rfl, Nat.le_of_ble_eq_true rfl⟩) hK hZ hG hS hV0.c0 (gC_Rd hV0.1) (by decide) rfl rfl hl.1 (Nat.le_of_ble_eq_true rfl) dX6_spray_18 ⟨Nat.zero_le _, Nat.zero_le _⟩ rfl rfl (fun H locs hG hS => ?_)
  replace hG : GH Γ (cS (va_up M (pm k) (fX2_copyFrom_P P (M (pm k)))) X G J S C (fX2_sprayFrom_P P a d) Q) R O _ := g_st (cS_u0 _ _ _ _ _ _ _ _ _) hG
  refine g_callV (As := [.int (fX2_sprayFrom_v P a d)]) (rest := []) (st1 := [.int (fX2_sprayFrom_v P a d)]) hF (mX6_acted (va_up M (pm k) (fX2_copyFrom_P P (M (pm k)))) R O hC X G J S C (fX2_sprayFrom_P P a d) Q pm hp k hk hk14 (fX2_sprayFrom_v P a d) hr) (cwV 1 hts gX6_spray_X6_acted rfl rfl rfl (by decide +kernel) ⟨Nat.le_of_ble_eq_true rfl, Nat.le_of_ble_eq_true rfl⟩) hK hZ hG hS (hC.1 475 (by decide) (by decide)) (show gC 475 = (6, 32, 0) from rfl) (by decide) rfl rfl hl.1 (Nat.le_of_ble_eq_true rfl) dX6_spray_21 ⟨Nat.zero_le _, Nat.zero_le _⟩ rfl rfl (fun H locs hG hS => ?_)
  exact g_iret hx hb hrt hlocks hS hG rfl rfl dX6_spray_24

set_option maxHeartbeats 4000000 in
set_option maxRecDepth 100000 in
theorem tX6_spray {l : Launch} {Γ : gX} (hst : l.stackTraces = false) (M : Nat → Nat → Int32) (R : Nat → Nat → Option Nat) (O : Int64) (hC : LC Γ R) (X G J S C P Q : Nat → Int32) (pm : Nat → Nat) (hp : HP R pm) (k : Nat) (hk : J 1 = nI k) (hk14 : k ≤ 14) (hB : BL P) (a d : Int32) {En : String} (hr : xOf (fX2_sprayFrom_v P a d) = some En) : gThr l Γ yX6_spray wsX6_spray 8 124 [.ref (gad Γ 475), .int a, .int d] (cS M X G J S C P Q) R O En (cS (va_up M (pm k) (fX2_copyFrom_P P (M (pm k)))) X G J S C (fX2_sprayFrom_P P a d) Q) R O := by
  refine g_startT (cc := cX6_spray) (maxL := 3) (ret := (some .int)) (by decide) rfl (Nat.le_of_ble_eq_true rfl) ?_
  intro p e s m below meth c ls hx hb hml hrt hts hown hlocks hname hK hZ hG hS hl hX hnx
  have hl : lv_has ls 3 [(0, .ref (gad Γ 475)), (1, .int a), (2, .int d)] := hl
  have hown : s.vm.findClass RX6 = some m.cls := hown
  have hF : CallFix p m c cX6_spray 3 s _ wsX6_spray RX6 := ⟨hx, hb, hml, hown, hts⟩
  have k_1 : (Cond.fieldLink RX6 29 "RoadDust" "history" "LRoadDust$History;").before _ s = true := hts _ (by decide +kernel)
  have in_X6 : ∀ w ∈ wsX60, w ∈ wsX6_spray := by decide +kernel
  have k_3 : (Cond.fieldLink RX6 19 "RoadDust" "now" "LRoadDust$Road;").before _ s = true := hts _ (by decide +kernel)
  have hV0 := hC.2.1 0 (by decide)
  have hV1 := hC.2.1 1 (by decide)
  refine lv_aload_n hx hb dX6_spray_0 rfl (lv_at hl 0 rfl) ?_
  refine go_getr (C := RX6) (T := TX6) (ci := 6) hx hb hts in_X6 hown hK hG (hC.1 475 (by decide) (by decide)) (show gC 475 = (6, 32, 0) from rfl) (by decide) rfl 3 (by decide) rfl hC.2.2.2.2.2.1 k_1 (fun _ h => h) dX6_spray_1 ?_
  refine lv_aload_n hx hb dX6_spray_4 rfl (lv_at hl 0 rfl) ?_
  refine go_getr (C := RX6) (T := TX6) (ci := 6) hx hb hts in_X6 hown hK hG (hC.1 475 (by decide) (by decide)) (show gC 475 = (6, 32, 0) from rfl) (by decide) rfl 1 (by decide) rfl hC.2.2.2.1 k_3 (fun _ h => h) dX6_spray_5 ?_
  refine g_callV (As := [.ref (gad Γ (25 * 0))]) (rest := []) (st1 := []) hF (mX0_draft M R O hC X G J S C P Q pm hp k hk hk14 hB) (cwV 1 hts gX6_spray_X0_draft rfl rfl rfl (by decide +kernel) ⟨Nat.le_of_ble_eq_true rfl, Nat.le_of_ble_eq_true rfl⟩) hK hZ hG hS (hC.1 478 (by decide) (by decide)) (show gC 478 = (0, 21, 0) from rfl) (by decide) rfl rfl hl.1 (Nat.le_of_ble_eq_true rfl) dX6_spray_8 ⟨Nat.zero_le _, Nat.zero_le _⟩ rfl rfl (fun H locs hG hS => ?_)
  refine lv_aload_n hx hb dX6_spray_11 rfl (lv_at hl 0 rfl) ?_
  refine lv_aload_n hx hb dX6_spray_12 rfl (lv_at hl 0 rfl) ?_
  refine go_getr (C := RX6) (T := TX6) (ci := 6) hx hb hts in_X6 hown hK hG (hC.1 475 (by decide) (by decide)) (show gC 475 = (6, 32, 0) from rfl) (by decide) rfl 1 (by decide) rfl hC.2.2.2.1 k_3 (fun _ h => h) dX6_spray_13 ?_
  refine lv_iload_n hx hb dX6_spray_16 rfl (lv_at hl 1 rfl) ?_
  refine lv_iload_n hx hb dX6_spray_17 rfl (lv_at hl 2 rfl) ?_
  replace hG := g_st (show _ = va_up (cS (va_up M (pm k) (fX2_copyFrom_P P (M (pm k)))) X G J S C P Q) 0 P from (cS_u0 _ _ _ _ _ _ _ _ _).symm) hG
  refine g_callV (As := [.int a, .int d]) (rest := [.ref (gad Γ 475)]) (st1 := [.int (fX2_sprayFrom_v P a d), .ref (gad Γ 475)]) hF (mX2_sprayFrom (cS (va_up M (pm k) (fX2_copyFrom_P P (M (pm k)))) X G J S C P Q) R O hV0 P a d) (cwV 2 hts gX6_spray_X2_sprayFrom rfl rfl rfl (by decide +kernel) ⟨Nat.le_of_ble_eq_true rfl, Nat.le_of_ble_eq_true rfl⟩) hK hZ hG hS hV0.c0 (gC_Rd hV0.1) (by decide) rfl rfl hl.1 (Nat.le_of_ble_eq_true rfl) dX6_spray_18 ⟨Nat.zero_le _, Nat.zero_le _⟩ rfl rfl (fun H locs hG hS => ?_)
  replace hG : GH Γ (cS (va_up M (pm k) (fX2_copyFrom_P P (M (pm k)))) X G J S C (fX2_sprayFrom_P P a d) Q) R O _ := g_st (cS_u0 _ _ _ _ _ _ _ _ _) hG
  exact g_xV (As := [.int (fX2_sprayFrom_v P a d)]) (rest := []) hF (tX6_acted hst (va_up M (pm k) (fX2_copyFrom_P P (M (pm k)))) R O hC X G J S C (fX2_sprayFrom_P P a d) Q (fX2_sprayFrom_v P a d) hr) (cwV 1 hts gX6_spray_X6_acted rfl rfl rfl (by decide +kernel) ⟨Nat.le_of_ble_eq_true rfl, Nat.le_of_ble_eq_true rfl⟩) hK hZ hX hG hS (hC.1 475 (by decide) (by decide)) (show gC 475 = (6, 32, 0) from rfl) (by decide) rfl rfl hl.1 (Nat.le_of_ble_eq_true rfl) dX6_spray_21 ⟨Nat.le_of_ble_eq_true rfl, Nat.le_of_ble_eq_true rfl⟩ rfl hnx hlocks

set_option maxHeartbeats 4000000 in
set_option maxRecDepth 100000 in
theorem mX6_fill {l : Launch} {Γ : gX} (M : Nat → Nat → Int32) (R : Nat → Nat → Option Nat) (O : Int64) (hC : LC Γ R) (X G J S C P Q : Nat → Int32) (pm : Nat → Nat) (hp : HP R pm) (k : Nat) (hk : J 1 = nI k) (hk14 : k ≤ 14) (hB : BL P) (a : Int32) (hr : xOf (fX2_fillTank_v P a) = none) : gMet l Γ yX6_fill wsX6_fill 3 66 [.ref (gad Γ 475), .int a] (cS M X G J S C P Q) R O (some (.int (fX2_fillTank_v P a))) (cS (va_up M (pm k) (fX2_copyFrom_P P (M (pm k)))) X G (keepJ J) S C (fX2_fillTank_P P a) Q) (keepR R J) O := by
  refine g_start (cc := cX6_fill) (maxL := 2) (ret := (some .int)) (by decide) rfl (Nat.le_of_ble_eq_true rfl) ?_
  intro p e s m below meth c ls hx hb hml hrt hts hown hlocks hname hK hZ hG hS hl
  have hl : lv_has ls 2 [(0, .ref (gad Γ 475)), (1, .int a)] := hl
  have hown : s.vm.findClass RX6 = some m.cls := hown
  have hF : CallFix p m c cX6_fill 2 s _ wsX6_fill RX6 := ⟨hx, hb, hml, hown, hts⟩
  have k_1 : (Cond.fieldLink RX6 29 "RoadDust" "history" "LRoadDust$History;").before _ s = true := hts _ (by decide +kernel)
  have in_X6 : ∀ w ∈ wsX60, w ∈ wsX6_fill := by decide +kernel
  have k_3 : (Cond.fieldLink RX6 19 "RoadDust" "now" "LRoadDust$Road;").before _ s = true := hts _ (by decide +kernel)
  have hV0 := hC.2.1 0 (by decide)
  have hV1 := hC.2.1 1 (by decide)
  refine lv_aload_n hx hb dX6_fill_0 rfl (lv_at hl 0 rfl) ?_
  refine go_getr (C := RX6) (T := TX6) (ci := 6) hx hb hts in_X6 hown hK hG (hC.1 475 (by decide) (by decide)) (show gC 475 = (6, 32, 0) from rfl) (by decide) rfl 3 (by decide) rfl hC.2.2.2.2.2.1 k_1 (fun _ h => h) dX6_fill_1 ?_
  refine lv_aload_n hx hb dX6_fill_4 rfl (lv_at hl 0 rfl) ?_
  refine go_getr (C := RX6) (T := TX6) (ci := 6) hx hb hts in_X6 hown hK hG (hC.1 475 (by decide) (by decide)) (show gC 475 = (6, 32, 0) from rfl) (by decide) rfl 1 (by decide) rfl hC.2.2.2.1 k_3 (fun _ h => h) dX6_fill_5 ?_
  refine g_callV (As := [.ref (gad Γ (25 * 0))]) (rest := []) (st1 := []) hF (mX0_draft M R O hC X G J S C P Q pm hp k hk hk14 hB) (cwV 1 hts gX6_fill_X0_draft rfl rfl rfl (by decide +kernel) ⟨Nat.le_of_ble_eq_true rfl, Nat.le_of_ble_eq_true rfl⟩) hK hZ hG hS (hC.1 478 (by decide) (by decide)) (show gC 478 = (0, 21, 0) from rfl) (by decide) rfl rfl hl.1 (Nat.le_of_ble_eq_true rfl) dX6_fill_8 ⟨Nat.zero_le _, Nat.zero_le _⟩ rfl rfl (fun H locs hG hS => ?_)
  refine lv_aload_n hx hb dX6_fill_11 rfl (lv_at hl 0 rfl) ?_
  refine lv_aload_n hx hb dX6_fill_12 rfl (lv_at hl 0 rfl) ?_
  refine go_getr (C := RX6) (T := TX6) (ci := 6) hx hb hts in_X6 hown hK hG (hC.1 475 (by decide) (by decide)) (show gC 475 = (6, 32, 0) from rfl) (by decide) rfl 1 (by decide) rfl hC.2.2.2.1 k_3 (fun _ h => h) dX6_fill_13 ?_
  refine lv_iload_n hx hb dX6_fill_16 rfl (lv_at hl 1 rfl) ?_
  replace hG := g_st (show _ = va_up (cS (va_up M (pm k) (fX2_copyFrom_P P (M (pm k)))) X G J S C P Q) 0 P from (cS_u0 _ _ _ _ _ _ _ _ _).symm) hG
  refine g_callV (As := [.int a]) (rest := [.ref (gad Γ 475)]) (st1 := [.int (fX2_fillTank_v P a), .ref (gad Γ 475)]) hF (mX2_fillTank (cS (va_up M (pm k) (fX2_copyFrom_P P (M (pm k)))) X G J S C P Q) R O hV0 P a) (cwV 1 hts gX6_fill_X2_fillTank rfl rfl rfl (by decide +kernel) ⟨Nat.le_of_ble_eq_true rfl, Nat.le_of_ble_eq_true rfl⟩) hK hZ hG hS hV0.c0 (gC_Rd hV0.1) (by decide) rfl rfl hl.1 (Nat.le_of_ble_eq_true rfl) dX6_fill_17 ⟨Nat.zero_le _, Nat.zero_le _⟩ rfl rfl (fun H locs hG hS => ?_)
  replace hG : GH Γ (cS (va_up M (pm k) (fX2_copyFrom_P P (M (pm k)))) X G J S C (fX2_fillTank_P P a) Q) R O _ := g_st (cS_u0 _ _ _ _ _ _ _ _ _) hG
  refine g_callV (As := [.int (fX2_fillTank_v P a)]) (rest := []) (st1 := [.int (fX2_fillTank_v P a)]) hF (mX6_acted (va_up M (pm k) (fX2_copyFrom_P P (M (pm k)))) R O hC X G J S C (fX2_fillTank_P P a) Q pm hp k hk hk14 (fX2_fillTank_v P a) hr) (cwV 1 hts gX6_fill_X6_acted rfl rfl rfl (by decide +kernel) ⟨Nat.le_of_ble_eq_true rfl, Nat.le_of_ble_eq_true rfl⟩) hK hZ hG hS (hC.1 475 (by decide) (by decide)) (show gC 475 = (6, 32, 0) from rfl) (by decide) rfl rfl hl.1 (Nat.le_of_ble_eq_true rfl) dX6_fill_20 ⟨Nat.zero_le _, Nat.zero_le _⟩ rfl rfl (fun H locs hG hS => ?_)
  exact g_iret hx hb hrt hlocks hS hG rfl rfl dX6_fill_23

set_option maxHeartbeats 4000000 in
set_option maxRecDepth 100000 in
theorem tX6_fill {l : Launch} {Γ : gX} (hst : l.stackTraces = false) (M : Nat → Nat → Int32) (R : Nat → Nat → Option Nat) (O : Int64) (hC : LC Γ R) (X G J S C P Q : Nat → Int32) (pm : Nat → Nat) (hp : HP R pm) (k : Nat) (hk : J 1 = nI k) (hk14 : k ≤ 14) (hB : BL P) (a : Int32) {En : String} (hr : xOf (fX2_fillTank_v P a) = some En) : gThr l Γ yX6_fill wsX6_fill 8 124 [.ref (gad Γ 475), .int a] (cS M X G J S C P Q) R O En (cS (va_up M (pm k) (fX2_copyFrom_P P (M (pm k)))) X G J S C (fX2_fillTank_P P a) Q) R O := by
  refine g_startT (cc := cX6_fill) (maxL := 2) (ret := (some .int)) (by decide) rfl (Nat.le_of_ble_eq_true rfl) ?_
  intro p e s m below meth c ls hx hb hml hrt hts hown hlocks hname hK hZ hG hS hl hX hnx
  have hl : lv_has ls 2 [(0, .ref (gad Γ 475)), (1, .int a)] := hl
  have hown : s.vm.findClass RX6 = some m.cls := hown
  have hF : CallFix p m c cX6_fill 2 s _ wsX6_fill RX6 := ⟨hx, hb, hml, hown, hts⟩
  have k_1 : (Cond.fieldLink RX6 29 "RoadDust" "history" "LRoadDust$History;").before _ s = true := hts _ (by decide +kernel)
  have in_X6 : ∀ w ∈ wsX60, w ∈ wsX6_fill := by decide +kernel
  have k_3 : (Cond.fieldLink RX6 19 "RoadDust" "now" "LRoadDust$Road;").before _ s = true := hts _ (by decide +kernel)
  have hV0 := hC.2.1 0 (by decide)
  have hV1 := hC.2.1 1 (by decide)
  refine lv_aload_n hx hb dX6_fill_0 rfl (lv_at hl 0 rfl) ?_
  refine go_getr (C := RX6) (T := TX6) (ci := 6) hx hb hts in_X6 hown hK hG (hC.1 475 (by decide) (by decide)) (show gC 475 = (6, 32, 0) from rfl) (by decide) rfl 3 (by decide) rfl hC.2.2.2.2.2.1 k_1 (fun _ h => h) dX6_fill_1 ?_
  refine lv_aload_n hx hb dX6_fill_4 rfl (lv_at hl 0 rfl) ?_
  refine go_getr (C := RX6) (T := TX6) (ci := 6) hx hb hts in_X6 hown hK hG (hC.1 475 (by decide) (by decide)) (show gC 475 = (6, 32, 0) from rfl) (by decide) rfl 1 (by decide) rfl hC.2.2.2.1 k_3 (fun _ h => h) dX6_fill_5 ?_
  refine g_callV (As := [.ref (gad Γ (25 * 0))]) (rest := []) (st1 := []) hF (mX0_draft M R O hC X G J S C P Q pm hp k hk hk14 hB) (cwV 1 hts gX6_fill_X0_draft rfl rfl rfl (by decide +kernel) ⟨Nat.le_of_ble_eq_true rfl, Nat.le_of_ble_eq_true rfl⟩) hK hZ hG hS (hC.1 478 (by decide) (by decide)) (show gC 478 = (0, 21, 0) from rfl) (by decide) rfl rfl hl.1 (Nat.le_of_ble_eq_true rfl) dX6_fill_8 ⟨Nat.zero_le _, Nat.zero_le _⟩ rfl rfl (fun H locs hG hS => ?_)
  refine lv_aload_n hx hb dX6_fill_11 rfl (lv_at hl 0 rfl) ?_
  refine lv_aload_n hx hb dX6_fill_12 rfl (lv_at hl 0 rfl) ?_
  refine go_getr (C := RX6) (T := TX6) (ci := 6) hx hb hts in_X6 hown hK hG (hC.1 475 (by decide) (by decide)) (show gC 475 = (6, 32, 0) from rfl) (by decide) rfl 1 (by decide) rfl hC.2.2.2.1 k_3 (fun _ h => h) dX6_fill_13 ?_
  refine lv_iload_n hx hb dX6_fill_16 rfl (lv_at hl 1 rfl) ?_
  replace hG := g_st (show _ = va_up (cS (va_up M (pm k) (fX2_copyFrom_P P (M (pm k)))) X G J S C P Q) 0 P from (cS_u0 _ _ _ _ _ _ _ _ _).symm) hG
  refine g_callV (As := [.int a]) (rest := [.ref (gad Γ 475)]) (st1 := [.int (fX2_fillTank_v P a), .ref (gad Γ 475)]) hF (mX2_fillTank (cS (va_up M (pm k) (fX2_copyFrom_P P (M (pm k)))) X G J S C P Q) R O hV0 P a) (cwV 1 hts gX6_fill_X2_fillTank rfl rfl rfl (by decide +kernel) ⟨Nat.le_of_ble_eq_true rfl, Nat.le_of_ble_eq_true rfl⟩) hK hZ hG hS hV0.c0 (gC_Rd hV0.1) (by decide) rfl rfl hl.1 (Nat.le_of_ble_eq_true rfl) dX6_fill_17 ⟨Nat.zero_le _, Nat.zero_le _⟩ rfl rfl (fun H locs hG hS => ?_)
  replace hG : GH Γ (cS (va_up M (pm k) (fX2_copyFrom_P P (M (pm k)))) X G J S C (fX2_fillTank_P P a) Q) R O _ := g_st (cS_u0 _ _ _ _ _ _ _ _ _) hG
  exact g_xV (As := [.int (fX2_fillTank_v P a)]) (rest := []) hF (tX6_acted hst (va_up M (pm k) (fX2_copyFrom_P P (M (pm k)))) R O hC X G J S C (fX2_fillTank_P P a) Q (fX2_fillTank_v P a) hr) (cwV 1 hts gX6_fill_X6_acted rfl rfl rfl (by decide +kernel) ⟨Nat.le_of_ble_eq_true rfl, Nat.le_of_ble_eq_true rfl⟩) hK hZ hX hG hS (hC.1 475 (by decide) (by decide)) (show gC 475 = (6, 32, 0) from rfl) (by decide) rfl rfl hl.1 (Nat.le_of_ble_eq_true rfl) dX6_fill_20 ⟨Nat.le_of_ble_eq_true rfl, Nat.le_of_ble_eq_true rfl⟩ rfl hnx hlocks

set_option maxHeartbeats 4000000 in
set_option maxRecDepth 100000 in
theorem mX6_pass {l : Launch} {Γ : gX} (M : Nat → Nat → Int32) (R : Nat → Nat → Option Nat) (O : Int64) (hC : LC Γ R) (X G J S C P Q : Nat → Int32) (pm : Nat → Nat) (hp : HP R pm) (k : Nat) (hk : J 1 = nI k) (hk14 : k ≤ 14) (hB : BL P) (a : Int32) (h8 : (P 1).toNatClampNeg ≤ 8) (hr : xOf (fX2_goHours_v P a) = none) : gMet l Γ yX6_pass wsX6_pass 5 115 [.ref (gad Γ 475), .int a] (cS M X G J S C P Q) R O (some (.int (fX2_goHours_v P a))) (cS (va_up M (pm k) (fX2_copyFrom_P P (M (pm k)))) X G (keepJ J) S C (fX2_goHours_P P a) Q) (keepR R J) O := by
  refine g_start (cc := cX6_pass) (maxL := 2) (ret := (some .int)) (by decide) rfl (Nat.le_of_ble_eq_true rfl) ?_
  intro p e s m below meth c ls hx hb hml hrt hts hown hlocks hname hK hZ hG hS hl
  have hl : lv_has ls 2 [(0, .ref (gad Γ 475)), (1, .int a)] := hl
  have hown : s.vm.findClass RX6 = some m.cls := hown
  have hF : CallFix p m c cX6_pass 2 s _ wsX6_pass RX6 := ⟨hx, hb, hml, hown, hts⟩
  have k_1 : (Cond.fieldLink RX6 29 "RoadDust" "history" "LRoadDust$History;").before _ s = true := hts _ (by decide +kernel)
  have in_X6 : ∀ w ∈ wsX60, w ∈ wsX6_pass := by decide +kernel
  have k_3 : (Cond.fieldLink RX6 19 "RoadDust" "now" "LRoadDust$Road;").before _ s = true := hts _ (by decide +kernel)
  have hV0 := hC.2.1 0 (by decide)
  have hV1 := hC.2.1 1 (by decide)
  refine lv_aload_n hx hb dX6_pass_0 rfl (lv_at hl 0 rfl) ?_
  refine go_getr (C := RX6) (T := TX6) (ci := 6) hx hb hts in_X6 hown hK hG (hC.1 475 (by decide) (by decide)) (show gC 475 = (6, 32, 0) from rfl) (by decide) rfl 3 (by decide) rfl hC.2.2.2.2.2.1 k_1 (fun _ h => h) dX6_pass_1 ?_
  refine lv_aload_n hx hb dX6_pass_4 rfl (lv_at hl 0 rfl) ?_
  refine go_getr (C := RX6) (T := TX6) (ci := 6) hx hb hts in_X6 hown hK hG (hC.1 475 (by decide) (by decide)) (show gC 475 = (6, 32, 0) from rfl) (by decide) rfl 1 (by decide) rfl hC.2.2.2.1 k_3 (fun _ h => h) dX6_pass_5 ?_
  refine g_callV (As := [.ref (gad Γ (25 * 0))]) (rest := []) (st1 := []) hF (mX0_draft M R O hC X G J S C P Q pm hp k hk hk14 hB) (cwV 1 hts gX6_pass_X0_draft rfl rfl rfl (by decide +kernel) ⟨Nat.le_of_ble_eq_true rfl, Nat.le_of_ble_eq_true rfl⟩) hK hZ hG hS (hC.1 478 (by decide) (by decide)) (show gC 478 = (0, 21, 0) from rfl) (by decide) rfl rfl hl.1 (Nat.le_of_ble_eq_true rfl) dX6_pass_8 ⟨Nat.zero_le _, Nat.zero_le _⟩ rfl rfl (fun H locs hG hS => ?_)
  refine lv_aload_n hx hb dX6_pass_11 rfl (lv_at hl 0 rfl) ?_
  refine lv_aload_n hx hb dX6_pass_12 rfl (lv_at hl 0 rfl) ?_
  refine go_getr (C := RX6) (T := TX6) (ci := 6) hx hb hts in_X6 hown hK hG (hC.1 475 (by decide) (by decide)) (show gC 475 = (6, 32, 0) from rfl) (by decide) rfl 1 (by decide) rfl hC.2.2.2.1 k_3 (fun _ h => h) dX6_pass_13 ?_
  refine lv_iload_n hx hb dX6_pass_16 rfl (lv_at hl 1 rfl) ?_
  replace hG := g_st (show _ = va_up (cS (va_up M (pm k) (fX2_copyFrom_P P (M (pm k)))) X G J S C P Q) 0 P from (cS_u0 _ _ _ _ _ _ _ _ _).symm) hG
  refine g_callV (As := [.int a]) (rest := [.ref (gad Γ 475)]) (st1 := [.int (fX2_goHours_v P a), .ref (gad Γ 475)]) hF (mX2_goHours (cS (va_up M (pm k) (fX2_copyFrom_P P (M (pm k)))) X G J S C P Q) R O hV0 P a h8) (cwV 1 hts gX6_pass_X2_goHours rfl rfl rfl (by decide +kernel) ⟨Nat.le_of_ble_eq_true rfl, Nat.le_of_ble_eq_true rfl⟩) hK hZ hG hS hV0.c0 (gC_Rd hV0.1) (by decide) rfl rfl hl.1 (Nat.le_of_ble_eq_true rfl) dX6_pass_17 ⟨Nat.zero_le _, Nat.zero_le _⟩ rfl rfl (fun H locs hG hS => ?_)
  replace hG : GH Γ (cS (va_up M (pm k) (fX2_copyFrom_P P (M (pm k)))) X G J S C (fX2_goHours_P P a) Q) R O _ := g_st (cS_u0 _ _ _ _ _ _ _ _ _) hG
  refine g_callV (As := [.int (fX2_goHours_v P a)]) (rest := []) (st1 := [.int (fX2_goHours_v P a)]) hF (mX6_acted (va_up M (pm k) (fX2_copyFrom_P P (M (pm k)))) R O hC X G J S C (fX2_goHours_P P a) Q pm hp k hk hk14 (fX2_goHours_v P a) hr) (cwV 1 hts gX6_pass_X6_acted rfl rfl rfl (by decide +kernel) ⟨Nat.le_of_ble_eq_true rfl, Nat.le_of_ble_eq_true rfl⟩) hK hZ hG hS (hC.1 475 (by decide) (by decide)) (show gC 475 = (6, 32, 0) from rfl) (by decide) rfl rfl hl.1 (Nat.le_of_ble_eq_true rfl) dX6_pass_20 ⟨Nat.zero_le _, Nat.zero_le _⟩ rfl rfl (fun H locs hG hS => ?_)
  exact g_iret hx hb hrt hlocks hS hG rfl rfl dX6_pass_23

set_option maxHeartbeats 4000000 in
set_option maxRecDepth 100000 in
theorem tX6_pass {l : Launch} {Γ : gX} (hst : l.stackTraces = false) (M : Nat → Nat → Int32) (R : Nat → Nat → Option Nat) (O : Int64) (hC : LC Γ R) (X G J S C P Q : Nat → Int32) (pm : Nat → Nat) (hp : HP R pm) (k : Nat) (hk : J 1 = nI k) (hk14 : k ≤ 14) (hB : BL P) (a : Int32) (h8 : (P 1).toNatClampNeg ≤ 8) {En : String} (hr : xOf (fX2_goHours_v P a) = some En) : gThr l Γ yX6_pass wsX6_pass 8 124 [.ref (gad Γ 475), .int a] (cS M X G J S C P Q) R O En (cS (va_up M (pm k) (fX2_copyFrom_P P (M (pm k)))) X G J S C (fX2_goHours_P P a) Q) R O := by
  refine g_startT (cc := cX6_pass) (maxL := 2) (ret := (some .int)) (by decide) rfl (Nat.le_of_ble_eq_true rfl) ?_
  intro p e s m below meth c ls hx hb hml hrt hts hown hlocks hname hK hZ hG hS hl hX hnx
  have hl : lv_has ls 2 [(0, .ref (gad Γ 475)), (1, .int a)] := hl
  have hown : s.vm.findClass RX6 = some m.cls := hown
  have hF : CallFix p m c cX6_pass 2 s _ wsX6_pass RX6 := ⟨hx, hb, hml, hown, hts⟩
  have k_1 : (Cond.fieldLink RX6 29 "RoadDust" "history" "LRoadDust$History;").before _ s = true := hts _ (by decide +kernel)
  have in_X6 : ∀ w ∈ wsX60, w ∈ wsX6_pass := by decide +kernel
  have k_3 : (Cond.fieldLink RX6 19 "RoadDust" "now" "LRoadDust$Road;").before _ s = true := hts _ (by decide +kernel)
  have hV0 := hC.2.1 0 (by decide)
  have hV1 := hC.2.1 1 (by decide)
  refine lv_aload_n hx hb dX6_pass_0 rfl (lv_at hl 0 rfl) ?_
  refine go_getr (C := RX6) (T := TX6) (ci := 6) hx hb hts in_X6 hown hK hG (hC.1 475 (by decide) (by decide)) (show gC 475 = (6, 32, 0) from rfl) (by decide) rfl 3 (by decide) rfl hC.2.2.2.2.2.1 k_1 (fun _ h => h) dX6_pass_1 ?_
  refine lv_aload_n hx hb dX6_pass_4 rfl (lv_at hl 0 rfl) ?_
  refine go_getr (C := RX6) (T := TX6) (ci := 6) hx hb hts in_X6 hown hK hG (hC.1 475 (by decide) (by decide)) (show gC 475 = (6, 32, 0) from rfl) (by decide) rfl 1 (by decide) rfl hC.2.2.2.1 k_3 (fun _ h => h) dX6_pass_5 ?_
  refine g_callV (As := [.ref (gad Γ (25 * 0))]) (rest := []) (st1 := []) hF (mX0_draft M R O hC X G J S C P Q pm hp k hk hk14 hB) (cwV 1 hts gX6_pass_X0_draft rfl rfl rfl (by decide +kernel) ⟨Nat.le_of_ble_eq_true rfl, Nat.le_of_ble_eq_true rfl⟩) hK hZ hG hS (hC.1 478 (by decide) (by decide)) (show gC 478 = (0, 21, 0) from rfl) (by decide) rfl rfl hl.1 (Nat.le_of_ble_eq_true rfl) dX6_pass_8 ⟨Nat.zero_le _, Nat.zero_le _⟩ rfl rfl (fun H locs hG hS => ?_)
  refine lv_aload_n hx hb dX6_pass_11 rfl (lv_at hl 0 rfl) ?_
  refine lv_aload_n hx hb dX6_pass_12 rfl (lv_at hl 0 rfl) ?_
  refine go_getr (C := RX6) (T := TX6) (ci := 6) hx hb hts in_X6 hown hK hG (hC.1 475 (by decide) (by decide)) (show gC 475 = (6, 32, 0) from rfl) (by decide) rfl 1 (by decide) rfl hC.2.2.2.1 k_3 (fun _ h => h) dX6_pass_13 ?_
  refine lv_iload_n hx hb dX6_pass_16 rfl (lv_at hl 1 rfl) ?_
  replace hG := g_st (show _ = va_up (cS (va_up M (pm k) (fX2_copyFrom_P P (M (pm k)))) X G J S C P Q) 0 P from (cS_u0 _ _ _ _ _ _ _ _ _).symm) hG
  refine g_callV (As := [.int a]) (rest := [.ref (gad Γ 475)]) (st1 := [.int (fX2_goHours_v P a), .ref (gad Γ 475)]) hF (mX2_goHours (cS (va_up M (pm k) (fX2_copyFrom_P P (M (pm k)))) X G J S C P Q) R O hV0 P a h8) (cwV 1 hts gX6_pass_X2_goHours rfl rfl rfl (by decide +kernel) ⟨Nat.le_of_ble_eq_true rfl, Nat.le_of_ble_eq_true rfl⟩) hK hZ hG hS hV0.c0 (gC_Rd hV0.1) (by decide) rfl rfl hl.1 (Nat.le_of_ble_eq_true rfl) dX6_pass_17 ⟨Nat.zero_le _, Nat.zero_le _⟩ rfl rfl (fun H locs hG hS => ?_)
  replace hG : GH Γ (cS (va_up M (pm k) (fX2_copyFrom_P P (M (pm k)))) X G J S C (fX2_goHours_P P a) Q) R O _ := g_st (cS_u0 _ _ _ _ _ _ _ _ _) hG
  exact g_xV (As := [.int (fX2_goHours_v P a)]) (rest := []) hF (tX6_acted hst (va_up M (pm k) (fX2_copyFrom_P P (M (pm k)))) R O hC X G J S C (fX2_goHours_P P a) Q (fX2_goHours_v P a) hr) (cwV 1 hts gX6_pass_X6_acted rfl rfl rfl (by decide +kernel) ⟨Nat.le_of_ble_eq_true rfl, Nat.le_of_ble_eq_true rfl⟩) hK hZ hX hG hS (hC.1 475 (by decide) (by decide)) (show gC 475 = (6, 32, 0) from rfl) (by decide) rfl rfl hl.1 (Nat.le_of_ble_eq_true rfl) dX6_pass_20 ⟨Nat.le_of_ble_eq_true rfl, Nat.le_of_ble_eq_true rfl⟩ rfl hnx hlocks

