/-! THE CLASS: errorPosition, load. Laid by gen/p21.py. -/
set_option maxHeartbeats 4000000 in
set_option maxRecDepth 100000 in
theorem mX6_errorPosition {l : Launch} {Γ : gX} (M : Nat → Nat → Int32) (R : Nat → Nat → Option Nat) (O : Int64) (hC : LC Γ R) (X G J S C P Q : Nat → Int32) (X1 Q1 : Nat → Int32) (v : Int32) (hr : riM v X G Q X1 Q1) : gMet l Γ yX6_errorPosition wsX6_errorPosition 6 132 [.ref (gad Γ 475)] (cS M X G J S C P Q) R O (some (.int v)) (cS M X1 G J S C P Q1) R O := by
  refine g_start (cc := cX6_errorPosition) (maxL := 1) (ret := (some .int)) (by decide) rfl (Nat.le_of_ble_eq_true rfl) ?_
  intro p e s m below meth c ls hx hb hml hrt hts hown hlocks hname hK hZ hG hS hl
  have hl : lv_has ls 1 [(0, .ref (gad Γ 475))] := hl
  have hown : s.vm.findClass RX6 = some m.cls := hown
  have hF : CallFix p m c cX6_errorPosition 1 s _ wsX6_errorPosition RX6 := ⟨hx, hb, hml, hown, hts⟩
  have k_1 : (Cond.fieldLink RX6 10 "RoadDust" "text" "LRoadDust$Text;").before _ s = true := hts _ (by decide +kernel)
  have in_X6 : ∀ w ∈ wsX60, w ∈ wsX6_errorPosition := by decide +kernel
  have k_3 : (Cond.fieldLink RX6 23 "RoadDust" "trial" "LRoadDust$Road;").before _ s = true := hts _ (by decide +kernel)
  have hV0 := hC.2.1 0 (by decide)
  have hV1 := hC.2.1 1 (by decide)
  refine lv_aload_n hx hb dX6_errorPosition_0 rfl (lv_at hl 0 rfl) ?_
  refine go_getr (C := RX6) (T := TX6) (ci := 6) hx hb hts in_X6 hown hK hG (hC.1 475 (by decide) (by decide)) (show gC 475 = (6, 32, 0) from rfl) (by decide) rfl 0 (by decide) rfl hC.2.2.1 k_1 (fun _ h => h) dX6_errorPosition_1 ?_
  refine lv_aload_n hx hb dX6_errorPosition_4 rfl (lv_at hl 0 rfl) ?_
  refine go_getr (C := RX6) (T := TX6) (ci := 6) hx hb hts in_X6 hown hK hG (hC.1 475 (by decide) (by decide)) (show gC 475 = (6, 32, 0) from rfl) (by decide) rfl 2 (by decide) rfl hC.2.2.2.2.1 k_3 (fun _ h => h) dX6_errorPosition_5 ?_
  refine g_callV (As := [.ref (gad Γ (25 * 1))]) (rest := []) (st1 := [.int v]) hF (hr _ _ M R O hC J S C P) (cwV 1 hts gX6_errorPosition_X4_readInto rfl rfl rfl (by decide +kernel) ⟨Nat.le_of_ble_eq_true rfl, Nat.le_of_ble_eq_true rfl⟩) hK hZ hG hS (hC.1 476 (by decide) (by decide)) (show gC 476 = (4, 19, 0) from rfl) (by decide) rfl rfl hl.1 (Nat.le_of_ble_eq_true rfl) dX6_errorPosition_8 ⟨Nat.zero_le _, Nat.zero_le _⟩ rfl rfl (fun H locs hG hS => ?_)
  replace hG : GH Γ (cS M X1 G J S C P Q1) R O _ := hG
  exact g_iret hx hb hrt hlocks hS hG rfl rfl dX6_errorPosition_11

set_option maxHeartbeats 4000000 in
set_option maxRecDepth 100000 in
theorem tX6_load {l : Launch} {Γ : gX} (hst : l.stackTraces = false) (M : Nat → Nat → Int32) (R : Nat → Nat → Option Nat) (O : Int64) (hC : LC Γ R) (X G J S C P Q : Nat → Int32) (X1 Q1 : Nat → Int32) (v : Int32) (hr : riM v X G Q X1 Q1) (hv : ¬ v = (-9)) : gThr l Γ yX6_load wsX6_load 6 132 [.ref (gad Γ 475)] (cS M X G J S C P Q) R O "java/lang/IllegalStateException" (cS M X1 G J S C P Q1) R O := by
  refine g_startT (cc := cX6_load) (maxL := 2) (ret := (some .int)) (by decide) rfl (Nat.le_of_ble_eq_true rfl) ?_
  intro p e s m below meth c ls hx hb hml hrt hts hown hlocks hname hK hZ hG hS hl hX hnx
  have hl : lv_has ls 2 [(0, .ref (gad Γ 475))] := hl
  have hown : s.vm.findClass RX6 = some m.cls := hown
  have hF : CallFix p m c cX6_load 2 s _ wsX6_load RX6 := ⟨hx, hb, hml, hown, hts⟩
  have k_1 : (Cond.fieldLink RX6 10 "RoadDust" "text" "LRoadDust$Text;").before _ s = true := hts _ (by decide +kernel)
  have in_X6 : ∀ w ∈ wsX60, w ∈ wsX6_load := by decide +kernel
  have k_3 : (Cond.fieldLink RX6 23 "RoadDust" "trial" "LRoadDust$Road;").before _ s = true := hts _ (by decide +kernel)
  have hV0 := hC.2.1 0 (by decide)
  have hV1 := hC.2.1 1 (by decide)
  refine lv_aload_n hx hb dX6_load_0 rfl (lv_at hl 0 rfl) ?_
  refine go_getr (C := RX6) (T := TX6) (ci := 6) hx hb hts in_X6 hown hK hG (hC.1 475 (by decide) (by decide)) (show gC 475 = (6, 32, 0) from rfl) (by decide) rfl 0 (by decide) rfl hC.2.2.1 k_1 (fun _ h => h) dX6_load_1 ?_
  refine lv_aload_n hx hb dX6_load_4 rfl (lv_at hl 0 rfl) ?_
  refine go_getr (C := RX6) (T := TX6) (ci := 6) hx hb hts in_X6 hown hK hG (hC.1 475 (by decide) (by decide)) (show gC 475 = (6, 32, 0) from rfl) (by decide) rfl 2 (by decide) rfl hC.2.2.2.2.1 k_3 (fun _ h => h) dX6_load_5 ?_
  refine g_callV (As := [.ref (gad Γ (25 * 1))]) (rest := []) (st1 := [.int v]) hF (hr _ _ M R O hC J S C P) (cwV 1 hts gX6_load_X4_readInto rfl rfl rfl (by decide +kernel) ⟨Nat.le_of_ble_eq_true rfl, Nat.le_of_ble_eq_true rfl⟩) hK hZ hG hS (hC.1 476 (by decide) (by decide)) (show gC 476 = (4, 19, 0) from rfl) (by decide) rfl rfl hl.1 (Nat.le_of_ble_eq_true rfl) dX6_load_8 ⟨Nat.zero_le _, Nat.zero_le _⟩ rfl rfl (fun H locs hG hS => ?_)
  replace hG : GH Γ (cS M X1 G J S C P Q1) R O _ := hG
  refine lv_bipush (v := (-9)) hx hb dX6_load_11 (by decide) ?_
  refine lv_icmp_eq (tgt := 26) hx hb dX6_load_13 (by decide) (fun c_1 => absurd c_1 hv) (fun c_1 => ?_)
  exact g_throw (cls := "java/lang/IllegalStateException") (text := "the text is not a road") (ik := 60) (is := 62) (ic := 64) hx hb hst hown (by decide +kernel) hts (by decide +kernel) (by decide +kernel) (by decide +kernel) (by decide +kernel) (by decide +kernel) (by decide +kernel) hX hZ hG hS (hl.1.trans hml.symm) dX6_load_16 dX6_load_19 dX6_load_20 dX6_load_22 dX6_load_25 hnx (Nat.le_of_ble_eq_true rfl) (Nat.le_of_ble_eq_true rfl) ⟨Nat.le_of_ble_eq_true rfl, Nat.le_of_ble_eq_true rfl⟩ hlocks

def fX6_load_S  (Pk : Nat → Int32) (k : Nat) : Nat → Int32 := upd Pk k 0
def fX6_load_L  (P : Nat → Int32) : Nat → Nat → Int32
  | 0 => P
  | k + 1 => fX6_load_S  (fX6_load_L  P k) k
set_option maxHeartbeats 4000000 in
set_option maxRecDepth 100000 in
theorem mX6_load {l : Launch} {Γ : gX} (M : Nat → Nat → Int32) (R : Nat → Nat → Option Nat) (O : Int64) (hC : LC Γ R) (X G J S C P Q : Nat → Int32) (X1 Q1 : Nat → Int32) (hr : riM (-9) X G Q X1 Q1) (hB : BL Q1) : gMet l Γ yX6_load wsX6_load 6 132 [.ref (gad Γ 475)] (cS M X G J S C P Q) R O (some (.int (fX2_copyFrom_P Q1 P 0))) (cS M X1 G (fX0_forgetAll_J J) (fX6_load_L  S 2) C (fX2_copyFrom_P Q1 P) Q1) R O := by
  refine g_start (cc := cX6_load) (maxL := 2) (ret := (some .int)) (by decide) rfl (Nat.le_of_ble_eq_true rfl) ?_
  intro p e s m below meth c ls hx hb hml hrt hts hown hlocks hname hK hZ hG hS hl
  have hl : lv_has ls 2 [(0, .ref (gad Γ 475))] := hl
  have hown : s.vm.findClass RX6 = some m.cls := hown
  have hF : CallFix p m c cX6_load 2 s _ wsX6_load RX6 := ⟨hx, hb, hml, hown, hts⟩
  have k_1 : (Cond.fieldLink RX6 10 "RoadDust" "text" "LRoadDust$Text;").before _ s = true := hts _ (by decide +kernel)
  have in_X6 : ∀ w ∈ wsX60, w ∈ wsX6_load := by decide +kernel
  have k_3 : (Cond.fieldLink RX6 23 "RoadDust" "trial" "LRoadDust$Road;").before _ s = true := hts _ (by decide +kernel)
  have k_4 : (Cond.fieldLink RX6 19 "RoadDust" "now" "LRoadDust$Road;").before _ s = true := hts _ (by decide +kernel)
  have k_5 : (Cond.fieldLink RX6 29 "RoadDust" "history" "LRoadDust$History;").before _ s = true := hts _ (by decide +kernel)
  have k_6 : (Cond.fieldLink RX6 74 "RoadDust$Road" "segments" "I").before _ s = true := hts _ (by decide +kernel)
  have in_X2 : ∀ w ∈ wsX20, w ∈ wsX6_load := by decide +kernel
  have k_8 : (Cond.fieldLink RX6 37 "RoadDust" "saved" "[Z").before _ s = true := hts _ (by decide +kernel)
  have hV0 := hC.2.1 0 (by decide)
  have hV1 := hC.2.1 1 (by decide)
  refine lv_aload_n hx hb dX6_load_0 rfl (lv_at hl 0 rfl) ?_
  refine go_getr (C := RX6) (T := TX6) (ci := 6) hx hb hts in_X6 hown hK hG (hC.1 475 (by decide) (by decide)) (show gC 475 = (6, 32, 0) from rfl) (by decide) rfl 0 (by decide) rfl hC.2.2.1 k_1 (fun _ h => h) dX6_load_1 ?_
  refine lv_aload_n hx hb dX6_load_4 rfl (lv_at hl 0 rfl) ?_
  refine go_getr (C := RX6) (T := TX6) (ci := 6) hx hb hts in_X6 hown hK hG (hC.1 475 (by decide) (by decide)) (show gC 475 = (6, 32, 0) from rfl) (by decide) rfl 2 (by decide) rfl hC.2.2.2.2.1 k_3 (fun _ h => h) dX6_load_5 ?_
  refine g_callV (As := [.ref (gad Γ (25 * 1))]) (rest := []) (st1 := [.int (-9)]) hF (hr _ _ M R O hC J S C P) (cwV 1 hts gX6_load_X4_readInto rfl rfl rfl (by decide +kernel) ⟨Nat.le_of_ble_eq_true rfl, Nat.le_of_ble_eq_true rfl⟩) hK hZ hG hS (hC.1 476 (by decide) (by decide)) (show gC 476 = (4, 19, 0) from rfl) (by decide) rfl rfl hl.1 (Nat.le_of_ble_eq_true rfl) dX6_load_8 ⟨Nat.zero_le _, Nat.zero_le _⟩ rfl rfl (fun H locs hG hS => ?_)
  replace hG : GH Γ (cS M X1 G J S C P Q1) R O _ := hG
  refine lv_bipush (v := (-9)) hx hb dX6_load_11 (by decide) ?_
  refine lv_icmp_eq (tgt := 26) hx hb dX6_load_13 (by decide) (fun c_1 => ?_) (fun c_1 => absurd (by decide) c_1)
  refine lv_aload_n hx hb dX6_load_26 rfl (lv_at hl 0 rfl) ?_
  refine go_getr (C := RX6) (T := TX6) (ci := 6) hx hb hts in_X6 hown hK hG (hC.1 475 (by decide) (by decide)) (show gC 475 = (6, 32, 0) from rfl) (by decide) rfl 1 (by decide) rfl hC.2.2.2.1 k_4 (fun _ h => h) dX6_load_27 ?_
  refine lv_aload_n hx hb dX6_load_30 rfl (lv_at hl 0 rfl) ?_
  refine go_getr (C := RX6) (T := TX6) (ci := 6) hx hb hts in_X6 hown hK hG (hC.1 475 (by decide) (by decide)) (show gC 475 = (6, 32, 0) from rfl) (by decide) rfl 2 (by decide) rfl hC.2.2.2.2.1 k_3 (fun _ h => h) dX6_load_31 ?_
  replace hG := g_st (show _ = va_up (cS M X1 G J S C P Q1) 0 P from (cS_u0 _ _ _ _ _ _ _ _ _).symm) hG
  refine g_callV (As := [.ref (gad Γ (25 * 1))]) (rest := []) (st1 := []) hF (mX2_copyFrom_q (cS M X1 G J S C P Q1) R O hV0 hV1 (by decide) Q1 P (cS_b1 _ _ _ _ _ _ _ _) hB) (cwV 1 hts gX6_load_X2_copyFrom rfl rfl rfl (by decide +kernel) ⟨Nat.le_of_ble_eq_true rfl, Nat.le_of_ble_eq_true rfl⟩) hK hZ hG hS hV0.c0 (gC_Rd hV0.1) (by decide) rfl rfl hl.1 (Nat.le_of_ble_eq_true rfl) dX6_load_34 ⟨Nat.zero_le _, Nat.zero_le _⟩ rfl rfl (fun H locs hG hS => ?_)
  replace hG : GH Γ (cS M X1 G J S C (fX2_copyFrom_P Q1 P) Q1) R O _ := g_st (cS_u0 _ _ _ _ _ _ _ _ _) hG
  refine lv_aload_n hx hb dX6_load_37 rfl (lv_at hl 0 rfl) ?_
  refine go_getr (C := RX6) (T := TX6) (ci := 6) hx hb hts in_X6 hown hK hG (hC.1 475 (by decide) (by decide)) (show gC 475 = (6, 32, 0) from rfl) (by decide) rfl 3 (by decide) rfl hC.2.2.2.2.2.1 k_5 (fun _ h => h) dX6_load_38 ?_
  refine g_callV (As := []) (rest := []) (st1 := []) hF (mX0_forgetAll M R O hC X1 G J S C (fX2_copyFrom_P Q1 P) Q1  ) (cwV 0 hts gX6_load_X0_forgetAll rfl rfl rfl (by decide +kernel) ⟨Nat.le_of_ble_eq_true rfl, Nat.le_of_ble_eq_true rfl⟩) hK hZ hG hS (hC.1 478 (by decide) (by decide)) (show gC 478 = (0, 21, 0) from rfl) (by decide) rfl rfl hl.1 (Nat.le_of_ble_eq_true rfl) dX6_load_41 ⟨Nat.zero_le _, Nat.zero_le _⟩ rfl rfl (fun H locs hG hS => ?_)
  refine lv_iconst (v := 0) hx hb dX6_load_44 (by decide) ?_
  refine lv_istore_n (lv' := [(1, .int 0), (0, .ref (gad Γ 475))]) hx hb dX6_load_45 rfl hl (by decide) rfl (fun ls hl => ?_)
  refine g_loop (N := 2) (fun k H locs ls => GH Γ (cS M X1 G (fX0_forgetAll_J J ) (fX6_load_L  S k) C (fX2_copyFrom_P Q1 P) Q1) R O H ∧ va_S (gA Γ) s.heap H locs ∧ lv_has ls 2 [(0, .ref (gad Γ 475)), (1, .int (nI k))]) ?_ ?_ 0 (Nat.zero_le _) _ _ _ ⟨hG, hS, lv_sub hl [1, 0] rfl⟩
  · rintro H locs ls ⟨hG, hS, hl⟩
    refine lv_iload_n hx hb dX6_load_46 rfl (lv_at hl 1 rfl) ?_
    refine lv_iconst (v := 2) hx hb dX6_load_47 (by decide) ?_
    refine lv_icmp_ge (tgt := 64) hx hb dX6_load_48 (by decide) (fun c_2 => ?_) (fun c_2 => absurd (nI_le (Nat.le_refl _) (by decide)) c_2)
    refine lv_aload_n hx hb dX6_load_64 rfl (lv_at hl 0 rfl) ?_
    refine go_getr (C := RX6) (T := TX6) (ci := 6) hx hb hts in_X6 hown hK hG (hC.1 475 (by decide) (by decide)) (show gC 475 = (6, 32, 0) from rfl) (by decide) rfl 1 (by decide) rfl hC.2.2.2.1 k_4 (fun _ h => h) dX6_load_65 ?_
    replace hG := g_st (show _ = va_up (cS M X1 G (fX0_forgetAll_J J ) (fX6_load_L  S 2) C (fX2_copyFrom_P Q1 P) Q1) 0 (fX2_copyFrom_P Q1 P) from (cS_u0 _ _ _ _ _ _ _ _ _).symm) hG
    refine gRd_get hx hb hts in_X2 hown hK hG hV0.1 hV0.c0 0 (by decide) k_6 (fun _ h => h) (j := 0) rfl dX6_load_68 ?_
    replace hG : GH Γ (cS M X1 G (fX0_forgetAll_J J ) (fX6_load_L  S 2) C (fX2_copyFrom_P Q1 P) Q1) R O _ := g_st (cS_u0 _ _ _ _ _ _ _ _ _) hG
    exact g_iret hx hb hrt hlocks hS hG rfl rfl dX6_load_71
  · rintro k hk_k ih_k H locs ls ⟨hG, hS, hl⟩
    refine lv_iload_n hx hb dX6_load_46 rfl (lv_at hl 1 rfl) ?_
    refine lv_iconst (v := 2) hx hb dX6_load_47 (by decide) ?_
    refine lv_icmp_ge (tgt := 64) hx hb dX6_load_48 (by decide) (fun c_3 => absurd c_3 (nI_ge hk_k (by decide))) (fun c_3 => ?_)
    refine lv_aload_n hx hb dX6_load_51 rfl (lv_at hl 0 rfl) ?_
    refine go_getr (C := RX6) (T := TX6) (ci := 6) hx hb hts in_X6 hown hK hG (hC.1 475 (by decide) (by decide)) (show gC 475 = (6, 32, 0) from rfl) (by decide) rfl 5 (by decide) rfl hC.2.2.2.2.2.2.2.1 k_8 (fun _ h => h) dX6_load_52 ?_
    refine lv_iload_n hx hb dX6_load_55 rfl (lv_at hl 1 rfl) ?_
    refine lv_iconst (v := 0) hx hb dX6_load_56 (by decide) ?_
    refine gm_zast (M2 := cS M X1 G (fX0_forgetAll_J J ) (upd (fX6_load_L  S k) k 0) C (fX2_copyFrom_P Q1 P) Q1) hx hb hK hG hS (hC.1 481 (by decide) (by decide)) (show gC 481 = (10, 22, 0) from rfl) (show gLen 481 = 2 from rfl) (by decide) (j := k) rfl (by omega) rfl (cS_p22 _ _ _ _ _ _ _ _ _ _) dX6_load_57 (fun H locs hG hS => ?_)
    refine lv_iinc (v := nI (k + 1)) (lv' := [(1, .int (nI (k + 1))), (0, .ref (gad Γ 475))]) hx hb dX6_load_58 hl (k := 1) rfl (nI_1 _) (by decide) rfl (fun ls hl => ?_)
    refine lv_goto (tgt := 46) hx hb dX6_load_61 (by decide) ?_
    exact ih_k _ _ _ ⟨hG, hS, lv_sub hl [1, 0] rfl⟩

