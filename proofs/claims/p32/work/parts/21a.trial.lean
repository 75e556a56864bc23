/-! THE CLASS: the trial. Laid by gen/p21.py. -/
theorem cpf_lo (Q P : Nat → Int32) (j : Nat) (hj : j < 12) : fX2_copyFrom_P Q P j = Q j := by
  have hS : ∀ k P, k ≤ 10 → fX2_cpS_L Q P k j = P j := by
    intro k
    induction k with
    | zero => intro P _; rfl
    | succ k ih =>
      intro P hk
      show fX3_copyFrom_P Q (fX2_cpS_L Q P k) k j = _
      unfold fX3_copyFrom_P
      repeat rw [upd_nw _ _ (by omega)]
      exact ih P (by omega)
  have hH : ∀ k P, k ≤ 8 → fX2_cpH_L Q P k j = P j := by
    intro k
    induction k with
    | zero => intro P _; rfl
    | succ k ih =>
      intro P hk
      show fX1_copyFrom_P Q (fX2_cpH_L Q P k) k j = _
      unfold fX1_copyFrom_P
      repeat rw [upd_nw _ _ (by omega)]
      exact ih P (by omega)
  have hW : ∀ k P, k ≤ 3 → fX2_cpW_L Q P k j = P j := by
    intro k
    induction k with
    | zero => intro P _; rfl
    | succ k ih =>
      intro P hk
      show fX5_copyFrom_P Q (fX2_cpW_L Q P k) k j = _
      unfold fX5_copyFrom_P
      repeat rw [upd_nw _ _ (by omega)]
      exact ih P (by omega)
  unfold fX2_copyFrom_P
  rw [hW 3 _ (by decide), hH 8 _ (by decide), hS 10 _ (by decide)]
  rcases j with _ | _ | _ | _ | _ | _ | _ | _ | _ | _ | _ | _ | j
  all_goals first | (exfalso; omega) | rfl
def fX2_dustFor2_v (Q P : Nat → Int32) (i : Nat) : Int32 := if 0 < (2 * (1 + (Q (82 + 5 * i + 1)))) then (((2 * (fX2_dustAt_v P (Q (82 + 5 * i)))) + (fX2_dustAt_v P ((Q (82 + 5 * i)) - 1))) + (fX2_dustAt_v P ((Q (82 + 5 * i)) + 1))) / (2 * (1 + (Q (82 + 5 * i + 1)))) else 0
set_option maxHeartbeats 4000000 in
set_option maxRecDepth 100000 in
theorem mX2_dustFor_2 {l : Launch} {Γ : gX} (M : Nat → Nat → Int32) (R : Nat → Nat → Option Nat) (O : Int64) {r r2 : Nat} (hV : LV Γ R r) (hV2 : LV Γ R r2) (hne : r2 ≠ r) (P Q : Nat → Int32) (hQ : M r2 = Q) {i : Nat} (hi : i < 8) : gMet l Γ yX2_dustFor wsX2_dustFor 1 21 [.ref (gad Γ (25 * r)), .ref (gad Γ (25 * r2 + 14 + i))] (va_up M r P) R O (some (.int (fX2_dustFor2_v Q P i))) (va_up M r P) R O := by
  subst hQ
  refine g_start (cc := cX2_dustFor) (maxL := 4) (ret := (some .int)) (by decide) rfl (Nat.le_of_ble_eq_true rfl) ?_
  intro p e s m below meth c ls hx hb hml hrt hts hown hlocks hname hK hZ hG hS hl
  have hl : lv_has ls 4 [(0, .ref (gad Γ (25 * r))), (1, .ref (gad Γ (25 * r2 + 14 + i)))] := hl
  have hown : s.vm.findClass RX2 = some m.cls := hown
  have hF : CallFix p m c cX2_dustFor 4 s _ wsX2_dustFor RX2 := ⟨hx, hb, hml, hown, hts⟩
  have k_1 : (Cond.fieldLink RX2 185 "RoadDust$House" "segment" "I").before _ s = true := hts _ (by decide +kernel)
  have in_X1 : ∀ w ∈ wsX10, w ∈ wsX2_dustFor := by decide +kernel
  have k_3 : (Cond.fieldLink RX2 203 "RoadDust$House" "distance" "I").before _ s = true := hts _ (by decide +kernel)
  refine lv_aload_n hx hb dX2_dustFor_0 rfl (lv_at hl 1 rfl) ?_
  refine gHs_get hx hb hts in_X1 hown hK (g_st (va_back _ _ hne) hG) hV2.1 hi (hV2.hou hi) 0 (by decide) k_1 (fun _ h => h) (j := 82 + 5 * i) rfl dX2_dustFor_1 ?_
  refine lv_istore_n (lv' := [(2, .int ((M r2) (82 + 5 * i))), (0, .ref (gad Γ (25 * r))), (1, .ref (gad Γ (25 * r2 + 14 + i)))]) hx hb dX2_dustFor_4 rfl hl (by decide) rfl (fun ls hl => ?_)
  refine lv_iconst (v := 2) hx hb dX2_dustFor_5 (by decide) ?_
  refine lv_iconst (v := 1) hx hb dX2_dustFor_6 (by decide) ?_
  refine lv_aload_n hx hb dX2_dustFor_7 rfl (lv_at hl 2 rfl) ?_
  refine gHs_get hx hb hts in_X1 hown hK (g_st (va_back _ _ hne) hG) hV2.1 hi (hV2.hou hi) 1 (by decide) k_3 (fun _ h => h) (j := 82 + 5 * i + 1) rfl dX2_dustFor_8 ?_
  refine lv_iadd hx hb dX2_dustFor_11 ?_
  refine lv_imul hx hb dX2_dustFor_12 ?_
  refine lv_istore_n (lv' := [(3, .int (2 * (1 + ((M r2) (82 + 5 * i + 1))))), (2, .int ((M r2) (82 + 5 * i))), (0, .ref (gad Γ (25 * r))), (1, .ref (gad Γ (25 * r2 + 14 + i)))]) hx hb dX2_dustFor_13 rfl hl (by decide) rfl (fun ls hl => ?_)
  refine lv_iload_n hx hb dX2_dustFor_14 rfl (lv_at hl 0 rfl) ?_
  refine lv_if_gt (tgt := 22) hx hb dX2_dustFor_15 (by decide) (fun c_1 => ?_) (fun c_1 => ?_)
  · --T
    refine lv_iconst (v := 2) hx hb dX2_dustFor_22 (by decide) ?_
    refine lv_aload_n hx hb dX2_dustFor_23 rfl (lv_at hl 2 rfl) ?_
    refine lv_iload_n hx hb dX2_dustFor_24 rfl (lv_at hl 1 rfl) ?_
    refine g_callV (As := [.int ((M r2) (82 + 5 * i))]) (rest := [.int 2]) (st1 := [.int (fX2_dustAt_v P ((M r2) (82 + 5 * i))), .int 2]) hF (mX2_dustAt M R O hV P ((M r2) (82 + 5 * i))) (cwV 1 hts gX2_dustFor_X2_dustAt rfl rfl rfl (by decide +kernel) ⟨Nat.le_of_ble_eq_true rfl, Nat.le_of_ble_eq_true rfl⟩) hK hZ hG hS hV.c0 (gC_Rd hV.1) (by decide) rfl rfl hl.1 (Nat.le_of_ble_eq_true rfl) dX2_dustFor_25 ⟨Nat.zero_le _, Nat.zero_le _⟩ rfl rfl (fun H locs hG hS => ?_)
    refine lv_imul hx hb dX2_dustFor_28 ?_
    refine lv_aload_n hx hb dX2_dustFor_29 rfl (lv_at hl 2 rfl) ?_
    refine lv_iload_n hx hb dX2_dustFor_30 rfl (lv_at hl 1 rfl) ?_
    refine lv_iconst (v := 1) hx hb dX2_dustFor_31 (by decide) ?_
    refine lv_isub hx hb dX2_dustFor_32 ?_
    refine g_callV (As := [.int (((M r2) (82 + 5 * i)) - 1)]) (rest := [.int (2 * (fX2_dustAt_v P ((M r2) (82 + 5 * i))))]) (st1 := [.int (fX2_dustAt_v P (((M r2) (82 + 5 * i)) - 1)), .int (2 * (fX2_dustAt_v P ((M r2) (82 + 5 * i))))]) hF (mX2_dustAt M R O hV P (((M r2) (82 + 5 * i)) - 1)) (cwV 1 hts gX2_dustFor_X2_dustAt rfl rfl rfl (by decide +kernel) ⟨Nat.le_of_ble_eq_true rfl, Nat.le_of_ble_eq_true rfl⟩) hK hZ hG hS hV.c0 (gC_Rd hV.1) (by decide) rfl rfl hl.1 (Nat.le_of_ble_eq_true rfl) dX2_dustFor_33 ⟨Nat.zero_le _, Nat.zero_le _⟩ rfl rfl (fun H locs hG hS => ?_)
    refine lv_iadd hx hb dX2_dustFor_36 ?_
    refine lv_aload_n hx hb dX2_dustFor_37 rfl (lv_at hl 2 rfl) ?_
    refine lv_iload_n hx hb dX2_dustFor_38 rfl (lv_at hl 1 rfl) ?_
    refine lv_iconst (v := 1) hx hb dX2_dustFor_39 (by decide) ?_
    refine lv_iadd hx hb dX2_dustFor_40 ?_
    refine g_callV (As := [.int (((M r2) (82 + 5 * i)) + 1)]) (rest := [.int ((2 * (fX2_dustAt_v P ((M r2) (82 + 5 * i)))) + (fX2_dustAt_v P (((M r2) (82 + 5 * i)) - 1)))]) (st1 := [.int (fX2_dustAt_v P (((M r2) (82 + 5 * i)) + 1)), .int ((2 * (fX2_dustAt_v P ((M r2) (82 + 5 * i)))) + (fX2_dustAt_v P (((M r2) (82 + 5 * i)) - 1)))]) hF (mX2_dustAt M R O hV P (((M r2) (82 + 5 * i)) + 1)) (cwV 1 hts gX2_dustFor_X2_dustAt rfl rfl rfl (by decide +kernel) ⟨Nat.le_of_ble_eq_true rfl, Nat.le_of_ble_eq_true rfl⟩) hK hZ hG hS hV.c0 (gC_Rd hV.1) (by decide) rfl rfl hl.1 (Nat.le_of_ble_eq_true rfl) dX2_dustFor_41 ⟨Nat.zero_le _, Nat.zero_le _⟩ rfl rfl (fun H locs hG hS => ?_)
    refine lv_iadd hx hb dX2_dustFor_44 ?_
    refine lv_iload_n hx hb dX2_dustFor_45 rfl (lv_at hl 0 rfl) ?_
    refine lv_idiv hx hb dX2_dustFor_46 (fun q => by rw [q] at c_1; exact absurd c_1 (by decide)) ?_
    exact g_iret hx hb hrt hlocks hS hG (by unfold fX2_dustFor2_v; rw [if_pos c_1]) rfl dX2_dustFor_47
  · --F
    refine lv_iconst (v := 0) hx hb dX2_dustFor_18 (by decide) ?_
    refine lv_goto (tgt := 47) hx hb dX2_dustFor_19 (by decide) ?_
    exact g_iret hx hb hrt hlocks hS hG (by unfold fX2_dustFor2_v; rw [if_neg c_1]) rfl dX2_dustFor_47

def fX6_tryWater_Q (P Q : Nat → Int32) (a d : Int32) : Nat → Int32 := if okI a ((fX2_copyFrom_P P Q) 0) 10 then fX2_raiseDust_P (fX3_wet_P (fX2_copyFrom_P P Q) a.toNatClampNeg d)  else fX2_raiseDust_P (fX2_copyFrom_P P Q) 
set_option maxHeartbeats 4000000 in
set_option maxRecDepth 100000 in
theorem mX6_tryWater {l : Launch} {Γ : gX} (M : Nat → Nat → Int32) (R : Nat → Nat → Option Nat) (O : Int64) (hC : LC Γ R) (X G J S C P Q : Nat → Int32) (a d : Int32) (hB : BL P) : gMet l Γ yX6_tryWater wsX6_tryWater 3 68 [.ref (gad Γ 475), .int a, .int d] (cS M X G J S C P Q) R O none (cS M X G J S C P (fX6_tryWater_Q P Q a d)) R O := by
  refine g_start (cc := cX6_tryWater) (maxL := 4) (ret := none) (by decide) rfl (Nat.le_of_ble_eq_true rfl) ?_
  intro p e s m below meth c ls hx hb hml hrt hts hown hlocks hname hK hZ hG hS hl
  have hl : lv_has ls 4 [(0, .ref (gad Γ 475)), (1, .int a), (2, .int d)] := hl
  have hown : s.vm.findClass RX6 = some m.cls := hown
  have hF : CallFix p m c cX6_tryWater 4 s _ wsX6_tryWater RX6 := ⟨hx, hb, hml, hown, hts⟩
  have k_1 : (Cond.fieldLink RX6 23 "RoadDust" "trial" "LRoadDust$Road;").before _ s = true := hts _ (by decide +kernel)
  have in_X6 : ∀ w ∈ wsX60, w ∈ wsX6_tryWater := by decide +kernel
  have k_3 : (Cond.fieldLink RX6 19 "RoadDust" "now" "LRoadDust$Road;").before _ s = true := hts _ (by decide +kernel)
  have hV0 := hC.2.1 0 (by decide)
  have hV1 := hC.2.1 1 (by decide)
  refine lv_aload_n hx hb dX6_tryWater_0 rfl (lv_at hl 0 rfl) ?_
  refine go_getr (C := RX6) (T := TX6) (ci := 6) hx hb hts in_X6 hown hK hG (hC.1 475 (by decide) (by decide)) (show gC 475 = (6, 32, 0) from rfl) (by decide) rfl 2 (by decide) rfl hC.2.2.2.2.1 k_1 (fun _ h => h) dX6_tryWater_1 ?_
  refine lv_aload_n hx hb dX6_tryWater_4 rfl (lv_at hl 0 rfl) ?_
  refine go_getr (C := RX6) (T := TX6) (ci := 6) hx hb hts in_X6 hown hK hG (hC.1 475 (by decide) (by decide)) (show gC 475 = (6, 32, 0) from rfl) (by decide) rfl 1 (by decide) rfl hC.2.2.2.1 k_3 (fun _ h => h) dX6_tryWater_5 ?_
  replace hG := g_st (show _ = va_up (cS M X G J S C P Q) 1 Q from (cS_u1 _ _ _ _ _ _ _ _ _).symm) hG
  refine g_callV (As := [.ref (gad Γ (25 * 0))]) (rest := []) (st1 := []) hF (mX2_copyFrom_q (cS M X G J S C P Q) R O hV1 hV0 (by decide) P Q (cS_b0 _ _ _ _ _ _ _ _) hB) (cwV 1 hts gX6_tryWater_X2_copyFrom rfl rfl rfl (by decide +kernel) ⟨Nat.le_of_ble_eq_true rfl, Nat.le_of_ble_eq_true rfl⟩) hK hZ hG hS hV1.c0 (gC_Rd hV1.1) (by decide) rfl rfl hl.1 (Nat.le_of_ble_eq_true rfl) dX6_tryWater_8 ⟨Nat.zero_le _, Nat.zero_le _⟩ rfl rfl (fun H locs hG hS => ?_)
  replace hG : GH Γ (cS M X G J S C P (fX2_copyFrom_P P Q)) R O _ := g_st (cS_u1 _ _ _ _ _ _ _ _ _) hG
  refine lv_aload_n hx hb dX6_tryWater_11 rfl (lv_at hl 0 rfl) ?_
  refine go_getr (C := RX6) (T := TX6) (ci := 6) hx hb hts in_X6 hown hK hG (hC.1 475 (by decide) (by decide)) (show gC 475 = (6, 32, 0) from rfl) (by decide) rfl 2 (by decide) rfl hC.2.2.2.2.1 k_1 (fun _ h => h) dX6_tryWater_12 ?_
  refine lv_iload_n hx hb dX6_tryWater_15 rfl (lv_at hl 1 rfl) ?_
  by_cases c_1 : okI a ((fX2_copyFrom_P P Q) 0) 10
  · --ok
    replace hG := g_st (show _ = va_up (cS M X G J S C P (fX2_copyFrom_P P Q)) 1 (fX2_copyFrom_P P Q) from (cS_u1 _ _ _ _ _ _ _ _ _).symm) hG
    refine g_callV (As := [.int a]) (rest := []) (st1 := [.ref (gad Γ (25 * 1 + 4 + a.toNatClampNeg))]) hF (mX2_segmentAt_y (cS M X G J S C P (fX2_copyFrom_P P Q)) R O hV1 (fX2_copyFrom_P P Q) c_1 (j := a.toNatClampNeg) rfl) (cwV 1 hts gX6_tryWater_X2_segmentAt rfl rfl rfl (by decide +kernel) ⟨Nat.le_of_ble_eq_true rfl, Nat.le_of_ble_eq_true rfl⟩) hK hZ hG hS hV1.c0 (gC_Rd hV1.1) (by decide) rfl rfl hl.1 (Nat.le_of_ble_eq_true rfl) dX6_tryWater_16 ⟨Nat.zero_le _, Nat.zero_le _⟩ rfl rfl (fun H locs hG hS => ?_)
    replace hG : GH Γ (cS M X G J S C P (fX2_copyFrom_P P Q)) R O _ := g_st (cS_u1 _ _ _ _ _ _ _ _ _) hG
    refine lv_astore_n (lv' := [(3, .ref (gad Γ (25 * 1 + 4 + a.toNatClampNeg))), (0, .ref (gad Γ 475)), (1, .int a), (2, .int d)]) hx hb dX6_tryWater_19 rfl hl (by decide) rfl (fun ls hl => ?_)
    refine lv_aload_n hx hb dX6_tryWater_20 rfl (lv_at hl 0 rfl) ?_
    refine lv_ifnull hx hb dX6_tryWater_21 ?_
    refine lv_aload_n hx hb dX6_tryWater_24 rfl (lv_at hl 0 rfl) ?_
    refine lv_iload_n hx hb dX6_tryWater_25 rfl (lv_at hl 3 rfl) ?_
    replace hG := g_st (show _ = va_up (cS M X G J S C P (fX2_copyFrom_P P Q)) 1 (fX2_copyFrom_P P Q) from (cS_u1 _ _ _ _ _ _ _ _ _).symm) hG
    refine g_callV (As := [.int d]) (rest := []) (st1 := []) hF (mX3_wet (cS M X G J S C P (fX2_copyFrom_P P Q)) R O hV1.1 (okI_lt (k := 10) rfl (by decide) c_1) (hV1.seg (i := a.toNatClampNeg) (okI_lt (k := 10) rfl (by decide) c_1)) (fX2_copyFrom_P P Q) d) (cwV 1 hts gX6_tryWater_X3_wet rfl rfl rfl (by decide +kernel) ⟨Nat.le_of_ble_eq_true rfl, Nat.le_of_ble_eq_true rfl⟩) hK hZ hG hS (hV1.seg (i := a.toNatClampNeg) (okI_lt (k := 10) rfl (by decide) c_1)) (gC_S hV1.1 (okI_lt (k := 10) rfl (by decide) c_1)) (by decide) rfl rfl hl.1 (Nat.le_of_ble_eq_true rfl) dX6_tryWater_26 ⟨Nat.zero_le _, Nat.zero_le _⟩ rfl rfl (fun H locs hG hS => ?_)
    replace hG : GH Γ (cS M X G J S C P (fX3_wet_P (fX2_copyFrom_P P Q) a.toNatClampNeg d)) R O _ := g_st (cS_u1 _ _ _ _ _ _ _ _ _) hG
    refine lv_aload_n hx hb dX6_tryWater_29 rfl (lv_at hl 1 rfl) ?_
    refine go_getr (C := RX6) (T := TX6) (ci := 6) hx hb hts in_X6 hown hK hG (hC.1 475 (by decide) (by decide)) (show gC 475 = (6, 32, 0) from rfl) (by decide) rfl 2 (by decide) rfl hC.2.2.2.2.1 k_1 (fun _ h => h) dX6_tryWater_30 ?_
    replace hG := g_st (show _ = va_up (cS M X G J S C P (fX3_wet_P (fX2_copyFrom_P P Q) a.toNatClampNeg d)) 1 (fX3_wet_P (fX2_copyFrom_P P Q) a.toNatClampNeg d) from (cS_u1 _ _ _ _ _ _ _ _ _).symm) hG
    refine g_callV (As := []) (rest := []) (st1 := []) hF (mX2_raiseDust (cS M X G J S C P (fX3_wet_P (fX2_copyFrom_P P Q) a.toNatClampNeg d)) R O hV1 (fX3_wet_P (fX2_copyFrom_P P Q) a.toNatClampNeg d) ) (cwV 0 hts gX6_tryWater_X2_raiseDust rfl rfl rfl (by decide +kernel) ⟨Nat.le_of_ble_eq_true rfl, Nat.le_of_ble_eq_true rfl⟩) hK hZ hG hS hV1.c0 (gC_Rd hV1.1) (by decide) rfl rfl hl.1 (Nat.le_of_ble_eq_true rfl) dX6_tryWater_33 ⟨Nat.zero_le _, Nat.zero_le _⟩ rfl rfl (fun H locs hG hS => ?_)
    replace hG : GH Γ (cS M X G J S C P (fX2_raiseDust_P (fX3_wet_P (fX2_copyFrom_P P Q) a.toNatClampNeg d) )) R O _ := g_st (cS_u1 _ _ _ _ _ _ _ _ _) hG
    exact g_vret hx hb hrt hlocks hS hG (cS_c rfl rfl rfl rfl rfl rfl (by unfold fX6_tryWater_Q; rw [if_pos c_1])) rfl dX6_tryWater_36
  · --none
    replace hG := g_st (show _ = va_up (cS M X G J S C P (fX2_copyFrom_P P Q)) 1 (fX2_copyFrom_P P Q) from (cS_u1 _ _ _ _ _ _ _ _ _).symm) hG
    refine g_callV (As := [.int a]) (rest := []) (st1 := [.null]) hF (mX2_segmentAt_n (cS M X G J S C P (fX2_copyFrom_P P Q)) R O hV1 (fX2_copyFrom_P P Q) c_1) (cwV 1 hts gX6_tryWater_X2_segmentAt rfl rfl rfl (by decide +kernel) ⟨Nat.le_of_ble_eq_true rfl, Nat.le_of_ble_eq_true rfl⟩) hK hZ hG hS hV1.c0 (gC_Rd hV1.1) (by decide) rfl rfl hl.1 (Nat.le_of_ble_eq_true rfl) dX6_tryWater_16 ⟨Nat.zero_le _, Nat.zero_le _⟩ rfl rfl (fun H locs hG hS => ?_)
    replace hG : GH Γ (cS M X G J S C P (fX2_copyFrom_P P Q)) R O _ := g_st (cS_u1 _ _ _ _ _ _ _ _ _) hG
    refine lv_astore_nN (lv' := [(3, .null), (0, .ref (gad Γ 475)), (1, .int a), (2, .int d)]) hx hb dX6_tryWater_19 rfl hl (by decide) rfl (fun ls hl => ?_)
    refine lv_aload_nN hx hb dX6_tryWater_20 rfl (lv_at hl 0 rfl) ?_
    refine lv_ifnullN (tgt := 29) hx hb dX6_tryWater_21 (by decide) ?_
    refine lv_aload_n hx hb dX6_tryWater_29 rfl (lv_at hl 1 rfl) ?_
    refine go_getr (C := RX6) (T := TX6) (ci := 6) hx hb hts in_X6 hown hK hG (hC.1 475 (by decide) (by decide)) (show gC 475 = (6, 32, 0) from rfl) (by decide) rfl 2 (by decide) rfl hC.2.2.2.2.1 k_1 (fun _ h => h) dX6_tryWater_30 ?_
    replace hG := g_st (show _ = va_up (cS M X G J S C P (fX2_copyFrom_P P Q)) 1 (fX2_copyFrom_P P Q) from (cS_u1 _ _ _ _ _ _ _ _ _).symm) hG
    refine g_callV (As := []) (rest := []) (st1 := []) hF (mX2_raiseDust (cS M X G J S C P (fX2_copyFrom_P P Q)) R O hV1 (fX2_copyFrom_P P Q) ) (cwV 0 hts gX6_tryWater_X2_raiseDust rfl rfl rfl (by decide +kernel) ⟨Nat.le_of_ble_eq_true rfl, Nat.le_of_ble_eq_true rfl⟩) hK hZ hG hS hV1.c0 (gC_Rd hV1.1) (by decide) rfl rfl hl.1 (Nat.le_of_ble_eq_true rfl) dX6_tryWater_33 ⟨Nat.zero_le _, Nat.zero_le _⟩ rfl rfl (fun H locs hG hS => ?_)
    replace hG : GH Γ (cS M X G J S C P (fX2_raiseDust_P (fX2_copyFrom_P P Q) )) R O _ := g_st (cS_u1 _ _ _ _ _ _ _ _ _) hG
    exact g_vret hx hb hrt hlocks hS hG (cS_c rfl rfl rfl rfl rfl rfl (by unfold fX6_tryWater_Q; rw [if_neg c_1])) rfl dX6_tryWater_36

