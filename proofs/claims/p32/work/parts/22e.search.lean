/-! THE CLASS: bestSpray. Laid by gen/p22.py. -/
set_option maxHeartbeats 4000000 in
set_option maxRecDepth 100000 in
theorem tX6_bestSpray_1 {l : Launch} {Γ : gX} (hst : l.stackTraces = false) (M : Nat → Nat → Int32) (R : Nat → Nat → Option Nat) (O : Int64) (hC : LC Γ R) (X G J S C P Q : Nat → Int32) (a d : Int32) (h1 : ¬ okI a (P 2) 3) : gThr l Γ yX6_bestSpray wsX6_bestSpray 6 82 [.ref (gad Γ 475), .int a, .int d] (cS M X G J S C P Q) R O "java/lang/IndexOutOfBoundsException" (cS M X G J S C P Q) R O := by
  refine g_startT (cc := cX6_bestSpray) (maxL := 9) (ret := (some .int)) (by decide) rfl (Nat.le_of_ble_eq_true rfl) ?_
  intro p e s m below meth c ls hx hb hml hrt hts hown hlocks hname hK hZ hG hS hl hX hnx
  have hl : lv_has ls 9 [(0, .ref (gad Γ 475)), (1, .int a), (2, .int d)] := hl
  have hown : s.vm.findClass RX6 = some m.cls := hown
  have hF : CallFix p m c cX6_bestSpray 9 s _ wsX6_bestSpray RX6 := ⟨hx, hb, hml, hown, hts⟩
  have k_1 : (Cond.fieldLink RX6 19 "RoadDust" "now" "LRoadDust$Road;").before _ s = true := hts _ (by decide +kernel)
  have in_X6 : ∀ w ∈ wsX60, w ∈ wsX6_bestSpray := by decide +kernel
  have hV0 := hC.2.1 0 (by decide)
  have hV1 := hC.2.1 1 (by decide)
  refine lv_aload_n hx hb dX6_bestSpray_0 rfl (lv_at hl 0 rfl) ?_
  refine go_getr (C := RX6) (T := TX6) (ci := 6) hx hb hts in_X6 hown hK hG (hC.1 475 (by decide) (by decide)) (show gC 475 = (6, 32, 0) from rfl) (by decide) rfl 1 (by decide) rfl hC.2.2.2.1 k_1 (fun _ h => h) dX6_bestSpray_1 ?_
  refine lv_iload_n hx hb dX6_bestSpray_4 rfl (lv_at hl 1 rfl) ?_
  replace hG := g_st (show _ = va_up (cS M X G J S C P Q) 0 P from (cS_u0 _ _ _ _ _ _ _ _ _).symm) hG
  refine g_callV (As := [.int a]) (rest := []) (st1 := [.null]) hF (mX2_wagonAt_n (cS M X G J S C P Q) R O hV0 P h1) (cwV 1 hts gX6_bestSpray_X2_wagonAt rfl rfl rfl (by decide +kernel) ⟨Nat.le_of_ble_eq_true rfl, Nat.le_of_ble_eq_true rfl⟩) hK hZ hG hS hV0.c0 (gC_Rd hV0.1) (by decide) rfl rfl hl.1 (Nat.le_of_ble_eq_true rfl) dX6_bestSpray_5 ⟨Nat.zero_le _, Nat.zero_le _⟩ rfl rfl (fun H locs hG hS => ?_)
  replace hG : GH Γ (cS M X G J S C P Q) R O _ := g_st (cS_u0 _ _ _ _ _ _ _ _ _) hG
  refine lv_astore_nN (lv' := [(3, .null), (0, .ref (gad Γ 475)), (1, .int a), (2, .int d)]) hx hb dX6_bestSpray_8 rfl hl (by decide) rfl (fun ls hl => ?_)
  refine lv_aload_nN hx hb dX6_bestSpray_9 rfl (lv_at hl 0 rfl) ?_
  refine lv_ifnonnullN hx hb dX6_bestSpray_10 ?_
  exact g_throw (cls := "java/lang/IndexOutOfBoundsException") (text := "no such wagon") (ik := 149) (is := 183) (ic := 153) hx hb hst hown (by decide +kernel) hts (by decide +kernel) (by decide +kernel) (by decide +kernel) (by decide +kernel) (by decide +kernel) (by decide +kernel) hX hZ hG hS (hl.1.trans hml.symm) dX6_bestSpray_13 dX6_bestSpray_16 dX6_bestSpray_17 dX6_bestSpray_19 dX6_bestSpray_22 hnx (Nat.le_of_ble_eq_true rfl) (Nat.le_of_ble_eq_true rfl) ⟨Nat.le_of_ble_eq_true rfl, Nat.le_of_ble_eq_true rfl⟩ hlocks

set_option maxHeartbeats 4000000 in
set_option maxRecDepth 100000 in
theorem tX6_bestSpray_2 {l : Launch} {Γ : gX} (hst : l.stackTraces = false) (M : Nat → Nat → Int32) (R : Nat → Nat → Option Nat) (O : Int64) (hC : LC Γ R) (X G J S C P Q : Nat → Int32) (a d : Int32) (h1 : okI a (P 2) 3) (h2 : fX6_within_v d 1 9 = 0) : gThr l Γ yX6_bestSpray wsX6_bestSpray 6 82 [.ref (gad Γ 475), .int a, .int d] (cS M X G J S C P Q) R O "java/lang/IllegalArgumentException" (cS M X G J S C P Q) R O := by
  refine g_startT (cc := cX6_bestSpray) (maxL := 9) (ret := (some .int)) (by decide) rfl (Nat.le_of_ble_eq_true rfl) ?_
  intro p e s m below meth c ls hx hb hml hrt hts hown hlocks hname hK hZ hG hS hl hX hnx
  have hl : lv_has ls 9 [(0, .ref (gad Γ 475)), (1, .int a), (2, .int d)] := hl
  have hown : s.vm.findClass RX6 = some m.cls := hown
  have hF : CallFix p m c cX6_bestSpray 9 s _ wsX6_bestSpray RX6 := ⟨hx, hb, hml, hown, hts⟩
  have k_1 : (Cond.fieldLink RX6 19 "RoadDust" "now" "LRoadDust$Road;").before _ s = true := hts _ (by decide +kernel)
  have in_X6 : ∀ w ∈ wsX60, w ∈ wsX6_bestSpray := by decide +kernel
  have hV0 := hC.2.1 0 (by decide)
  have hV1 := hC.2.1 1 (by decide)
  refine lv_aload_n hx hb dX6_bestSpray_0 rfl (lv_at hl 0 rfl) ?_
  refine go_getr (C := RX6) (T := TX6) (ci := 6) hx hb hts in_X6 hown hK hG (hC.1 475 (by decide) (by decide)) (show gC 475 = (6, 32, 0) from rfl) (by decide) rfl 1 (by decide) rfl hC.2.2.2.1 k_1 (fun _ h => h) dX6_bestSpray_1 ?_
  refine lv_iload_n hx hb dX6_bestSpray_4 rfl (lv_at hl 1 rfl) ?_
  replace hG := g_st (show _ = va_up (cS M X G J S C P Q) 0 P from (cS_u0 _ _ _ _ _ _ _ _ _).symm) hG
  refine g_callV (As := [.int a]) (rest := []) (st1 := [.ref (gad Γ (25 * 0 + 22 + a.toNatClampNeg))]) hF (mX2_wagonAt_y (cS M X G J S C P Q) R O hV0 P h1 (j := a.toNatClampNeg) rfl) (cwV 1 hts gX6_bestSpray_X2_wagonAt rfl rfl rfl (by decide +kernel) ⟨Nat.le_of_ble_eq_true rfl, Nat.le_of_ble_eq_true rfl⟩) hK hZ hG hS hV0.c0 (gC_Rd hV0.1) (by decide) rfl rfl hl.1 (Nat.le_of_ble_eq_true rfl) dX6_bestSpray_5 ⟨Nat.zero_le _, Nat.zero_le _⟩ rfl rfl (fun H locs hG hS => ?_)
  replace hG : GH Γ (cS M X G J S C P Q) R O _ := g_st (cS_u0 _ _ _ _ _ _ _ _ _) hG
  refine lv_astore_n (lv' := [(3, .ref (gad Γ (25 * 0 + 22 + a.toNatClampNeg))), (0, .ref (gad Γ 475)), (1, .int a), (2, .int d)]) hx hb dX6_bestSpray_8 rfl hl (by decide) rfl (fun ls hl => ?_)
  refine lv_aload_n hx hb dX6_bestSpray_9 rfl (lv_at hl 0 rfl) ?_
  refine lv_ifnonnull (tgt := 23) hx hb dX6_bestSpray_10 (by decide) ?_
  refine lv_iload_n hx hb dX6_bestSpray_23 rfl (lv_at hl 3 rfl) ?_
  refine lv_iconst (v := 1) hx hb dX6_bestSpray_24 (by decide) ?_
  refine lv_bipush (v := 9) hx hb dX6_bestSpray_25 (by decide) ?_
  refine g_callS (As := [.int d, .int 1, .int 9]) (rest := []) (st1 := [.int (fX6_within_v d 1 9)]) hF (mX6_within _ R O d 1 9) (va_cwS 3 hts gX6_bestSpray_X6_within rfl rfl rfl (by decide +kernel) ⟨Nat.le_of_ble_eq_true rfl, Nat.le_of_ble_eq_true rfl⟩) hK hZ hG hS rfl hl.1 (Nat.le_of_ble_eq_true rfl) dX6_bestSpray_27 ⟨Nat.zero_le _, Nat.zero_le _⟩ rfl rfl (fun H locs hG hS => ?_)
  refine lv_if_ne (tgt := 43) hx hb dX6_bestSpray_30 (by decide) (fun c_2 => absurd h2 c_2) (fun c_2 => ?_)
  exact g_throw (cls := "java/lang/IllegalArgumentException") (text := "liters out of range") (ik := 158) (is := 185) (ic := 162) hx hb hst hown (by decide +kernel) hts (by decide +kernel) (by decide +kernel) (by decide +kernel) (by decide +kernel) (by decide +kernel) (by decide +kernel) hX hZ hG hS (hl.1.trans hml.symm) dX6_bestSpray_33 dX6_bestSpray_36 dX6_bestSpray_37 dX6_bestSpray_39 dX6_bestSpray_42 hnx (Nat.le_of_ble_eq_true rfl) (Nat.le_of_ble_eq_true rfl) ⟨Nat.le_of_ble_eq_true rfl, Nat.le_of_ble_eq_true rfl⟩ hlocks

def fX6_best_S (N : Nat → Int32) (i : Nat) (d : Int32) (Pk : Nat → Int32) (k : Nat) : Nat → Int32 := if (fX5_couldSpray_v N i (nI k) d) = 0 then Pk else fX6_tryWater_Q N Pk (nI k) d
def fX6_best_L (N : Nat → Int32) (i : Nat) (d : Int32) (P : Nat → Int32) : Nat → Nat → Int32
  | 0 => P
  | k + 1 => fX6_best_S N i d (fX6_best_L N i d P k) k
def fX6_best_T4 (N : Nat → Int32) (i : Nat) (d : Int32) (Pk : Nat → Int32) (k : Nat) (a4 : Int32) (a5 : Int32) : Int32 := if (fX5_couldSpray_v N i (nI k) d) = 0 then a4 else if a4 = (-9) then nI k else if (fX5_wayTo_v N i a4) ≤ (fX5_wayTo_v N i (nI k)) then if (fX2_dustForAll_v (fX6_tryWater_Q N Pk (nI k) d)) < a5 then nI k else if (fX2_dustForAll_v (fX6_tryWater_Q N Pk (nI k) d)) = a5 then a4 else a4 else if (fX2_dustForAll_v (fX6_tryWater_Q N Pk (nI k) d)) < a5 then nI k else if (fX2_dustForAll_v (fX6_tryWater_Q N Pk (nI k) d)) = a5 then nI k else a4
def fX6_best_T5 (N : Nat → Int32) (i : Nat) (d : Int32) (Pk : Nat → Int32) (k : Nat) (a4 : Int32) (a5 : Int32) : Int32 := if (fX5_couldSpray_v N i (nI k) d) = 0 then a5 else if a4 = (-9) then fX2_dustForAll_v (fX6_tryWater_Q N Pk (nI k) d) else if (fX5_wayTo_v N i a4) ≤ (fX5_wayTo_v N i (nI k)) then if (fX2_dustForAll_v (fX6_tryWater_Q N Pk (nI k) d)) < a5 then fX2_dustForAll_v (fX6_tryWater_Q N Pk (nI k) d) else if (fX2_dustForAll_v (fX6_tryWater_Q N Pk (nI k) d)) = a5 then a5 else a5 else if (fX2_dustForAll_v (fX6_tryWater_Q N Pk (nI k) d)) < a5 then fX2_dustForAll_v (fX6_tryWater_Q N Pk (nI k) d) else if (fX2_dustForAll_v (fX6_tryWater_Q N Pk (nI k) d)) = a5 then fX2_dustForAll_v (fX6_tryWater_Q N Pk (nI k) d) else a5
def fX6_best_A (N : Nat → Int32) (i : Nat) (d : Int32) (P : Nat → Int32) : Nat → Int32 × Int32
  | 0 => ((-9), 0)
  | k + 1 => (fX6_best_T4 N i d (fX6_best_L N i d P k) k (fX6_best_A N i d P k).1 (fX6_best_A N i d P k).2, fX6_best_T5 N i d (fX6_best_L N i d P k) k (fX6_best_A N i d P k).1 (fX6_best_A N i d P k).2)
set_option maxHeartbeats 4000000 in
set_option maxRecDepth 100000 in
theorem mX6_bestSpray {l : Launch} {Γ : gX} (M : Nat → Nat → Int32) (R : Nat → Nat → Option Nat) (O : Int64) (hC : LC Γ R) (X G J S C P Q : Nat → Int32) (hB : BL P) (h8 : (P 1).toNatClampNeg ≤ 8) (a d : Int32) (h1 : okI a (P 2) 3) (h2 : ¬ fX6_within_v d 1 9 = 0) : gMet l Γ yX6_bestSpray wsX6_bestSpray 4 91 [.ref (gad Γ 475), .int a, .int d] (cS M X G J S C P Q) R O (some (.int (fX6_best_A P a.toNatClampNeg d Q ((P 0).toNatClampNeg)).1)) (cS M X G J S C P (fX6_best_L P a.toNatClampNeg d Q ((P 0).toNatClampNeg))) R O := by
  refine g_start (cc := cX6_bestSpray) (maxL := 9) (ret := (some .int)) (by decide) rfl (Nat.le_of_ble_eq_true rfl) ?_
  intro p e s m below meth c ls hx hb hml hrt hts hown hlocks hname hK hZ hG hS hl
  have hl : lv_has ls 9 [(0, .ref (gad Γ 475)), (1, .int a), (2, .int d)] := hl
  have hown : s.vm.findClass RX6 = some m.cls := hown
  have hF : CallFix p m c cX6_bestSpray 9 s _ wsX6_bestSpray RX6 := ⟨hx, hb, hml, hown, hts⟩
  have k_1 : (Cond.fieldLink RX6 19 "RoadDust" "now" "LRoadDust$Road;").before _ s = true := hts _ (by decide +kernel)
  have in_X6 : ∀ w ∈ wsX60, w ∈ wsX6_bestSpray := by decide +kernel
  have k_3 : (Cond.fieldLink RX6 74 "RoadDust$Road" "segments" "I").before _ s = true := hts _ (by decide +kernel)
  have in_X2 : ∀ w ∈ wsX20, w ∈ wsX6_bestSpray := by decide +kernel
  have k_5 : (Cond.fieldLink RX6 23 "RoadDust" "trial" "LRoadDust$Road;").before _ s = true := hts _ (by decide +kernel)
  have hV0 := hC.2.1 0 (by decide)
  have hV1 := hC.2.1 1 (by decide)
  refine lv_aload_n hx hb dX6_bestSpray_0 rfl (lv_at hl 0 rfl) ?_
  refine go_getr (C := RX6) (T := TX6) (ci := 6) hx hb hts in_X6 hown hK hG (hC.1 475 (by decide) (by decide)) (show gC 475 = (6, 32, 0) from rfl) (by decide) rfl 1 (by decide) rfl hC.2.2.2.1 k_1 (fun _ h => h) dX6_bestSpray_1 ?_
  refine lv_iload_n hx hb dX6_bestSpray_4 rfl (lv_at hl 1 rfl) ?_
  replace hG := g_st (show _ = va_up (cS M X G J S C P Q) 0 P from (cS_u0 _ _ _ _ _ _ _ _ _).symm) hG
  refine g_callV (As := [.int a]) (rest := []) (st1 := [.ref (gad Γ (25 * 0 + 22 + a.toNatClampNeg))]) hF (mX2_wagonAt_y (cS M X G J S C P Q) R O hV0 P h1 (j := a.toNatClampNeg) rfl) (cwV 1 hts gX6_bestSpray_X2_wagonAt rfl rfl rfl (by decide +kernel) ⟨Nat.le_of_ble_eq_true rfl, Nat.le_of_ble_eq_true rfl⟩) hK hZ hG hS hV0.c0 (gC_Rd hV0.1) (by decide) rfl rfl hl.1 (Nat.le_of_ble_eq_true rfl) dX6_bestSpray_5 ⟨Nat.zero_le _, Nat.zero_le _⟩ rfl rfl (fun H locs hG hS => ?_)
  replace hG : GH Γ (cS M X G J S C P Q) R O _ := g_st (cS_u0 _ _ _ _ _ _ _ _ _) hG
  refine lv_astore_n (lv' := [(3, .ref (gad Γ (25 * 0 + 22 + a.toNatClampNeg))), (0, .ref (gad Γ 475)), (1, .int a), (2, .int d)]) hx hb dX6_bestSpray_8 rfl hl (by decide) rfl (fun ls hl => ?_)
  refine lv_aload_n hx hb dX6_bestSpray_9 rfl (lv_at hl 0 rfl) ?_
  refine lv_ifnonnull (tgt := 23) hx hb dX6_bestSpray_10 (by decide) ?_
  refine lv_iload_n hx hb dX6_bestSpray_23 rfl (lv_at hl 3 rfl) ?_
  refine lv_iconst (v := 1) hx hb dX6_bestSpray_24 (by decide) ?_
  refine lv_bipush (v := 9) hx hb dX6_bestSpray_25 (by decide) ?_
  refine g_callS (As := [.int d, .int 1, .int 9]) (rest := []) (st1 := [.int (fX6_within_v d 1 9)]) hF (mX6_within _ R O d 1 9) (va_cwS 3 hts gX6_bestSpray_X6_within rfl rfl rfl (by decide +kernel) ⟨Nat.le_of_ble_eq_true rfl, Nat.le_of_ble_eq_true rfl⟩) hK hZ hG hS rfl hl.1 (Nat.le_of_ble_eq_true rfl) dX6_bestSpray_27 ⟨Nat.zero_le _, Nat.zero_le _⟩ rfl rfl (fun H locs hG hS => ?_)
  refine lv_if_ne (tgt := 43) hx hb dX6_bestSpray_30 (by decide) (fun c_2 => ?_) (fun c_2 => absurd c_2 h2)
  refine lv_bipush (v := (-9)) hx hb dX6_bestSpray_43 (by decide) ?_
  refine lv_istore (lv' := [(4, .int (-9)), (3, .ref (gad Γ (25 * 0 + 22 + a.toNatClampNeg))), (0, .ref (gad Γ 475)), (1, .int a), (2, .int d)]) hx hb dX6_bestSpray_45 hl (by decide) rfl (fun ls hl => ?_)
  refine lv_iconst (v := 0) hx hb dX6_bestSpray_47 (by decide) ?_
  refine lv_istore (lv' := [(5, .int 0), (4, .int (-9)), (3, .ref (gad Γ (25 * 0 + 22 + a.toNatClampNeg))), (0, .ref (gad Γ 475)), (1, .int a), (2, .int d)]) hx hb dX6_bestSpray_48 hl (by decide) rfl (fun ls hl => ?_)
  refine lv_iconst (v := 0) hx hb dX6_bestSpray_50 (by decide) ?_
  refine lv_istore (lv' := [(6, .int 0), (5, .int 0), (4, .int (-9)), (3, .ref (gad Γ (25 * 0 + 22 + a.toNatClampNeg))), (0, .ref (gad Γ 475)), (1, .int a), (2, .int d)]) hx hb dX6_bestSpray_51 hl (by decide) rfl (fun ls hl => ?_)
  refine g_loop (N := (P 0).toNatClampNeg) (fun k H locs ls => GH Γ (cS M X G J S C P (fX6_best_L P a.toNatClampNeg d Q k)) R O H ∧ va_S (gA Γ) s.heap H locs ∧ lv_has ls 9 [(0, .ref (gad Γ 475)), (2, .int d), (3, .ref (gad Γ (25 * 0 + 22 + a.toNatClampNeg))), (4, .int ((fX6_best_A P a.toNatClampNeg d Q k).1)), (5, .int ((fX6_best_A P a.toNatClampNeg d Q k).2)), (6, .int (nI k))]) ?_ ?_ 0 (Nat.zero_le _) _ _ _ ⟨hG, hS, lv_sub hl [4, 6, 3, 2, 1, 0] rfl⟩
  · rintro H locs ls ⟨hG, hS, hl⟩
    refine lv_iload hx hb dX6_bestSpray_53 (lv_at hl 5 rfl) ?_
    refine lv_aload_n hx hb dX6_bestSpray_55 rfl (lv_at hl 0 rfl) ?_
    refine go_getr (C := RX6) (T := TX6) (ci := 6) hx hb hts in_X6 hown hK hG (hC.1 475 (by decide) (by decide)) (show gC 475 = (6, 32, 0) from rfl) (by decide) rfl 1 (by decide) rfl hC.2.2.2.1 k_1 (fun _ h => h) dX6_bestSpray_56 ?_
    replace hG := g_st (show _ = va_up (cS M X G J S C P (fX6_best_L P a.toNatClampNeg d Q ((P 0).toNatClampNeg))) 0 P from (cS_u0 _ _ _ _ _ _ _ _ _).symm) hG
    refine gRd_get hx hb hts in_X2 hown hK hG hV0.1 hV0.c0 0 (by decide) k_3 (fun _ h => h) (j := 0) rfl dX6_bestSpray_59 ?_
    replace hG : GH Γ (cS M X G J S C P (fX6_best_L P a.toNatClampNeg d Q ((P 0).toNatClampNeg))) R O _ := g_st (cS_u0 _ _ _ _ _ _ _ _ _) hG
    refine lv_icmp_ge (tgt := 160) hx hb dX6_bestSpray_62 (by decide) (fun c_3 => ?_) (fun c_3 => absurd (cl_le _) c_3)
    refine lv_iload hx hb dX6_bestSpray_160 (lv_at hl 3 rfl) ?_
    exact g_iret hx hb hrt hlocks hS hG rfl rfl dX6_bestSpray_162
  · rintro k hk_k ih_k H locs ls ⟨hG, hS, hl⟩
    refine lv_iload hx hb dX6_bestSpray_53 (lv_at hl 5 rfl) ?_
    refine lv_aload_n hx hb dX6_bestSpray_55 rfl (lv_at hl 0 rfl) ?_
    refine go_getr (C := RX6) (T := TX6) (ci := 6) hx hb hts in_X6 hown hK hG (hC.1 475 (by decide) (by decide)) (show gC 475 = (6, 32, 0) from rfl) (by decide) rfl 1 (by decide) rfl hC.2.2.2.1 k_1 (fun _ h => h) dX6_bestSpray_56 ?_
    replace hG := g_st (show _ = va_up (cS M X G J S C P (fX6_best_L P a.toNatClampNeg d Q k)) 0 P from (cS_u0 _ _ _ _ _ _ _ _ _).symm) hG
    refine gRd_get hx hb hts in_X2 hown hK hG hV0.1 hV0.c0 0 (by decide) k_3 (fun _ h => h) (j := 0) rfl dX6_bestSpray_59 ?_
    replace hG : GH Γ (cS M X G J S C P (fX6_best_L P a.toNatClampNeg d Q k)) R O _ := g_st (cS_u0 _ _ _ _ _ _ _ _ _) hG
    refine lv_icmp_ge (tgt := 160) hx hb dX6_bestSpray_62 (by decide) (fun c_4 => absurd c_4 (cl_ge hk_k)) (fun c_4 => ?_)
    refine lv_aload_n hx hb dX6_bestSpray_65 rfl (lv_at hl 2 rfl) ?_
    refine lv_iload hx hb dX6_bestSpray_66 (lv_at hl 5 rfl) ?_
    refine lv_iload_n hx hb dX6_bestSpray_68 rfl (lv_at hl 1 rfl) ?_
    replace hG := g_st (show _ = va_up (cS M X G J S C P (fX6_best_L P a.toNatClampNeg d Q k)) 0 P from (cS_u0 _ _ _ _ _ _ _ _ _).symm) hG
    refine g_callV (As := [.int (nI k), .int d]) (rest := []) (st1 := [.int (fX5_couldSpray_v P a.toNatClampNeg (nI k) d)]) hF (mX5_couldSpray (cS M X G J S C P (fX6_best_L P a.toNatClampNeg d Q k)) R O hV0.1 (okI_lt (k := 3) rfl (by decide) h1) (hV0.wag (i := a.toNatClampNeg) (okI_lt (k := 3) rfl (by decide) h1)) P (nI k) d) (cwV 2 hts gX6_bestSpray_X5_couldSpray rfl rfl rfl (by decide +kernel) ⟨Nat.le_of_ble_eq_true rfl, Nat.le_of_ble_eq_true rfl⟩) hK hZ hG hS (hV0.wag (i := a.toNatClampNeg) (okI_lt (k := 3) rfl (by decide) h1)) (gC_Wg hV0.1 (okI_lt (k := 3) rfl (by decide) h1)) (by decide) rfl rfl hl.1 (Nat.le_of_ble_eq_true rfl) dX6_bestSpray_69 ⟨Nat.zero_le _, Nat.zero_le _⟩ rfl rfl (fun H locs hG hS => ?_)
    replace hG : GH Γ (cS M X G J S C P (fX6_best_L P a.toNatClampNeg d Q k)) R O _ := g_st (cS_u0 _ _ _ _ _ _ _ _ _) hG
    refine lv_if_eq (tgt := 154) hx hb dX6_bestSpray_72 (by decide) (fun c_5 => ?_) (fun c_5 => ?_)
    · --T
      refine lv_iinc (v := nI (k + 1)) (lv' := [(6, .int (nI (k + 1))), (0, .ref (gad Γ 475)), (2, .int d), (3, .ref (gad Γ (25 * 0 + 22 + a.toNatClampNeg))), (4, .int ((fX6_best_A P a.toNatClampNeg d Q k).1)), (5, .int ((fX6_best_A P a.toNatClampNeg d Q k).2))]) hx hb dX6_bestSpray_154 hl (k := 5) rfl (nI_1 _) (by decide) rfl (fun ls hl => ?_)
      refine lv_goto (tgt := 53) hx hb dX6_bestSpray_157 (by decide) ?_
      have e_4 : (fX6_best_A P a.toNatClampNeg d Q (k + 1)).1 = (fX6_best_A P a.toNatClampNeg d Q k).1 := by
        show fX6_best_T4 P a.toNatClampNeg d (fX6_best_L P a.toNatClampNeg d Q k) k ((fX6_best_A P a.toNatClampNeg d Q k).1) ((fX6_best_A P a.toNatClampNeg d Q k).2) = _
        unfold fX6_best_T4
        rw [if_pos c_5]
      have e_5 : (fX6_best_A P a.toNatClampNeg d Q (k + 1)).2 = (fX6_best_A P a.toNatClampNeg d Q k).2 := by
        show fX6_best_T5 P a.toNatClampNeg d (fX6_best_L P a.toNatClampNeg d Q k) k ((fX6_best_A P a.toNatClampNeg d Q k).1) ((fX6_best_A P a.toNatClampNeg d Q k).2) = _
        unfold fX6_best_T5
        rw [if_pos c_5]
      have hl9 : lv_has ls 9 [(0, .ref (gad Γ 475)), (2, .int d), (3, .ref (gad Γ (25 * 0 + 22 + a.toNatClampNeg))), (4, .int ((fX6_best_A P a.toNatClampNeg d Q k).1)), (5, .int ((fX6_best_A P a.toNatClampNeg d Q k).2)), (6, .int (nI (k + 1)))] := lv_sub hl [1, 2, 3, 4, 5, 0] rfl
      exact ih_k _ _ _ ⟨g_st (cS_c rfl rfl rfl rfl rfl rfl (by show _ = fX6_best_S P a.toNatClampNeg d (fX6_best_L P a.toNatClampNeg d Q k) k; unfold fX6_best_S; rw [if_pos c_5])) hG, hS, (by rw [e_4, e_5]; exact hl9)⟩
    · --F
      refine lv_aload_n hx hb dX6_bestSpray_75 rfl (lv_at hl 0 rfl) ?_
      refine lv_iload hx hb dX6_bestSpray_76 (lv_at hl 5 rfl) ?_
      refine lv_iload_n hx hb dX6_bestSpray_78 rfl (lv_at hl 1 rfl) ?_
      refine g_callV (As := [.int (nI k), .int d]) (rest := []) (st1 := []) hF (mX6_tryWater M R O hC X G J S C P (fX6_best_L P a.toNatClampNeg d Q k) (nI k) d hB) (cwV 2 hts gX6_bestSpray_X6_tryWater rfl rfl rfl (by decide +kernel) ⟨Nat.le_of_ble_eq_true rfl, Nat.le_of_ble_eq_true rfl⟩) hK hZ hG hS (hC.1 475 (by decide) (by decide)) (show gC 475 = (6, 32, 0) from rfl) (by decide) rfl rfl hl.1 (Nat.le_of_ble_eq_true rfl) dX6_bestSpray_79 ⟨Nat.zero_le _, Nat.zero_le _⟩ rfl rfl (fun H locs hG hS => ?_)
      refine lv_aload_n hx hb dX6_bestSpray_82 rfl (lv_at hl 0 rfl) ?_
      refine go_getr (C := RX6) (T := TX6) (ci := 6) hx hb hts in_X6 hown hK hG (hC.1 475 (by decide) (by decide)) (show gC 475 = (6, 32, 0) from rfl) (by decide) rfl 2 (by decide) rfl hC.2.2.2.2.1 k_5 (fun _ h => h) dX6_bestSpray_83 ?_
      replace hG := g_st (show _ = va_up (cS M X G J S C P (fX6_tryWater_Q P (fX6_best_L P a.toNatClampNeg d Q k) (nI k) d)) 1 (fX6_tryWater_Q P (fX6_best_L P a.toNatClampNeg d Q k) (nI k) d) from (cS_u1 _ _ _ _ _ _ _ _ _).symm) hG
      refine g_callV (As := []) (rest := []) (st1 := [.int (fX2_dustForAll_v (fX6_tryWater_Q P (fX6_best_L P a.toNatClampNeg d Q k) (nI k) d))]) hF (mX2_dustForAll (cS M X G J S C P (fX6_tryWater_Q P (fX6_best_L P a.toNatClampNeg d Q k) (nI k) d)) R O hV1 (fX6_tryWater_Q P (fX6_best_L P a.toNatClampNeg d Q k) (nI k) d) (by rw [tw_1]; exact h8)) (cwV 0 hts gX6_bestSpray_X2_dustForAll rfl rfl rfl (by decide +kernel) ⟨Nat.le_of_ble_eq_true rfl, Nat.le_of_ble_eq_true rfl⟩) hK hZ hG hS hV1.c0 (gC_Rd hV1.1) (by decide) rfl rfl hl.1 (Nat.le_of_ble_eq_true rfl) dX6_bestSpray_86 ⟨Nat.zero_le _, Nat.zero_le _⟩ rfl rfl (fun H locs hG hS => ?_)
      replace hG : GH Γ (cS M X G J S C P (fX6_tryWater_Q P (fX6_best_L P a.toNatClampNeg d Q k) (nI k) d)) R O _ := g_st (cS_u1 _ _ _ _ _ _ _ _ _) hG
      refine lv_istore (lv' := [(7, .int (fX2_dustForAll_v (fX6_tryWater_Q P (fX6_best_L P a.toNatClampNeg d Q k) (nI k) d))), (0, .ref (gad Γ 475)), (2, .int d), (3, .ref (gad Γ (25 * 0 + 22 + a.toNatClampNeg))), (4, .int ((fX6_best_A P a.toNatClampNeg d Q k).1)), (5, .int ((fX6_best_A P a.toNatClampNeg d Q k).2)), (6, .int (nI k))]) hx hb dX6_bestSpray_89 hl (by decide) rfl (fun ls hl => ?_)
      refine lv_iload hx hb dX6_bestSpray_91 (lv_at hl 4 rfl) ?_
      refine lv_bipush (v := (-9)) hx hb dX6_bestSpray_93 (by decide) ?_
      refine lv_icmp_eq (tgt := 117) hx hb dX6_bestSpray_95 (by decide) (fun c_6 => ?_) (fun c_6 => ?_)
      · --T
        refine lv_iconst (v := 0) hx hb dX6_bestSpray_117 (by decide) ?_
        refine lv_istore (lv' := [(8, .int 0), (7, .int (fX2_dustForAll_v (fX6_tryWater_Q P (fX6_best_L P a.toNatClampNeg d Q k) (nI k) d))), (0, .ref (gad Γ 475)), (2, .int d), (3, .ref (gad Γ (25 * 0 + 22 + a.toNatClampNeg))), (4, .int ((fX6_best_A P a.toNatClampNeg d Q k).1)), (5, .int ((fX6_best_A P a.toNatClampNeg d Q k).2)), (6, .int (nI k))]) hx hb dX6_bestSpray_118 hl (by decide) rfl (fun ls hl => ?_)
        refine lv_iload hx hb dX6_bestSpray_120 (lv_at hl 5 rfl) ?_
        refine lv_bipush (v := (-9)) hx hb dX6_bestSpray_122 (by decide) ?_
        refine lv_icmp_eq (tgt := 146) hx hb dX6_bestSpray_124 (by decide) (fun c_7 => ?_) (fun c_7 => absurd c_6 c_7)
        refine lv_iload hx hb dX6_bestSpray_146 (lv_at hl 7 rfl) ?_
        refine lv_istore (lv' := [(4, .int (nI k)), (8, .int 0), (7, .int (fX2_dustForAll_v (fX6_tryWater_Q P (fX6_best_L P a.toNatClampNeg d Q k) (nI k) d))), (0, .ref (gad Γ 475)), (2, .int d), (3, .ref (gad Γ (25 * 0 + 22 + a.toNatClampNeg))), (5, .int ((fX6_best_A P a.toNatClampNeg d Q k).2)), (6, .int (nI k))]) hx hb dX6_bestSpray_148 hl (by decide) rfl (fun ls hl => ?_)
        refine lv_iload hx hb dX6_bestSpray_150 (lv_at hl 2 rfl) ?_
        refine lv_istore (lv' := [(5, .int (fX2_dustForAll_v (fX6_tryWater_Q P (fX6_best_L P a.toNatClampNeg d Q k) (nI k) d))), (4, .int (nI k)), (8, .int 0), (7, .int (fX2_dustForAll_v (fX6_tryWater_Q P (fX6_best_L P a.toNatClampNeg d Q k) (nI k) d))), (0, .ref (gad Γ 475)), (2, .int d), (3, .ref (gad Γ (25 * 0 + 22 + a.toNatClampNeg))), (6, .int (nI k))]) hx hb dX6_bestSpray_152 hl (by decide) rfl (fun ls hl => ?_)
        refine lv_iinc (v := nI (k + 1)) (lv' := [(6, .int (nI (k + 1))), (5, .int (fX2_dustForAll_v (fX6_tryWater_Q P (fX6_best_L P a.toNatClampNeg d Q k) (nI k) d))), (4, .int (nI k)), (8, .int 0), (7, .int (fX2_dustForAll_v (fX6_tryWater_Q P (fX6_best_L P a.toNatClampNeg d Q k) (nI k) d))), (0, .ref (gad Γ 475)), (2, .int d), (3, .ref (gad Γ (25 * 0 + 22 + a.toNatClampNeg)))]) hx hb dX6_bestSpray_154 hl (k := 7) rfl (nI_1 _) (by decide) rfl (fun ls hl => ?_)
        refine lv_goto (tgt := 53) hx hb dX6_bestSpray_157 (by decide) ?_
        have e_4 : (fX6_best_A P a.toNatClampNeg d Q (k + 1)).1 = nI k := by
          show fX6_best_T4 P a.toNatClampNeg d (fX6_best_L P a.toNatClampNeg d Q k) k ((fX6_best_A P a.toNatClampNeg d Q k).1) ((fX6_best_A P a.toNatClampNeg d Q k).2) = _
          unfold fX6_best_T4
          rw [if_neg c_5, if_pos c_6]
        have e_5 : (fX6_best_A P a.toNatClampNeg d Q (k + 1)).2 = fX2_dustForAll_v (fX6_tryWater_Q P (fX6_best_L P a.toNatClampNeg d Q k) (nI k) d) := by
          show fX6_best_T5 P a.toNatClampNeg d (fX6_best_L P a.toNatClampNeg d Q k) k ((fX6_best_A P a.toNatClampNeg d Q k).1) ((fX6_best_A P a.toNatClampNeg d Q k).2) = _
          unfold fX6_best_T5
          rw [if_neg c_5, if_pos c_6]
        have hl9 : lv_has ls 9 [(0, .ref (gad Γ 475)), (2, .int d), (3, .ref (gad Γ (25 * 0 + 22 + a.toNatClampNeg))), (4, .int (nI k)), (5, .int (fX2_dustForAll_v (fX6_tryWater_Q P (fX6_best_L P a.toNatClampNeg d Q k) (nI k) d))), (6, .int (nI (k + 1)))] := lv_sub hl [5, 6, 7, 2, 1, 0] rfl
        exact ih_k _ _ _ ⟨g_st (cS_c rfl rfl rfl rfl rfl rfl (by show _ = fX6_best_S P a.toNatClampNeg d (fX6_best_L P a.toNatClampNeg d Q k) k; unfold fX6_best_S; rw [if_neg c_5])) hG, hS, (by rw [e_4, e_5]; exact hl9)⟩
      · --F
        refine lv_aload_n hx hb dX6_bestSpray_98 rfl (lv_at hl 3 rfl) ?_
        refine lv_iload hx hb dX6_bestSpray_99 (lv_at hl 6 rfl) ?_
        replace hG := g_st (show _ = va_up (cS M X G J S C P (fX6_tryWater_Q P (fX6_best_L P a.toNatClampNeg d Q k) (nI k) d)) 0 P from (cS_u0 _ _ _ _ _ _ _ _ _).symm) hG
        refine g_callV (As := [.int (nI k)]) (rest := []) (st1 := [.int (fX5_wayTo_v P a.toNatClampNeg (nI k))]) hF (mX5_wayTo (cS M X G J S C P (fX6_tryWater_Q P (fX6_best_L P a.toNatClampNeg d Q k) (nI k) d)) R O hV0.1 (okI_lt (k := 3) rfl (by decide) h1) (hV0.wag (i := a.toNatClampNeg) (okI_lt (k := 3) rfl (by decide) h1)) P (nI k)) (cwV 1 hts gX6_bestSpray_X5_wayTo rfl rfl rfl (by decide +kernel) ⟨Nat.le_of_ble_eq_true rfl, Nat.le_of_ble_eq_true rfl⟩) hK hZ hG hS (hV0.wag (i := a.toNatClampNeg) (okI_lt (k := 3) rfl (by decide) h1)) (gC_Wg hV0.1 (okI_lt (k := 3) rfl (by decide) h1)) (by decide) rfl rfl hl.1 (Nat.le_of_ble_eq_true rfl) dX6_bestSpray_101 ⟨Nat.zero_le _, Nat.zero_le _⟩ rfl rfl (fun H locs hG hS => ?_)
        replace hG : GH Γ (cS M X G J S C P (fX6_tryWater_Q P (fX6_best_L P a.toNatClampNeg d Q k) (nI k) d)) R O _ := g_st (cS_u0 _ _ _ _ _ _ _ _ _) hG
        refine lv_aload_n hx hb dX6_bestSpray_104 rfl (lv_at hl 3 rfl) ?_
        refine lv_iload hx hb dX6_bestSpray_105 (lv_at hl 4 rfl) ?_
        replace hG := g_st (show _ = va_up (cS M X G J S C P (fX6_tryWater_Q P (fX6_best_L P a.toNatClampNeg d Q k) (nI k) d)) 0 P from (cS_u0 _ _ _ _ _ _ _ _ _).symm) hG
        refine g_callV (As := [.int ((fX6_best_A P a.toNatClampNeg d Q k).1)]) (rest := [.int (fX5_wayTo_v P a.toNatClampNeg (nI k))]) (st1 := [.int (fX5_wayTo_v P a.toNatClampNeg ((fX6_best_A P a.toNatClampNeg d Q k).1)), .int (fX5_wayTo_v P a.toNatClampNeg (nI k))]) hF (mX5_wayTo (cS M X G J S C P (fX6_tryWater_Q P (fX6_best_L P a.toNatClampNeg d Q k) (nI k) d)) R O hV0.1 (okI_lt (k := 3) rfl (by decide) h1) (hV0.wag (i := a.toNatClampNeg) (okI_lt (k := 3) rfl (by decide) h1)) P ((fX6_best_A P a.toNatClampNeg d Q k).1)) (cwV 1 hts gX6_bestSpray_X5_wayTo rfl rfl rfl (by decide +kernel) ⟨Nat.le_of_ble_eq_true rfl, Nat.le_of_ble_eq_true rfl⟩) hK hZ hG hS (hV0.wag (i := a.toNatClampNeg) (okI_lt (k := 3) rfl (by decide) h1)) (gC_Wg hV0.1 (okI_lt (k := 3) rfl (by decide) h1)) (by decide) rfl rfl hl.1 (Nat.le_of_ble_eq_true rfl) dX6_bestSpray_107 ⟨Nat.zero_le _, Nat.zero_le _⟩ rfl rfl (fun H locs hG hS => ?_)
        replace hG : GH Γ (cS M X G J S C P (fX6_tryWater_Q P (fX6_best_L P a.toNatClampNeg d Q k) (nI k) d)) R O _ := g_st (cS_u0 _ _ _ _ _ _ _ _ _) hG
        refine lv_icmp_ge (tgt := 117) hx hb dX6_bestSpray_110 (by decide) (fun c_8 => ?_) (fun c_8 => ?_)
        · --T
          refine lv_iconst (v := 0) hx hb dX6_bestSpray_117 (by decide) ?_
          refine lv_istore (lv' := [(8, .int 0), (7, .int (fX2_dustForAll_v (fX6_tryWater_Q P (fX6_best_L P a.toNatClampNeg d Q k) (nI k) d))), (0, .ref (gad Γ 475)), (2, .int d), (3, .ref (gad Γ (25 * 0 + 22 + a.toNatClampNeg))), (4, .int ((fX6_best_A P a.toNatClampNeg d Q k).1)), (5, .int ((fX6_best_A P a.toNatClampNeg d Q k).2)), (6, .int (nI k))]) hx hb dX6_bestSpray_118 hl (by decide) rfl (fun ls hl => ?_)
          refine lv_iload hx hb dX6_bestSpray_120 (lv_at hl 5 rfl) ?_
          refine lv_bipush (v := (-9)) hx hb dX6_bestSpray_122 (by decide) ?_
          refine lv_icmp_eq (tgt := 146) hx hb dX6_bestSpray_124 (by decide) (fun c_9 => absurd c_9 c_6) (fun c_9 => ?_)
          refine lv_iload hx hb dX6_bestSpray_127 (lv_at hl 1 rfl) ?_
          refine lv_iload hx hb dX6_bestSpray_129 (lv_at hl 6 rfl) ?_
          refine lv_icmp_lt (tgt := 146) hx hb dX6_bestSpray_131 (by decide) (fun c_10 => ?_) (fun c_10 => ?_)
          · --T
            refine lv_iload hx hb dX6_bestSpray_146 (lv_at hl 7 rfl) ?_
            refine lv_istore (lv' := [(4, .int (nI k)), (8, .int 0), (7, .int (fX2_dustForAll_v (fX6_tryWater_Q P (fX6_best_L P a.toNatClampNeg d Q k) (nI k) d))), (0, .ref (gad Γ 475)), (2, .int d), (3, .ref (gad Γ (25 * 0 + 22 + a.toNatClampNeg))), (5, .int ((fX6_best_A P a.toNatClampNeg d Q k).2)), (6, .int (nI k))]) hx hb dX6_bestSpray_148 hl (by decide) rfl (fun ls hl => ?_)
            refine lv_iload hx hb dX6_bestSpray_150 (lv_at hl 2 rfl) ?_
            refine lv_istore (lv' := [(5, .int (fX2_dustForAll_v (fX6_tryWater_Q P (fX6_best_L P a.toNatClampNeg d Q k) (nI k) d))), (4, .int (nI k)), (8, .int 0), (7, .int (fX2_dustForAll_v (fX6_tryWater_Q P (fX6_best_L P a.toNatClampNeg d Q k) (nI k) d))), (0, .ref (gad Γ 475)), (2, .int d), (3, .ref (gad Γ (25 * 0 + 22 + a.toNatClampNeg))), (6, .int (nI k))]) hx hb dX6_bestSpray_152 hl (by decide) rfl (fun ls hl => ?_)
            refine lv_iinc (v := nI (k + 1)) (lv' := [(6, .int (nI (k + 1))), (5, .int (fX2_dustForAll_v (fX6_tryWater_Q P (fX6_best_L P a.toNatClampNeg d Q k) (nI k) d))), (4, .int (nI k)), (8, .int 0), (7, .int (fX2_dustForAll_v (fX6_tryWater_Q P (fX6_best_L P a.toNatClampNeg d Q k) (nI k) d))), (0, .ref (gad Γ 475)), (2, .int d), (3, .ref (gad Γ (25 * 0 + 22 + a.toNatClampNeg)))]) hx hb dX6_bestSpray_154 hl (k := 7) rfl (nI_1 _) (by decide) rfl (fun ls hl => ?_)
            refine lv_goto (tgt := 53) hx hb dX6_bestSpray_157 (by decide) ?_
            have e_4 : (fX6_best_A P a.toNatClampNeg d Q (k + 1)).1 = nI k := by
              show fX6_best_T4 P a.toNatClampNeg d (fX6_best_L P a.toNatClampNeg d Q k) k ((fX6_best_A P a.toNatClampNeg d Q k).1) ((fX6_best_A P a.toNatClampNeg d Q k).2) = _
              unfold fX6_best_T4
              rw [if_neg c_5, if_neg c_6, if_pos c_8, if_pos c_10]
            have e_5 : (fX6_best_A P a.toNatClampNeg d Q (k + 1)).2 = fX2_dustForAll_v (fX6_tryWater_Q P (fX6_best_L P a.toNatClampNeg d Q k) (nI k) d) := by
              show fX6_best_T5 P a.toNatClampNeg d (fX6_best_L P a.toNatClampNeg d Q k) k ((fX6_best_A P a.toNatClampNeg d Q k).1) ((fX6_best_A P a.toNatClampNeg d Q k).2) = _
              unfold fX6_best_T5
              rw [if_neg c_5, if_neg c_6, if_pos c_8, if_pos c_10]
            have hl9 : lv_has ls 9 [(0, .ref (gad Γ 475)), (2, .int d), (3, .ref (gad Γ (25 * 0 + 22 + a.toNatClampNeg))), (4, .int (nI k)), (5, .int (fX2_dustForAll_v (fX6_tryWater_Q P (fX6_best_L P a.toNatClampNeg d Q k) (nI k) d))), (6, .int (nI (k + 1)))] := lv_sub hl [5, 6, 7, 2, 1, 0] rfl
            exact ih_k _ _ _ ⟨g_st (cS_c rfl rfl rfl rfl rfl rfl (by show _ = fX6_best_S P a.toNatClampNeg d (fX6_best_L P a.toNatClampNeg d Q k) k; unfold fX6_best_S; rw [if_neg c_5])) hG, hS, (by rw [e_4, e_5]; exact hl9)⟩
          · --F
            refine lv_iload hx hb dX6_bestSpray_134 (lv_at hl 1 rfl) ?_
            refine lv_iload hx hb dX6_bestSpray_136 (lv_at hl 6 rfl) ?_
            refine lv_icmp_ne (tgt := 154) hx hb dX6_bestSpray_138 (by decide) (fun c_11 => ?_) (fun c_11 => ?_)
            · --T
              refine lv_iinc (v := nI (k + 1)) (lv' := [(6, .int (nI (k + 1))), (8, .int 0), (7, .int (fX2_dustForAll_v (fX6_tryWater_Q P (fX6_best_L P a.toNatClampNeg d Q k) (nI k) d))), (0, .ref (gad Γ 475)), (2, .int d), (3, .ref (gad Γ (25 * 0 + 22 + a.toNatClampNeg))), (4, .int ((fX6_best_A P a.toNatClampNeg d Q k).1)), (5, .int ((fX6_best_A P a.toNatClampNeg d Q k).2))]) hx hb dX6_bestSpray_154 hl (k := 7) rfl (nI_1 _) (by decide) rfl (fun ls hl => ?_)
              refine lv_goto (tgt := 53) hx hb dX6_bestSpray_157 (by decide) ?_
              have e_4 : (fX6_best_A P a.toNatClampNeg d Q (k + 1)).1 = (fX6_best_A P a.toNatClampNeg d Q k).1 := by
                show fX6_best_T4 P a.toNatClampNeg d (fX6_best_L P a.toNatClampNeg d Q k) k ((fX6_best_A P a.toNatClampNeg d Q k).1) ((fX6_best_A P a.toNatClampNeg d Q k).2) = _
                unfold fX6_best_T4
                rw [if_neg c_5, if_neg c_6, if_pos c_8, if_neg c_10, if_neg c_11]
              have e_5 : (fX6_best_A P a.toNatClampNeg d Q (k + 1)).2 = (fX6_best_A P a.toNatClampNeg d Q k).2 := by
                show fX6_best_T5 P a.toNatClampNeg d (fX6_best_L P a.toNatClampNeg d Q k) k ((fX6_best_A P a.toNatClampNeg d Q k).1) ((fX6_best_A P a.toNatClampNeg d Q k).2) = _
                unfold fX6_best_T5
                rw [if_neg c_5, if_neg c_6, if_pos c_8, if_neg c_10, if_neg c_11]
              have hl9 : lv_has ls 9 [(0, .ref (gad Γ 475)), (2, .int d), (3, .ref (gad Γ (25 * 0 + 22 + a.toNatClampNeg))), (4, .int ((fX6_best_A P a.toNatClampNeg d Q k).1)), (5, .int ((fX6_best_A P a.toNatClampNeg d Q k).2)), (6, .int (nI (k + 1)))] := lv_sub hl [3, 4, 5, 6, 7, 0] rfl
              exact ih_k _ _ _ ⟨g_st (cS_c rfl rfl rfl rfl rfl rfl (by show _ = fX6_best_S P a.toNatClampNeg d (fX6_best_L P a.toNatClampNeg d Q k) k; unfold fX6_best_S; rw [if_neg c_5])) hG, hS, (by rw [e_4, e_5]; exact hl9)⟩
            · --F
              refine lv_iload hx hb dX6_bestSpray_141 (lv_at hl 0 rfl) ?_
              refine lv_if_eq (tgt := 154) hx hb dX6_bestSpray_143 (by decide) (fun c_12 => ?_) (fun c_12 => absurd (by decide) c_12)
              refine lv_iinc (v := nI (k + 1)) (lv' := [(6, .int (nI (k + 1))), (8, .int 0), (7, .int (fX2_dustForAll_v (fX6_tryWater_Q P (fX6_best_L P a.toNatClampNeg d Q k) (nI k) d))), (0, .ref (gad Γ 475)), (2, .int d), (3, .ref (gad Γ (25 * 0 + 22 + a.toNatClampNeg))), (4, .int ((fX6_best_A P a.toNatClampNeg d Q k).1)), (5, .int ((fX6_best_A P a.toNatClampNeg d Q k).2))]) hx hb dX6_bestSpray_154 hl (k := 7) rfl (nI_1 _) (by decide) rfl (fun ls hl => ?_)
              refine lv_goto (tgt := 53) hx hb dX6_bestSpray_157 (by decide) ?_
              have e_4 : (fX6_best_A P a.toNatClampNeg d Q (k + 1)).1 = (fX6_best_A P a.toNatClampNeg d Q k).1 := by
                show fX6_best_T4 P a.toNatClampNeg d (fX6_best_L P a.toNatClampNeg d Q k) k ((fX6_best_A P a.toNatClampNeg d Q k).1) ((fX6_best_A P a.toNatClampNeg d Q k).2) = _
                unfold fX6_best_T4
                rw [if_neg c_5, if_neg c_6, if_pos c_8, if_neg c_10, if_pos c_11]
              have e_5 : (fX6_best_A P a.toNatClampNeg d Q (k + 1)).2 = (fX6_best_A P a.toNatClampNeg d Q k).2 := by
                show fX6_best_T5 P a.toNatClampNeg d (fX6_best_L P a.toNatClampNeg d Q k) k ((fX6_best_A P a.toNatClampNeg d Q k).1) ((fX6_best_A P a.toNatClampNeg d Q k).2) = _
                unfold fX6_best_T5
                rw [if_neg c_5, if_neg c_6, if_pos c_8, if_neg c_10, if_pos c_11]
              have hl9 : lv_has ls 9 [(0, .ref (gad Γ 475)), (2, .int d), (3, .ref (gad Γ (25 * 0 + 22 + a.toNatClampNeg))), (4, .int ((fX6_best_A P a.toNatClampNeg d Q k).1)), (5, .int ((fX6_best_A P a.toNatClampNeg d Q k).2)), (6, .int (nI (k + 1)))] := lv_sub hl [3, 4, 5, 6, 7, 0] rfl
              exact ih_k _ _ _ ⟨g_st (cS_c rfl rfl rfl rfl rfl rfl (by show _ = fX6_best_S P a.toNatClampNeg d (fX6_best_L P a.toNatClampNeg d Q k) k; unfold fX6_best_S; rw [if_neg c_5])) hG, hS, (by rw [e_4, e_5]; exact hl9)⟩
        · --F
          refine lv_iconst (v := 1) hx hb dX6_bestSpray_113 (by decide) ?_
          refine lv_goto (tgt := 118) hx hb dX6_bestSpray_114 (by decide) ?_
          refine lv_istore (lv' := [(8, .int 1), (7, .int (fX2_dustForAll_v (fX6_tryWater_Q P (fX6_best_L P a.toNatClampNeg d Q k) (nI k) d))), (0, .ref (gad Γ 475)), (2, .int d), (3, .ref (gad Γ (25 * 0 + 22 + a.toNatClampNeg))), (4, .int ((fX6_best_A P a.toNatClampNeg d Q k).1)), (5, .int ((fX6_best_A P a.toNatClampNeg d Q k).2)), (6, .int (nI k))]) hx hb dX6_bestSpray_118 hl (by decide) rfl (fun ls hl => ?_)
          refine lv_iload hx hb dX6_bestSpray_120 (lv_at hl 5 rfl) ?_
          refine lv_bipush (v := (-9)) hx hb dX6_bestSpray_122 (by decide) ?_
          refine lv_icmp_eq (tgt := 146) hx hb dX6_bestSpray_124 (by decide) (fun c_13 => absurd c_13 c_6) (fun c_13 => ?_)
          refine lv_iload hx hb dX6_bestSpray_127 (lv_at hl 1 rfl) ?_
          refine lv_iload hx hb dX6_bestSpray_129 (lv_at hl 6 rfl) ?_
          refine lv_icmp_lt (tgt := 146) hx hb dX6_bestSpray_131 (by decide) (fun c_14 => ?_) (fun c_14 => ?_)
          · --T
            refine lv_iload hx hb dX6_bestSpray_146 (lv_at hl 7 rfl) ?_
            refine lv_istore (lv' := [(4, .int (nI k)), (8, .int 1), (7, .int (fX2_dustForAll_v (fX6_tryWater_Q P (fX6_best_L P a.toNatClampNeg d Q k) (nI k) d))), (0, .ref (gad Γ 475)), (2, .int d), (3, .ref (gad Γ (25 * 0 + 22 + a.toNatClampNeg))), (5, .int ((fX6_best_A P a.toNatClampNeg d Q k).2)), (6, .int (nI k))]) hx hb dX6_bestSpray_148 hl (by decide) rfl (fun ls hl => ?_)
            refine lv_iload hx hb dX6_bestSpray_150 (lv_at hl 2 rfl) ?_
            refine lv_istore (lv' := [(5, .int (fX2_dustForAll_v (fX6_tryWater_Q P (fX6_best_L P a.toNatClampNeg d Q k) (nI k) d))), (4, .int (nI k)), (8, .int 1), (7, .int (fX2_dustForAll_v (fX6_tryWater_Q P (fX6_best_L P a.toNatClampNeg d Q k) (nI k) d))), (0, .ref (gad Γ 475)), (2, .int d), (3, .ref (gad Γ (25 * 0 + 22 + a.toNatClampNeg))), (6, .int (nI k))]) hx hb dX6_bestSpray_152 hl (by decide) rfl (fun ls hl => ?_)
            refine lv_iinc (v := nI (k + 1)) (lv' := [(6, .int (nI (k + 1))), (5, .int (fX2_dustForAll_v (fX6_tryWater_Q P (fX6_best_L P a.toNatClampNeg d Q k) (nI k) d))), (4, .int (nI k)), (8, .int 1), (7, .int (fX2_dustForAll_v (fX6_tryWater_Q P (fX6_best_L P a.toNatClampNeg d Q k) (nI k) d))), (0, .ref (gad Γ 475)), (2, .int d), (3, .ref (gad Γ (25 * 0 + 22 + a.toNatClampNeg)))]) hx hb dX6_bestSpray_154 hl (k := 7) rfl (nI_1 _) (by decide) rfl (fun ls hl => ?_)
            refine lv_goto (tgt := 53) hx hb dX6_bestSpray_157 (by decide) ?_
            have e_4 : (fX6_best_A P a.toNatClampNeg d Q (k + 1)).1 = nI k := by
              show fX6_best_T4 P a.toNatClampNeg d (fX6_best_L P a.toNatClampNeg d Q k) k ((fX6_best_A P a.toNatClampNeg d Q k).1) ((fX6_best_A P a.toNatClampNeg d Q k).2) = _
              unfold fX6_best_T4
              rw [if_neg c_5, if_neg c_6, if_neg c_8, if_pos c_14]
            have e_5 : (fX6_best_A P a.toNatClampNeg d Q (k + 1)).2 = fX2_dustForAll_v (fX6_tryWater_Q P (fX6_best_L P a.toNatClampNeg d Q k) (nI k) d) := by
              show fX6_best_T5 P a.toNatClampNeg d (fX6_best_L P a.toNatClampNeg d Q k) k ((fX6_best_A P a.toNatClampNeg d Q k).1) ((fX6_best_A P a.toNatClampNeg d Q k).2) = _
              unfold fX6_best_T5
              rw [if_neg c_5, if_neg c_6, if_neg c_8, if_pos c_14]
            have hl9 : lv_has ls 9 [(0, .ref (gad Γ 475)), (2, .int d), (3, .ref (gad Γ (25 * 0 + 22 + a.toNatClampNeg))), (4, .int (nI k)), (5, .int (fX2_dustForAll_v (fX6_tryWater_Q P (fX6_best_L P a.toNatClampNeg d Q k) (nI k) d))), (6, .int (nI (k + 1)))] := lv_sub hl [5, 6, 7, 2, 1, 0] rfl
            exact ih_k _ _ _ ⟨g_st (cS_c rfl rfl rfl rfl rfl rfl (by show _ = fX6_best_S P a.toNatClampNeg d (fX6_best_L P a.toNatClampNeg d Q k) k; unfold fX6_best_S; rw [if_neg c_5])) hG, hS, (by rw [e_4, e_5]; exact hl9)⟩
          · --F
            refine lv_iload hx hb dX6_bestSpray_134 (lv_at hl 1 rfl) ?_
            refine lv_iload hx hb dX6_bestSpray_136 (lv_at hl 6 rfl) ?_
            refine lv_icmp_ne (tgt := 154) hx hb dX6_bestSpray_138 (by decide) (fun c_15 => ?_) (fun c_15 => ?_)
            · --T
              refine lv_iinc (v := nI (k + 1)) (lv' := [(6, .int (nI (k + 1))), (8, .int 1), (7, .int (fX2_dustForAll_v (fX6_tryWater_Q P (fX6_best_L P a.toNatClampNeg d Q k) (nI k) d))), (0, .ref (gad Γ 475)), (2, .int d), (3, .ref (gad Γ (25 * 0 + 22 + a.toNatClampNeg))), (4, .int ((fX6_best_A P a.toNatClampNeg d Q k).1)), (5, .int ((fX6_best_A P a.toNatClampNeg d Q k).2))]) hx hb dX6_bestSpray_154 hl (k := 7) rfl (nI_1 _) (by decide) rfl (fun ls hl => ?_)
              refine lv_goto (tgt := 53) hx hb dX6_bestSpray_157 (by decide) ?_
              have e_4 : (fX6_best_A P a.toNatClampNeg d Q (k + 1)).1 = (fX6_best_A P a.toNatClampNeg d Q k).1 := by
                show fX6_best_T4 P a.toNatClampNeg d (fX6_best_L P a.toNatClampNeg d Q k) k ((fX6_best_A P a.toNatClampNeg d Q k).1) ((fX6_best_A P a.toNatClampNeg d Q k).2) = _
                unfold fX6_best_T4
                rw [if_neg c_5, if_neg c_6, if_neg c_8, if_neg c_14, if_neg c_15]
              have e_5 : (fX6_best_A P a.toNatClampNeg d Q (k + 1)).2 = (fX6_best_A P a.toNatClampNeg d Q k).2 := by
                show fX6_best_T5 P a.toNatClampNeg d (fX6_best_L P a.toNatClampNeg d Q k) k ((fX6_best_A P a.toNatClampNeg d Q k).1) ((fX6_best_A P a.toNatClampNeg d Q k).2) = _
                unfold fX6_best_T5
                rw [if_neg c_5, if_neg c_6, if_neg c_8, if_neg c_14, if_neg c_15]
              have hl9 : lv_has ls 9 [(0, .ref (gad Γ 475)), (2, .int d), (3, .ref (gad Γ (25 * 0 + 22 + a.toNatClampNeg))), (4, .int ((fX6_best_A P a.toNatClampNeg d Q k).1)), (5, .int ((fX6_best_A P a.toNatClampNeg d Q k).2)), (6, .int (nI (k + 1)))] := lv_sub hl [3, 4, 5, 6, 7, 0] rfl
              exact ih_k _ _ _ ⟨g_st (cS_c rfl rfl rfl rfl rfl rfl (by show _ = fX6_best_S P a.toNatClampNeg d (fX6_best_L P a.toNatClampNeg d Q k) k; unfold fX6_best_S; rw [if_neg c_5])) hG, hS, (by rw [e_4, e_5]; exact hl9)⟩
            · --F
              refine lv_iload hx hb dX6_bestSpray_141 (lv_at hl 0 rfl) ?_
              refine lv_if_eq (tgt := 154) hx hb dX6_bestSpray_143 (by decide) (fun c_16 => absurd c_16 (by decide)) (fun c_16 => ?_)
              refine lv_iload hx hb dX6_bestSpray_146 (lv_at hl 7 rfl) ?_
              refine lv_istore (lv' := [(4, .int (nI k)), (8, .int 1), (7, .int (fX2_dustForAll_v (fX6_tryWater_Q P (fX6_best_L P a.toNatClampNeg d Q k) (nI k) d))), (0, .ref (gad Γ 475)), (2, .int d), (3, .ref (gad Γ (25 * 0 + 22 + a.toNatClampNeg))), (5, .int ((fX6_best_A P a.toNatClampNeg d Q k).2)), (6, .int (nI k))]) hx hb dX6_bestSpray_148 hl (by decide) rfl (fun ls hl => ?_)
              refine lv_iload hx hb dX6_bestSpray_150 (lv_at hl 2 rfl) ?_
              refine lv_istore (lv' := [(5, .int (fX2_dustForAll_v (fX6_tryWater_Q P (fX6_best_L P a.toNatClampNeg d Q k) (nI k) d))), (4, .int (nI k)), (8, .int 1), (7, .int (fX2_dustForAll_v (fX6_tryWater_Q P (fX6_best_L P a.toNatClampNeg d Q k) (nI k) d))), (0, .ref (gad Γ 475)), (2, .int d), (3, .ref (gad Γ (25 * 0 + 22 + a.toNatClampNeg))), (6, .int (nI k))]) hx hb dX6_bestSpray_152 hl (by decide) rfl (fun ls hl => ?_)
              refine lv_iinc (v := nI (k + 1)) (lv' := [(6, .int (nI (k + 1))), (5, .int (fX2_dustForAll_v (fX6_tryWater_Q P (fX6_best_L P a.toNatClampNeg d Q k) (nI k) d))), (4, .int (nI k)), (8, .int 1), (7, .int (fX2_dustForAll_v (fX6_tryWater_Q P (fX6_best_L P a.toNatClampNeg d Q k) (nI k) d))), (0, .ref (gad Γ 475)), (2, .int d), (3, .ref (gad Γ (25 * 0 + 22 + a.toNatClampNeg)))]) hx hb dX6_bestSpray_154 hl (k := 7) rfl (nI_1 _) (by decide) rfl (fun ls hl => ?_)
              refine lv_goto (tgt := 53) hx hb dX6_bestSpray_157 (by decide) ?_
              have e_4 : (fX6_best_A P a.toNatClampNeg d Q (k + 1)).1 = nI k := by
                show fX6_best_T4 P a.toNatClampNeg d (fX6_best_L P a.toNatClampNeg d Q k) k ((fX6_best_A P a.toNatClampNeg d Q k).1) ((fX6_best_A P a.toNatClampNeg d Q k).2) = _
                unfold fX6_best_T4
                rw [if_neg c_5, if_neg c_6, if_neg c_8, if_neg c_14, if_pos c_15]
              have e_5 : (fX6_best_A P a.toNatClampNeg d Q (k + 1)).2 = fX2_dustForAll_v (fX6_tryWater_Q P (fX6_best_L P a.toNatClampNeg d Q k) (nI k) d) := by
                show fX6_best_T5 P a.toNatClampNeg d (fX6_best_L P a.toNatClampNeg d Q k) k ((fX6_best_A P a.toNatClampNeg d Q k).1) ((fX6_best_A P a.toNatClampNeg d Q k).2) = _
                unfold fX6_best_T5
                rw [if_neg c_5, if_neg c_6, if_neg c_8, if_neg c_14, if_pos c_15]
              have hl9 : lv_has ls 9 [(0, .ref (gad Γ 475)), (2, .int d), (3, .ref (gad Γ (25 * 0 + 22 + a.toNatClampNeg))), (4, .int (nI k)), (5, .int (fX2_dustForAll_v (fX6_tryWater_Q P (fX6_best_L P a.toNatClampNeg d Q k) (nI k) d))), (6, .int (nI (k + 1)))] := lv_sub hl [5, 6, 7, 2, 1, 0] rfl
              exact ih_k _ _ _ ⟨g_st (cS_c rfl rfl rfl rfl rfl rfl (by show _ = fX6_best_S P a.toNatClampNeg d (fX6_best_L P a.toNatClampNeg d Q k) k; unfold fX6_best_S; rw [if_neg c_5])) hG, hS, (by rw [e_4, e_5]; exact hl9)⟩

