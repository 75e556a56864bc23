/-! THE CLASS: complainsIn. Laid by gen/p22.py. -/
set_option maxHeartbeats 4000000 in
set_option maxRecDepth 100000 in
theorem tX6_complainsIn {l : Launch} {Γ : gX} (hst : l.stackTraces = false) (M : Nat → Nat → Int32) (R : Nat → Nat → Option Nat) (O : Int64) (hC : LC Γ R) (X G J S C P Q : Nat → Int32) (hB : BL P) (a : Int32) (h1 : ¬ okI a ((fX2_copyFrom_P P Q) 1) 8) : gThr l Γ yX6_complainsIn wsX6_complainsIn 6 82 [.ref (gad Γ 475), .int a] (cS M X G J S C P Q) R O "java/lang/IndexOutOfBoundsException" (cS M X G J S C P (fX2_copyFrom_P P Q)) R O := by
  refine g_startT (cc := cX6_complainsIn) (maxL := 5) (ret := (some .int)) (by decide) rfl (Nat.le_of_ble_eq_true rfl) ?_
  intro p e s m below meth c ls hx hb hml hrt hts hown hlocks hname hK hZ hG hS hl hX hnx
  have hl : lv_has ls 5 [(0, .ref (gad Γ 475)), (1, .int a)] := hl
  have hown : s.vm.findClass RX6 = some m.cls := hown
  have hF : CallFix p m c cX6_complainsIn 5 s _ wsX6_complainsIn RX6 := ⟨hx, hb, hml, hown, hts⟩
  have k_1 : (Cond.fieldLink RX6 23 "RoadDust" "trial" "LRoadDust$Road;").before _ s = true := hts _ (by decide +kernel)
  have in_X6 : ∀ w ∈ wsX60, w ∈ wsX6_complainsIn := by decide +kernel
  have k_3 : (Cond.fieldLink RX6 19 "RoadDust" "now" "LRoadDust$Road;").before _ s = true := hts _ (by decide +kernel)
  have hV0 := hC.2.1 0 (by decide)
  have hV1 := hC.2.1 1 (by decide)
  refine lv_aload_n hx hb dX6_complainsIn_0 rfl (lv_at hl 0 rfl) ?_
  refine go_getr (C := RX6) (T := TX6) (ci := 6) hx hb hts in_X6 hown hK hG (hC.1 475 (by decide) (by decide)) (show gC 475 = (6, 32, 0) from rfl) (by decide) rfl 2 (by decide) rfl hC.2.2.2.2.1 k_1 (fun _ h => h) dX6_complainsIn_1 ?_
  refine lv_aload_n hx hb dX6_complainsIn_4 rfl (lv_at hl 0 rfl) ?_
  refine go_getr (C := RX6) (T := TX6) (ci := 6) hx hb hts in_X6 hown hK hG (hC.1 475 (by decide) (by decide)) (show gC 475 = (6, 32, 0) from rfl) (by decide) rfl 1 (by decide) rfl hC.2.2.2.1 k_3 (fun _ h => h) dX6_complainsIn_5 ?_
  replace hG := g_st (show _ = va_up (cS M X G J S C P Q) 1 Q from (cS_u1 _ _ _ _ _ _ _ _ _).symm) hG
  refine g_callV (As := [.ref (gad Γ (25 * 0))]) (rest := []) (st1 := []) hF (mX2_copyFrom_q (cS M X G J S C P Q) R O hV1 hV0 (by decide) P Q (cS_b0 _ _ _ _ _ _ _ _) hB) (cwV 1 hts gX6_complainsIn_X2_copyFrom rfl rfl rfl (by decide +kernel) ⟨Nat.le_of_ble_eq_true rfl, Nat.le_of_ble_eq_true rfl⟩) hK hZ hG hS hV1.c0 (gC_Rd hV1.1) (by decide) rfl rfl hl.1 (Nat.le_of_ble_eq_true rfl) dX6_complainsIn_8 ⟨Nat.zero_le _, Nat.zero_le _⟩ rfl rfl (fun H locs hG hS => ?_)
  replace hG : GH Γ (cS M X G J S C P (fX2_copyFrom_P P Q)) R O _ := g_st (cS_u1 _ _ _ _ _ _ _ _ _) hG
  refine lv_aload_n hx hb dX6_complainsIn_11 rfl (lv_at hl 0 rfl) ?_
  refine go_getr (C := RX6) (T := TX6) (ci := 6) hx hb hts in_X6 hown hK hG (hC.1 475 (by decide) (by decide)) (show gC 475 = (6, 32, 0) from rfl) (by decide) rfl 2 (by decide) rfl hC.2.2.2.2.1 k_1 (fun _ h => h) dX6_complainsIn_12 ?_
  refine lv_iload_n hx hb dX6_complainsIn_15 rfl (lv_at hl 1 rfl) ?_
  replace hG := g_st (show _ = va_up (cS M X G J S C P (fX2_copyFrom_P P Q)) 1 (fX2_copyFrom_P P Q) from (cS_u1 _ _ _ _ _ _ _ _ _).symm) hG
  refine g_callV (As := [.int a]) (rest := []) (st1 := [.null]) hF (mX2_houseAt_n (cS M X G J S C P (fX2_copyFrom_P P Q)) R O hV1 (fX2_copyFrom_P P Q) h1) (cwV 1 hts gX6_complainsIn_X2_houseAt rfl rfl rfl (by decide +kernel) ⟨Nat.le_of_ble_eq_true rfl, Nat.le_of_ble_eq_true rfl⟩) hK hZ hG hS hV1.c0 (gC_Rd hV1.1) (by decide) rfl rfl hl.1 (Nat.le_of_ble_eq_true rfl) dX6_complainsIn_16 ⟨Nat.zero_le _, Nat.zero_le _⟩ rfl rfl (fun H locs hG hS => ?_)
  replace hG : GH Γ (cS M X G J S C P (fX2_copyFrom_P P Q)) R O _ := g_st (cS_u1 _ _ _ _ _ _ _ _ _) hG
  refine lv_astore_nN (lv' := [(2, .null), (0, .ref (gad Γ 475)), (1, .int a)]) hx hb dX6_complainsIn_19 rfl hl (by decide) rfl (fun ls hl => ?_)
  refine lv_aload_nN hx hb dX6_complainsIn_20 rfl (lv_at hl 0 rfl) ?_
  refine lv_ifnonnullN hx hb dX6_complainsIn_21 ?_
  exact g_throw (cls := "java/lang/IndexOutOfBoundsException") (text := "no such house") (ik := 149) (is := 151) (ic := 153) hx hb hst hown (by decide +kernel) hts (by decide +kernel) (by decide +kernel) (by decide +kernel) (by decide +kernel) (by decide +kernel) (by decide +kernel) hX hZ hG hS (hl.1.trans hml.symm) dX6_complainsIn_24 dX6_complainsIn_27 dX6_complainsIn_28 dX6_complainsIn_30 dX6_complainsIn_33 hnx (Nat.le_of_ble_eq_true rfl) (Nat.le_of_ble_eq_true rfl) ⟨Nat.le_of_ble_eq_true rfl, Nat.le_of_ble_eq_true rfl⟩ hlocks

def fX6_complainsIn_S (i : Nat) (e0 : Int32) (Pk : Nat → Int32) (k : Nat) : Nat → Int32 := fX2_goHour_P Pk
def fX6_complainsIn_L (i : Nat) (e0 : Int32) (P : Nat → Int32) : Nat → Nat → Int32
  | 0 => P
  | k + 1 => fX6_complainsIn_S i e0 (fX6_complainsIn_L i e0 P k) k
def fX6_complainsIn_C (i : Nat) (e0 : Int32) (Pk : Nat → Int32) (k : Nat) : Prop := ¬ ((fX2_goHour_P Pk) (82 + 5 * i + 3)) = e0
theorem fX6_complainsIn_1 (i : Nat) (e0 : Int32) (P : Nat → Int32) : ∀ k, fX6_complainsIn_L i e0 P k 1 = P 1
  | 0 => rfl
  | k + 1 => (fX2_goHour_1 _).trans (fX6_complainsIn_1 i e0 P k)
set_option maxHeartbeats 4000000 in
set_option maxRecDepth 100000 in
theorem mX6_complainsIn {l : Launch} {Γ : gX} (M : Nat → Nat → Int32) (R : Nat → Nat → Option Nat) (O : Int64) (hC : LC Γ R) (X G J S C P Q : Nat → Int32) (hB : BL P) (a : Int32) (h8 : (P 1).toNatClampNeg ≤ 8) (h1 : okI a ((fX2_copyFrom_P P Q) 1) 8) (kx : Nat) (hxN : kx ≤ 50) (hno : ∀ j, j < kx → ¬ fX6_complainsIn_C a.toNatClampNeg ((fX2_copyFrom_P P Q) (82 + 5 * a.toNatClampNeg + 3)) (fX6_complainsIn_L a.toNatClampNeg ((fX2_copyFrom_P P Q) (82 + 5 * a.toNatClampNeg + 3)) (fX2_copyFrom_P P Q) j) j) (hyes : kx < 50 → fX6_complainsIn_C a.toNatClampNeg ((fX2_copyFrom_P P Q) (82 + 5 * a.toNatClampNeg + 3)) (fX6_complainsIn_L a.toNatClampNeg ((fX2_copyFrom_P P Q) (82 + 5 * a.toNatClampNeg + 3)) (fX2_copyFrom_P P Q) kx) kx) : gMet l Γ yX6_complainsIn wsX6_complainsIn 4 92 [.ref (gad Γ 475), .int a] (cS M X G J S C P Q) R O (some (.int (if kx < 50 then nI (kx + 1) else -9))) (cS M X G J S C P (fX6_complainsIn_L a.toNatClampNeg ((fX2_copyFrom_P P Q) (82 + 5 * a.toNatClampNeg + 3)) (fX2_copyFrom_P P Q) (if kx < 50 then kx + 1 else 50))) R O := by
  refine g_start (cc := cX6_complainsIn) (maxL := 5) (ret := (some .int)) (by decide) rfl (Nat.le_of_ble_eq_true rfl) ?_
  intro p e s m below meth c ls hx hb hml hrt hts hown hlocks hname hK hZ hG hS hl
  have hl : lv_has ls 5 [(0, .ref (gad Γ 475)), (1, .int a)] := hl
  have hown : s.vm.findClass RX6 = some m.cls := hown
  have hF : CallFix p m c cX6_complainsIn 5 s _ wsX6_complainsIn RX6 := ⟨hx, hb, hml, hown, hts⟩
  have k_1 : (Cond.fieldLink RX6 23 "RoadDust" "trial" "LRoadDust$Road;").before _ s = true := hts _ (by decide +kernel)
  have in_X6 : ∀ w ∈ wsX60, w ∈ wsX6_complainsIn := by decide +kernel
  have k_3 : (Cond.fieldLink RX6 19 "RoadDust" "now" "LRoadDust$Road;").before _ s = true := hts _ (by decide +kernel)
  have k_4 : (Cond.fieldLink RX6 197 "RoadDust$House" "complaints" "I").before _ s = true := hts _ (by decide +kernel)
  have in_X1 : ∀ w ∈ wsX10, w ∈ wsX6_complainsIn := by decide +kernel
  have hV0 := hC.2.1 0 (by decide)
  have hV1 := hC.2.1 1 (by decide)
  refine lv_aload_n hx hb dX6_complainsIn_0 rfl (lv_at hl 0 rfl) ?_
  refine go_getr (C := RX6) (T := TX6) (ci := 6) hx hb hts in_X6 hown hK hG (hC.1 475 (by decide) (by decide)) (show gC 475 = (6, 32, 0) from rfl) (by decide) rfl 2 (by decide) rfl hC.2.2.2.2.1 k_1 (fun _ h => h) dX6_complainsIn_1 ?_
  refine lv_aload_n hx hb dX6_complainsIn_4 rfl (lv_at hl 0 rfl) ?_
  refine go_getr (C := RX6) (T := TX6) (ci := 6) hx hb hts in_X6 hown hK hG (hC.1 475 (by decide) (by decide)) (show gC 475 = (6, 32, 0) from rfl) (by decide) rfl 1 (by decide) rfl hC.2.2.2.1 k_3 (fun _ h => h) dX6_complainsIn_5 ?_
  replace hG := g_st (show _ = va_up (cS M X G J S C P Q) 1 Q from (cS_u1 _ _ _ _ _ _ _ _ _).symm) hG
  refine g_callV (As := [.ref (gad Γ (25 * 0))]) (rest := []) (st1 := []) hF (mX2_copyFrom_q (cS M X G J S C P Q) R O hV1 hV0 (by decide) P Q (cS_b0 _ _ _ _ _ _ _ _) hB) (cwV 1 hts gX6_complainsIn_X2_copyFrom rfl rfl rfl (by decide +kernel) ⟨Nat.le_of_ble_eq_true rfl, Nat.le_of_ble_eq_true rfl⟩) hK hZ hG hS hV1.c0 (gC_Rd hV1.1) (by decide) rfl rfl hl.1 (Nat.le_of_ble_eq_true rfl) dX6_complainsIn_8 ⟨Nat.zero_le _, Nat.zero_le _⟩ rfl rfl (fun H locs hG hS => ?_)
  replace hG : GH Γ (cS M X G J S C P (fX2_copyFrom_P P Q)) R O _ := g_st (cS_u1 _ _ _ _ _ _ _ _ _) hG
  refine lv_aload_n hx hb dX6_complainsIn_11 rfl (lv_at hl 0 rfl) ?_
  refine go_getr (C := RX6) (T := TX6) (ci := 6) hx hb hts in_X6 hown hK hG (hC.1 475 (by decide) (by decide)) (show gC 475 = (6, 32, 0) from rfl) (by decide) rfl 2 (by decide) rfl hC.2.2.2.2.1 k_1 (fun _ h => h) dX6_complainsIn_12 ?_
  refine lv_iload_n hx hb dX6_complainsIn_15 rfl (lv_at hl 1 rfl) ?_
  replace hG := g_st (show _ = va_up (cS M X G J S C P (fX2_copyFrom_P P Q)) 1 (fX2_copyFrom_P P Q) from (cS_u1 _ _ _ _ _ _ _ _ _).symm) hG
  refine g_callV (As := [.int a]) (rest := []) (st1 := [.ref (gad Γ (25 * 1 + 14 + a.toNatClampNeg))]) hF (mX2_houseAt_y (cS M X G J S C P (fX2_copyFrom_P P Q)) R O hV1 (fX2_copyFrom_P P Q) h1 (j := a.toNatClampNeg) rfl) (cwV 1 hts gX6_complainsIn_X2_houseAt rfl rfl rfl (by decide +kernel) ⟨Nat.le_of_ble_eq_true rfl, Nat.le_of_ble_eq_true rfl⟩) hK hZ hG hS hV1.c0 (gC_Rd hV1.1) (by decide) rfl rfl hl.1 (Nat.le_of_ble_eq_true rfl) dX6_complainsIn_16 ⟨Nat.zero_le _, Nat.zero_le _⟩ rfl rfl (fun H locs hG hS => ?_)
  replace hG : GH Γ (cS M X G J S C P (fX2_copyFrom_P P Q)) R O _ := g_st (cS_u1 _ _ _ _ _ _ _ _ _) hG
  refine lv_astore_n (lv' := [(2, .ref (gad Γ (25 * 1 + 14 + a.toNatClampNeg))), (0, .ref (gad Γ 475)), (1, .int a)]) hx hb dX6_complainsIn_19 rfl hl (by decide) rfl (fun ls hl => ?_)
  refine lv_aload_n hx hb dX6_complainsIn_20 rfl (lv_at hl 0 rfl) ?_
  refine lv_ifnonnull (tgt := 34) hx hb dX6_complainsIn_21 (by decide) ?_
  refine lv_aload_n hx hb dX6_complainsIn_34 rfl (lv_at hl 0 rfl) ?_
  replace hG := g_st (show _ = va_up (cS M X G J S C P (fX2_copyFrom_P P Q)) 1 (fX2_copyFrom_P P Q) from (cS_u1 _ _ _ _ _ _ _ _ _).symm) hG
  refine gHs_get hx hb hts in_X1 hown hK hG hV1.1 (okI_lt (k := 8) rfl (by decide) h1) (hV1.hou (i := a.toNatClampNeg) (okI_lt (k := 8) rfl (by decide) h1)) 3 (by decide) k_4 (fun _ h => h) (j := 82 + 5 * a.toNatClampNeg + 3) rfl dX6_complainsIn_35 ?_
  replace hG : GH Γ (cS M X G J S C P (fX2_copyFrom_P P Q)) R O _ := g_st (cS_u1 _ _ _ _ _ _ _ _ _) hG
  refine lv_istore_n (lv' := [(3, .int ((fX2_copyFrom_P P Q) (82 + 5 * a.toNatClampNeg + 3))), (2, .ref (gad Γ (25 * 1 + 14 + a.toNatClampNeg))), (0, .ref (gad Γ 475)), (1, .int a)]) hx hb dX6_complainsIn_38 rfl hl (by decide) rfl (fun ls hl => ?_)
  refine lv_iconst (v := 1) hx hb dX6_complainsIn_39 (by decide) ?_
  refine lv_istore (lv' := [(4, .int 1), (3, .int ((fX2_copyFrom_P P Q) (82 + 5 * a.toNatClampNeg + 3))), (2, .ref (gad Γ (25 * 1 + 14 + a.toNatClampNeg))), (0, .ref (gad Γ 475)), (1, .int a)]) hx hb dX6_complainsIn_40 hl (by decide) rfl (fun ls hl => ?_)
  refine g_loop (N := 50) (fun k H locs ls => k ≤ kx ∧ GH Γ (cS M X G J S C P (fX6_complainsIn_L a.toNatClampNeg ((fX2_copyFrom_P P Q) (82 + 5 * a.toNatClampNeg + 3)) (fX2_copyFrom_P P Q) k)) R O H ∧ va_S (gA Γ) s.heap H locs ∧ lv_has ls 5 [(0, .ref (gad Γ 475)), (2, .ref (gad Γ (25 * 1 + 14 + a.toNatClampNeg))), (3, .int ((fX2_copyFrom_P P Q) (82 + 5 * a.toNatClampNeg + 3))), (4, .int (nI (k + 1)))]) ?_ ?_ 0 (Nat.zero_le _) _ _ _ ⟨Nat.zero_le _, hG, hS, lv_sub hl [3, 2, 1, 0] rfl⟩
  · rintro H locs ls ⟨hle_x, hG, hS, hl⟩
    have ex : kx = 50 := Nat.le_antisymm hxN hle_x
    refine lv_iload hx hb dX6_complainsIn_42 (lv_at hl 3 rfl) ?_
    refine lv_bipush (v := 50) hx hb dX6_complainsIn_44 (by decide) ?_
    refine lv_icmp_gt (tgt := 73) hx hb dX6_complainsIn_46 (by decide) (fun c_2 => ?_) (fun c_2 => absurd (nI_lt (a := 50) (b := 51) (by decide) (by decide)) c_2)
    refine lv_bipush (v := (-9)) hx hb dX6_complainsIn_73 (by decide) ?_
    exact g_iret hx hb hrt hlocks hS hG (by rw [if_neg (by omega)]) (cS_c rfl rfl rfl rfl rfl rfl (by rw [if_neg (by omega)])) dX6_complainsIn_75
  · rintro k hk_k ih_k H locs ls ⟨hle_k, hG, hS, hl⟩
    refine lv_iload hx hb dX6_complainsIn_42 (lv_at hl 3 rfl) ?_
    refine lv_bipush (v := 50) hx hb dX6_complainsIn_44 (by decide) ?_
    refine lv_icmp_gt (tgt := 73) hx hb dX6_complainsIn_46 (by decide) (fun c_3 => absurd c_3 (nI_nlt (a := 50) (by omega) (by decide))) (fun c_3 => ?_)
    refine lv_aload_n hx hb dX6_complainsIn_49 rfl (lv_at hl 0 rfl) ?_
    refine go_getr (C := RX6) (T := TX6) (ci := 6) hx hb hts in_X6 hown hK hG (hC.1 475 (by decide) (by decide)) (show gC 475 = (6, 32, 0) from rfl) (by decide) rfl 2 (by decide) rfl hC.2.2.2.2.1 k_1 (fun _ h => h) dX6_complainsIn_50 ?_
    replace hG := g_st (show _ = va_up (cS M X G J S C P (fX6_complainsIn_L a.toNatClampNeg ((fX2_copyFrom_P P Q) (82 + 5 * a.toNatClampNeg + 3)) (fX2_copyFrom_P P Q) k)) 1 (fX6_complainsIn_L a.toNatClampNeg ((fX2_copyFrom_P P Q) (82 + 5 * a.toNatClampNeg + 3)) (fX2_copyFrom_P P Q) k) from (cS_u1 _ _ _ _ _ _ _ _ _).symm) hG
    refine g_callV (As := []) (rest := []) (st1 := []) hF (mX2_goHour (cS M X G J S C P (fX6_complainsIn_L a.toNatClampNeg ((fX2_copyFrom_P P Q) (82 + 5 * a.toNatClampNeg + 3)) (fX2_copyFrom_P P Q) k)) R O hV1 (fX6_complainsIn_L a.toNatClampNeg ((fX2_copyFrom_P P Q) (82 + 5 * a.toNatClampNeg + 3)) (fX2_copyFrom_P P Q) k) (by rw [fX6_complainsIn_1, cpf_lo _ _ 1 (by decide)]; exact h8)) (cwV 0 hts gX6_complainsIn_X2_goHour rfl rfl rfl (by decide +kernel) ⟨Nat.le_of_ble_eq_true rfl, Nat.le_of_ble_eq_true rfl⟩) hK hZ hG hS hV1.c0 (gC_Rd hV1.1) (by decide) rfl rfl hl.1 (Nat.le_of_ble_eq_true rfl) dX6_complainsIn_53 ⟨Nat.zero_le _, Nat.zero_le _⟩ rfl rfl (fun H locs hG hS => ?_)
    replace hG : GH Γ (cS M X G J S C P (fX2_goHour_P (fX6_complainsIn_L a.toNatClampNeg ((fX2_copyFrom_P P Q) (82 + 5 * a.toNatClampNeg + 3)) (fX2_copyFrom_P P Q) k))) R O _ := g_st (cS_u1 _ _ _ _ _ _ _ _ _) hG
    refine lv_aload_n hx hb dX6_complainsIn_56 rfl (lv_at hl 1 rfl) ?_
    replace hG := g_st (show _ = va_up (cS M X G J S C P (fX2_goHour_P (fX6_complainsIn_L a.toNatClampNeg ((fX2_copyFrom_P P Q) (82 + 5 * a.toNatClampNeg + 3)) (fX2_copyFrom_P P Q) k))) 1 (fX2_goHour_P (fX6_complainsIn_L a.toNatClampNeg ((fX2_copyFrom_P P Q) (82 + 5 * a.toNatClampNeg + 3)) (fX2_copyFrom_P P Q) k)) from (cS_u1 _ _ _ _ _ _ _ _ _).symm) hG
    refine gHs_get hx hb hts in_X1 hown hK hG hV1.1 (okI_lt (k := 8) rfl (by decide) h1) (hV1.hou (i := a.toNatClampNeg) (okI_lt (k := 8) rfl (by decide) h1)) 3 (by decide) k_4 (fun _ h => h) (j := 82 + 5 * a.toNatClampNeg + 3) rfl dX6_complainsIn_57 ?_
    replace hG : GH Γ (cS M X G J S C P (fX2_goHour_P (fX6_complainsIn_L a.toNatClampNeg ((fX2_copyFrom_P P Q) (82 + 5 * a.toNatClampNeg + 3)) (fX2_copyFrom_P P Q) k))) R O _ := g_st (cS_u1 _ _ _ _ _ _ _ _ _) hG
    refine lv_iload_n hx hb dX6_complainsIn_60 rfl (lv_at hl 2 rfl) ?_
    refine lv_icmp_eq (tgt := 67) hx hb dX6_complainsIn_61 (by decide) (fun c_4 => ?_) (fun c_4 => ?_)
    · --T
      refine lv_iinc (v := nI (k + 1 + 1)) (lv' := [(4, .int (nI (k + 1 + 1))), (0, .ref (gad Γ 475)), (2, .ref (gad Γ (25 * 1 + 14 + a.toNatClampNeg))), (3, .int ((fX2_copyFrom_P P Q) (82 + 5 * a.toNatClampNeg + 3)))]) hx hb dX6_complainsIn_67 hl (k := 3) rfl (nI_1 _) (by decide) rfl (fun ls hl => ?_)
      refine lv_goto (tgt := 42) hx hb dX6_complainsIn_70 (by decide) ?_
      exact ih_k _ _ _ ⟨Nat.lt_of_le_of_ne hle_k (fun e => by subst e; exact (hyes hk_k) c_4), hG, hS, lv_sub hl [1, 2, 3, 0] rfl⟩
    · --F
      have ex : k = kx := Nat.le_antisymm hle_k (Nat.le_of_not_lt (fun q => hno _ q c_4))
      subst ex
      refine lv_iload hx hb dX6_complainsIn_64 (lv_at hl 3 rfl) ?_
      exact g_iret hx hb hrt hlocks hS hG (by rw [if_pos hk_k]) (cS_c rfl rfl rfl rfl rfl rfl (by rw [if_pos hk_k] <;> rfl)) dX6_complainsIn_66

