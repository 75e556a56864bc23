/-! THE CLASS: simulate. Laid by gen/p23.py. -/
theorem mch_1 (P : Nat → Int32) (a : Int32) : fX2_meetChance_P P a 1 = P 1 := by
  have hm : ∀ P b c, fX2_moveWagon_P P b c 1 = P 1 := fun P b c => by
    unfold fX2_moveWagon_P
    (repeat' split) <;> first | rfl | (repeat rw [upd_nw _ _ (by omega)])
  have hs : ∀ P b c, fX2_sprayFrom_P P b c 1 = P 1 := fun P b c => by
    unfold fX2_sprayFrom_P
    (repeat' split) <;> first | rfl | (unfold fX3_wet_P; repeat rw [upd_nw _ _ (by omega)])
  unfold fX2_meetChance_P
  simp only [ite_ap, hs, hm, upd_nw _ _ (show 1 ≠ 6 by decide), upd_nw _ _ (show 1 ≠ 5 by decide), ite_self]
set_option maxHeartbeats 4000000 in
set_option maxRecDepth 100000 in
theorem tX6_simulate {l : Launch} {Γ : gX} (hst : l.stackTraces = false) (M : Nat → Nat → Int32) (R : Nat → Nat → Option Nat) (O : Int64) (hC : LC Γ R) (X G J S C P Q : Nat → Int32) (sd : Int64) (d : Int32) (h : fX6_within_v d 1 99 = 0) : gThr l Γ yX6_simulate wsX6_simulate 6 82 [.ref (gad Γ 475), .long sd, .int d] (cS M X G J S C P Q) R O "java/lang/IllegalArgumentException" (cS M X G J S C P Q) R O := by
  refine g_startT (cc := cX6_simulate) (maxL := 9) (ret := (some .int)) (by decide) rfl (Nat.le_of_ble_eq_true rfl) ?_
  intro p e s m below meth c ls hx hb hml hrt hts hown hlocks hname hK hZ hG hS hl hX hnx
  have hl : lv_has ls 9 [(0, .ref (gad Γ 475)), (1, .long sd), (3, .int d)] := hl
  have hown : s.vm.findClass RX6 = some m.cls := hown
  have hF : CallFix p m c cX6_simulate 9 s _ wsX6_simulate RX6 := ⟨hx, hb, hml, hown, hts⟩
  have hV0 := hC.2.1 0 (by decide)
  have hV1 := hC.2.1 1 (by decide)
  refine lv_iload_n hx hb dX6_simulate_0 rfl (lv_at hl 2 rfl) ?_
  refine lv_iconst (v := 1) hx hb dX6_simulate_1 (by decide) ?_
  refine lv_bipush (v := 99) hx hb dX6_simulate_2 (by decide) ?_
  refine g_callS (As := [.int d, .int 1, .int 99]) (rest := []) (st1 := [.int (fX6_within_v d 1 99)]) hF (mX6_within _ R O d 1 99) (va_cwS 3 hts gX6_simulate_X6_within rfl rfl rfl (by decide +kernel) ⟨Nat.le_of_ble_eq_true rfl, Nat.le_of_ble_eq_true rfl⟩) hK hZ hG hS rfl hl.1 (Nat.le_of_ble_eq_true rfl) dX6_simulate_4 ⟨Nat.zero_le _, Nat.zero_le _⟩ rfl rfl (fun H locs hG hS => ?_)
  refine lv_if_ne (tgt := 20) hx hb dX6_simulate_7 (by decide) (fun c_1 => absurd h c_1) (fun c_1 => ?_)
  exact g_throw (cls := "java/lang/IllegalArgumentException") (text := "hours out of range") (ik := 158) (is := 160) (ic := 162) hx hb hst hown (by decide +kernel) hts (by decide +kernel) (by decide +kernel) (by decide +kernel) (by decide +kernel) (by decide +kernel) (by decide +kernel) hX hZ hG hS (hl.1.trans hml.symm) dX6_simulate_10 dX6_simulate_13 dX6_simulate_14 dX6_simulate_16 dX6_simulate_19 hnx (Nat.le_of_ble_eq_true rfl) (Nat.le_of_ble_eq_true rfl) ⟨Nat.le_of_ble_eq_true rfl, Nat.le_of_ble_eq_true rfl⟩ hlocks

def fX6_simh_S (sd : Int64) (Pk : Nat → Int32) (k : Nat) : Nat → Int32 := fX2_goHour_P (fX2_meetChance_P Pk (nI (rho (lcg sd (k + 1)))))
def fX6_simh_L (sd : Int64) (P : Nat → Int32) : Nat → Nat → Int32
  | 0 => P
  | k + 1 => fX6_simh_S sd (fX6_simh_L sd P k) k
def fX6_simh_T7 (sd : Int64) (Pk : Nat → Int32) (k : Nat) (a7 : Int32) : Int32 := a7 + ((fX2_goHour_P (fX2_meetChance_P Pk (nI (rho (lcg sd (k + 1)))))) (82 + 5 * 0 + 4))
def fX6_simh_A7 (sd : Int64) (P : Nat → Int32) : Nat → Int32
  | 0 => 0
  | k + 1 => fX6_simh_T7 sd (fX6_simh_L sd P k) k (fX6_simh_A7 sd P k)
theorem fX6_simh_1 (sd : Int64) (P : Nat → Int32) : ∀ k, fX6_simh_L sd P k 1 = P 1
  | 0 => rfl
  | k + 1 => (fX2_goHour_1 _).trans ((mch_1 _ _).trans (fX6_simh_1 sd P k))
set_option maxHeartbeats 4000000 in
set_option maxRecDepth 100000 in
theorem mX6_simulate_h {l : Launch} {Γ : gX} (M : Nat → Nat → Int32) (R : Nat → Nat → Option Nat) (O : Int64) (hC : LC Γ R) (X G J S C P Q : Nat → Int32) (hB : BL P) (h8 : (P 1).toNatClampNeg ≤ 8) (sd : Int64) (d : Int32) (h : ¬ fX6_within_v d 1 99 = 0) (h1 : okI 0 ((fX2_copyFrom_P P Q) 1) 8) : gMet l Γ yX6_simulate wsX6_simulate 5 111 [.ref (gad Γ 475), .long sd, .int d] (cS M X G J S C P Q) R O (some (.int (10000 * (fX6_simh_L sd (fX2_copyFrom_P P Q) d.toNatClampNeg 10 - P 10) + (if fX6_simh_A7 sd (fX2_copyFrom_P P Q) d.toNatClampNeg < 9999 then fX6_simh_A7 sd (fX2_copyFrom_P P Q) d.toNatClampNeg else 9999)))) (cS M X G J S C P (fX6_simh_L sd (fX2_copyFrom_P P Q) d.toNatClampNeg)) R O := by
  refine g_start (cc := cX6_simulate) (maxL := 9) (ret := (some .int)) (by decide) rfl (Nat.le_of_ble_eq_true rfl) ?_
  intro p e s m below meth c ls hx hb hml hrt hts hown hlocks hname hK hZ hG hS hl
  have hl : lv_has ls 9 [(0, .ref (gad Γ 475)), (1, .long sd), (3, .int d)] := hl
  have hown : s.vm.findClass RX6 = some m.cls := hown
  have hF : CallFix p m c cX6_simulate 9 s _ wsX6_simulate RX6 := ⟨hx, hb, hml, hown, hts⟩
  have k_1 : (Cond.fieldLink RX6 23 "RoadDust" "trial" "LRoadDust$Road;").before _ s = true := hts _ (by decide +kernel)
  have in_X6 : ∀ w ∈ wsX60, w ∈ wsX6_simulate := by decide +kernel
  have k_3 : (Cond.fieldLink RX6 19 "RoadDust" "now" "LRoadDust$Road;").before _ s = true := hts _ (by decide +kernel)
  have k_4 : (Cond.fieldLink RX6 224 "RoadDust$Road" "complaints" "I").before _ s = true := hts _ (by decide +kernel)
  have in_X2 : ∀ w ∈ wsX20, w ∈ wsX6_simulate := by decide +kernel
  have k_6 : (Cond.methodLink RX6 225 Lib.Math.min.name).before _ s = true := hts _ (by decide +kernel)
  have k_7 : (Cond.static Lib.Math.min.name).before _ s = true := hts _ (by decide +kernel)
  have k_8 : (Cond.initialized "java/lang/Math").before _ s = true := hts _ (by decide +kernel)
  have k_9 : (Cond.code Lib.Math.min.name Lib.Math.min.code 2 (some .int)).before _ s = true := hts _ (by decide +kernel)
  have k_10 : (Cond.constantLong RX6 216 (6364136223846793005)).before _ s = true := hts _ (by decide +kernel)
  have k_11 : (Cond.constantLong RX6 218 (1442695040888963407)).before _ s = true := hts _ (by decide +kernel)
  have k_12 : (Cond.fieldLink RX6 163 "RoadDust$House" "got" "I").before _ s = true := hts _ (by decide +kernel)
  have in_X1 : ∀ w ∈ wsX10, w ∈ wsX6_simulate := by decide +kernel
  have hV0 := hC.2.1 0 (by decide)
  have hV1 := hC.2.1 1 (by decide)
  refine lv_iload_n hx hb dX6_simulate_0 rfl (lv_at hl 2 rfl) ?_
  refine lv_iconst (v := 1) hx hb dX6_simulate_1 (by decide) ?_
  refine lv_bipush (v := 99) hx hb dX6_simulate_2 (by decide) ?_
  refine g_callS (As := [.int d, .int 1, .int 99]) (rest := []) (st1 := [.int (fX6_within_v d 1 99)]) hF (mX6_within _ R O d 1 99) (va_cwS 3 hts gX6_simulate_X6_within rfl rfl rfl (by decide +kernel) ⟨Nat.le_of_ble_eq_true rfl, Nat.le_of_ble_eq_true rfl⟩) hK hZ hG hS rfl hl.1 (Nat.le_of_ble_eq_true rfl) dX6_simulate_4 ⟨Nat.zero_le _, Nat.zero_le _⟩ rfl rfl (fun H locs hG hS => ?_)
  refine lv_if_ne (tgt := 20) hx hb dX6_simulate_7 (by decide) (fun c_1 => ?_) (fun c_1 => absurd c_1 h)
  refine lv_aload_n hx hb dX6_simulate_20 rfl (lv_at hl 0 rfl) ?_
  refine go_getr (C := RX6) (T := TX6) (ci := 6) hx hb hts in_X6 hown hK hG (hC.1 475 (by decide) (by decide)) (show gC 475 = (6, 32, 0) from rfl) (by decide) rfl 2 (by decide) rfl hC.2.2.2.2.1 k_1 (fun _ h => h) dX6_simulate_21 ?_
  refine lv_aload_n hx hb dX6_simulate_24 rfl (lv_at hl 0 rfl) ?_
  refine go_getr (C := RX6) (T := TX6) (ci := 6) hx hb hts in_X6 hown hK hG (hC.1 475 (by decide) (by decide)) (show gC 475 = (6, 32, 0) from rfl) (by decide) rfl 1 (by decide) rfl hC.2.2.2.1 k_3 (fun _ h => h) dX6_simulate_25 ?_
  replace hG := g_st (show _ = va_up (cS M X G J S C P Q) 1 Q from (cS_u1 _ _ _ _ _ _ _ _ _).symm) hG
  refine g_callV (As := [.ref (gad Γ (25 * 0))]) (rest := []) (st1 := []) hF (mX2_copyFrom_q (cS M X G J S C P Q) R O hV1 hV0 (by decide) P Q (cS_b0 _ _ _ _ _ _ _ _) hB) (cwV 1 hts gX6_simulate_X2_copyFrom rfl rfl rfl (by decide +kernel) ⟨Nat.le_of_ble_eq_true rfl, Nat.le_of_ble_eq_true rfl⟩) hK hZ hG hS hV1.c0 (gC_Rd hV1.1) (by decide) rfl rfl hl.1 (Nat.le_of_ble_eq_true rfl) dX6_simulate_28 ⟨Nat.zero_le _, Nat.zero_le _⟩ rfl rfl (fun H locs hG hS => ?_)
  replace hG : GH Γ (cS M X G J S C P (fX2_copyFrom_P P Q)) R O _ := g_st (cS_u1 _ _ _ _ _ _ _ _ _) hG
  refine lv_aload_n hx hb dX6_simulate_31 rfl (lv_at hl 0 rfl) ?_
  refine go_getr (C := RX6) (T := TX6) (ci := 6) hx hb hts in_X6 hown hK hG (hC.1 475 (by decide) (by decide)) (show gC 475 = (6, 32, 0) from rfl) (by decide) rfl 2 (by decide) rfl hC.2.2.2.2.1 k_1 (fun _ h => h) dX6_simulate_32 ?_
  refine lv_iconst (v := 0) hx hb dX6_simulate_35 (by decide) ?_
  replace hG := g_st (show _ = va_up (cS M X G J S C P (fX2_copyFrom_P P Q)) 1 (fX2_copyFrom_P P Q) from (cS_u1 _ _ _ _ _ _ _ _ _).symm) hG
  refine g_callV (As := [.int 0]) (rest := []) (st1 := [.ref (gad Γ (25 * 1 + 14 + 0))]) hF (mX2_houseAt_y (cS M X G J S C P (fX2_copyFrom_P P Q)) R O hV1 (fX2_copyFrom_P P Q) h1 (j := 0) rfl) (cwV 1 hts gX6_simulate_X2_houseAt rfl rfl rfl (by decide +kernel) ⟨Nat.le_of_ble_eq_true rfl, Nat.le_of_ble_eq_true rfl⟩) hK hZ hG hS hV1.c0 (gC_Rd hV1.1) (by decide) rfl rfl hl.1 (Nat.le_of_ble_eq_true rfl) dX6_simulate_36 ⟨Nat.zero_le _, Nat.zero_le _⟩ rfl rfl (fun H locs hG hS => ?_)
  replace hG : GH Γ (cS M X G J S C P (fX2_copyFrom_P P Q)) R O _ := g_st (cS_u1 _ _ _ _ _ _ _ _ _) hG
  refine lv_astore (lv' := [(4, .ref (gad Γ (25 * 1 + 14 + 0))), (0, .ref (gad Γ 475)), (1, .long sd), (3, .int d)]) hx hb dX6_simulate_39 hl (by decide) rfl (fun ls hl => ?_)
  refine lv_lload_n hx hb dX6_simulate_41 rfl (lv_at hl 2 rfl) ?_
  refine lv_lstore (lv' := [(5, .long sd), (4, .ref (gad Γ (25 * 1 + 14 + 0))), (0, .ref (gad Γ 475)), (1, .long sd), (3, .int d)]) hx hb dX6_simulate_42 hl (by decide) rfl (fun ls hl => ?_)
  refine lv_iconst (v := 0) hx hb dX6_simulate_44 (by decide) ?_
  refine lv_istore (lv' := [(7, .int 0), (5, .long sd), (4, .ref (gad Γ (25 * 1 + 14 + 0))), (0, .ref (gad Γ 475)), (1, .long sd), (3, .int d)]) hx hb dX6_simulate_45 hl (by decide) rfl (fun ls hl => ?_)
  refine lv_iconst (v := 0) hx hb dX6_simulate_47 (by decide) ?_
  refine lv_istore (lv' := [(8, .int 0), (7, .int 0), (5, .long sd), (4, .ref (gad Γ (25 * 1 + 14 + 0))), (0, .ref (gad Γ 475)), (1, .long sd), (3, .int d)]) hx hb dX6_simulate_48 hl (by decide) rfl (fun ls hl => ?_)
  refine g_loop (N := d.toNatClampNeg) (fun k H locs ls => GH Γ (cS M X G J S C P (fX6_simh_L sd (fX2_copyFrom_P P Q) k)) R O H ∧ va_S (gA Γ) s.heap H locs ∧ lv_has ls 9 [(0, .ref (gad Γ 475)), (3, .int d), (4, .ref (gad Γ (25 * 1 + 14 + 0))), (7, .int (fX6_simh_A7 sd (fX2_copyFrom_P P Q) k)), (5, .long (lcg sd k)), (8, .int (nI k))]) ?_ ?_ 0 (Nat.zero_le _) _ _ _ ⟨hG, hS, lv_sub hl [4, 6, 3, 1, 2, 0] rfl⟩
  · rintro H locs ls ⟨hG, hS, hl⟩
    refine lv_iload hx hb dX6_simulate_50 (lv_at hl 5 rfl) ?_
    refine lv_iload_n hx hb dX6_simulate_52 rfl (lv_at hl 1 rfl) ?_
    refine lv_icmp_ge (tgt := 113) hx hb dX6_simulate_53 (by decide) (fun c_3 => ?_) (fun c_3 => absurd (cl_le _) c_3)
    refine lv_sipush (v := 10000) hx hb dX6_simulate_113 (by decide) ?_
    refine lv_aload_n hx hb dX6_simulate_116 rfl (lv_at hl 0 rfl) ?_
    refine go_getr (C := RX6) (T := TX6) (ci := 6) hx hb hts in_X6 hown hK hG (hC.1 475 (by decide) (by decide)) (show gC 475 = (6, 32, 0) from rfl) (by decide) rfl 2 (by decide) rfl hC.2.2.2.2.1 k_1 (fun _ h => h) dX6_simulate_117 ?_
    replace hG := g_st (show _ = va_up (cS M X G J S C P (fX6_simh_L sd (fX2_copyFrom_P P Q) d.toNatClampNeg)) 1 (fX6_simh_L sd (fX2_copyFrom_P P Q) d.toNatClampNeg) from (cS_u1 _ _ _ _ _ _ _ _ _).symm) hG
    refine gRd_get hx hb hts in_X2 hown hK hG hV1.1 hV1.c0 10 (by decide) k_4 (fun _ h => h) (j := 10) rfl dX6_simulate_120 ?_
    replace hG : GH Γ (cS M X G J S C P (fX6_simh_L sd (fX2_copyFrom_P P Q) d.toNatClampNeg)) R O _ := g_st (cS_u1 _ _ _ _ _ _ _ _ _) hG
    refine lv_aload_n hx hb dX6_simulate_123 rfl (lv_at hl 0 rfl) ?_
    refine go_getr (C := RX6) (T := TX6) (ci := 6) hx hb hts in_X6 hown hK hG (hC.1 475 (by decide) (by decide)) (show gC 475 = (6, 32, 0) from rfl) (by decide) rfl 1 (by decide) rfl hC.2.2.2.1 k_3 (fun _ h => h) dX6_simulate_124 ?_
    replace hG := g_st (show _ = va_up (cS M X G J S C P (fX6_simh_L sd (fX2_copyFrom_P P Q) d.toNatClampNeg)) 0 P from (cS_u0 _ _ _ _ _ _ _ _ _).symm) hG
    refine gRd_get hx hb hts in_X2 hown hK hG hV0.1 hV0.c0 10 (by decide) k_4 (fun _ h => h) (j := 10) rfl dX6_simulate_127 ?_
    replace hG : GH Γ (cS M X G J S C P (fX6_simh_L sd (fX2_copyFrom_P P Q) d.toNatClampNeg)) R O _ := g_st (cS_u0 _ _ _ _ _ _ _ _ _) hG
    refine lv_isub hx hb dX6_simulate_130 ?_
    refine lv_imul hx hb dX6_simulate_131 ?_
    refine lv_sipush (v := 9999) hx hb dX6_simulate_132 (by decide) ?_
    refine lv_iload hx hb dX6_simulate_135 (lv_at hl 3 rfl) ?_
    refine va_mmin hx hb (hml.trans hl.1.symm) hown k_6 k_7 k_8 k_9 (Nat.le_of_ble_eq_true rfl) (Nat.le_of_ble_eq_true rfl) (Nat.le_of_ble_eq_true rfl) (Nat.le_of_ble_eq_true rfl) dX6_simulate_137 ?_
    refine lv_iadd hx hb dX6_simulate_140 ?_
    exact g_iret hx hb hrt hlocks hS hG rfl rfl dX6_simulate_141
  · rintro k hk_k ih_k H locs ls ⟨hG, hS, hl⟩
    refine lv_iload hx hb dX6_simulate_50 (lv_at hl 5 rfl) ?_
    refine lv_iload_n hx hb dX6_simulate_52 rfl (lv_at hl 1 rfl) ?_
    refine lv_icmp_ge (tgt := 113) hx hb dX6_simulate_53 (by decide) (fun c_4 => absurd c_4 (cl_ge hk_k)) (fun c_4 => ?_)
    refine lv_lload hx hb dX6_simulate_56 (lv_at hl 4 rfl) ?_
    refine lv_ldc2 hx hb hown k_10 dX6_simulate_58 ?_
    refine lv_lmul hx hb dX6_simulate_61 ?_
    refine lv_ldc2 hx hb hown k_11 dX6_simulate_62 ?_
    refine lv_ladd hx hb dX6_simulate_65 ?_
    refine lv_lstore (lv' := [(5, .long (((lcg sd k) * 6364136223846793005) + 1442695040888963407)), (0, .ref (gad Γ 475)), (3, .int d), (4, .ref (gad Γ (25 * 1 + 14 + 0))), (7, .int (fX6_simh_A7 sd (fX2_copyFrom_P P Q) k)), (8, .int (nI k))]) hx hb dX6_simulate_66 hl (by decide) rfl (fun ls hl => ?_)
    refine lv_aload_n hx hb dX6_simulate_68 rfl (lv_at hl 1 rfl) ?_
    refine go_getr (C := RX6) (T := TX6) (ci := 6) hx hb hts in_X6 hown hK hG (hC.1 475 (by decide) (by decide)) (show gC 475 = (6, 32, 0) from rfl) (by decide) rfl 2 (by decide) rfl hC.2.2.2.2.1 k_1 (fun _ h => h) dX6_simulate_69 ?_
    refine lv_lload hx hb dX6_simulate_72 (lv_at hl 0 rfl) ?_
    refine lv_bipush (v := 33) hx hb dX6_simulate_74 (by decide) ?_
    refine lv_lushr hx hb dX6_simulate_76 rfl ?_
    refine lv_l2i hx hb dX6_simulate_77 rfl ?_
    refine g_top (rho_pl (lcg sd (k + 1))) ?_
    replace hG := g_st (show _ = va_up (cS M X G J S C P (fX6_simh_L sd (fX2_copyFrom_P P Q) k)) 1 (fX6_simh_L sd (fX2_copyFrom_P P Q) k) from (cS_u1 _ _ _ _ _ _ _ _ _).symm) hG
    refine g_callV (As := [.int (nI (rho (lcg sd (k + 1))))]) (rest := []) (st1 := []) hF (mX2_meetChance (cS M X G J S C P (fX6_simh_L sd (fX2_copyFrom_P P Q) k)) R O hV1 (fX6_simh_L sd (fX2_copyFrom_P P Q) k) (nI (rho (lcg sd (k + 1))))) (cwV 1 hts gX6_simulate_X2_meetChance rfl rfl rfl (by decide +kernel) ⟨Nat.le_of_ble_eq_true rfl, Nat.le_of_ble_eq_true rfl⟩) hK hZ hG hS hV1.c0 (gC_Rd hV1.1) (by decide) rfl rfl hl.1 (Nat.le_of_ble_eq_true rfl) dX6_simulate_78 ⟨Nat.zero_le _, Nat.zero_le _⟩ rfl rfl (fun H locs hG hS => ?_)
    replace hG : GH Γ (cS M X G J S C P (fX2_meetChance_P (fX6_simh_L sd (fX2_copyFrom_P P Q) k) (nI (rho (lcg sd (k + 1)))))) R O _ := g_st (cS_u1 _ _ _ _ _ _ _ _ _) hG
    refine lv_aload_n hx hb dX6_simulate_81 rfl (lv_at hl 1 rfl) ?_
    refine go_getr (C := RX6) (T := TX6) (ci := 6) hx hb hts in_X6 hown hK hG (hC.1 475 (by decide) (by decide)) (show gC 475 = (6, 32, 0) from rfl) (by decide) rfl 2 (by decide) rfl hC.2.2.2.2.1 k_1 (fun _ h => h) dX6_simulate_82 ?_
    replace hG := g_st (show _ = va_up (cS M X G J S C P (fX2_meetChance_P (fX6_simh_L sd (fX2_copyFrom_P P Q) k) (nI (rho (lcg sd (k + 1)))))) 1 (fX2_meetChance_P (fX6_simh_L sd (fX2_copyFrom_P P Q) k) (nI (rho (lcg sd (k + 1))))) from (cS_u1 _ _ _ _ _ _ _ _ _).symm) hG
    refine g_callV (As := []) (rest := []) (st1 := []) hF (mX2_goHour (cS M X G J S C P (fX2_meetChance_P (fX6_simh_L sd (fX2_copyFrom_P P Q) k) (nI (rho (lcg sd (k + 1)))))) R O hV1 (fX2_meetChance_P (fX6_simh_L sd (fX2_copyFrom_P P Q) k) (nI (rho (lcg sd (k + 1))))) (by rw [mch_1, fX6_simh_1, cpf_lo _ _ 1 (by decide)]; exact h8)) (cwV 0 hts gX6_simulate_X2_goHour rfl rfl rfl (by decide +kernel) ⟨Nat.le_of_ble_eq_true rfl, Nat.le_of_ble_eq_true rfl⟩) hK hZ hG hS hV1.c0 (gC_Rd hV1.1) (by decide) rfl rfl hl.1 (Nat.le_of_ble_eq_true rfl) dX6_simulate_85 ⟨Nat.zero_le _, Nat.zero_le _⟩ rfl rfl (fun H locs hG hS => ?_)
    replace hG : GH Γ (cS M X G J S C P (fX2_goHour_P (fX2_meetChance_P (fX6_simh_L sd (fX2_copyFrom_P P Q) k) (nI (rho (lcg sd (k + 1))))))) R O _ := g_st (cS_u1 _ _ _ _ _ _ _ _ _) hG
    refine lv_iload hx hb dX6_simulate_88 (lv_at hl 4 rfl) ?_
    refine lv_aload hx hb dX6_simulate_90 (lv_at hl 3 rfl) ?_
    refine lv_ifnonnull (tgt := 99) hx hb dX6_simulate_92 (by decide) ?_
    refine lv_aload hx hb dX6_simulate_99 (lv_at hl 3 rfl) ?_
    replace hG := g_st (show _ = va_up (cS M X G J S C P (fX2_goHour_P (fX2_meetChance_P (fX6_simh_L sd (fX2_copyFrom_P P Q) k) (nI (rho (lcg sd (k + 1))))))) 1 (fX2_goHour_P (fX2_meetChance_P (fX6_simh_L sd (fX2_copyFrom_P P Q) k) (nI (rho (lcg sd (k + 1)))))) from (cS_u1 _ _ _ _ _ _ _ _ _).symm) hG
    refine gHs_get hx hb hts in_X1 hown hK hG hV1.1 (by decide) (hV1.hou (i := 0) (by decide)) 4 (by decide) k_12 (fun _ h => h) (j := 82 + 5 * 0 + 4) rfl dX6_simulate_101 ?_
    replace hG : GH Γ (cS M X G J S C P (fX2_goHour_P (fX2_meetChance_P (fX6_simh_L sd (fX2_copyFrom_P P Q) k) (nI (rho (lcg sd (k + 1))))))) R O _ := g_st (cS_u1 _ _ _ _ _ _ _ _ _) hG
    refine lv_iadd hx hb dX6_simulate_104 ?_
    refine lv_istore (lv' := [(7, .int ((fX6_simh_A7 sd (fX2_copyFrom_P P Q) k) + ((fX2_goHour_P (fX2_meetChance_P (fX6_simh_L sd (fX2_copyFrom_P P Q) k) (nI (rho (lcg sd (k + 1)))))) (82 + 5 * 0 + 4)))), (5, .long (((lcg sd k) * 6364136223846793005) + 1442695040888963407)), (0, .ref (gad Γ 475)), (3, .int d), (4, .ref (gad Γ (25 * 1 + 14 + 0))), (8, .int (nI k))]) hx hb dX6_simulate_105 hl (by decide) rfl (fun ls hl => ?_)
    refine lv_iinc (v := nI (k + 1)) (lv' := [(8, .int (nI (k + 1))), (7, .int ((fX6_simh_A7 sd (fX2_copyFrom_P P Q) k) + ((fX2_goHour_P (fX2_meetChance_P (fX6_simh_L sd (fX2_copyFrom_P P Q) k) (nI (rho (lcg sd (k + 1)))))) (82 + 5 * 0 + 4)))), (5, .long (((lcg sd k) * 6364136223846793005) + 1442695040888963407)), (0, .ref (gad Γ 475)), (3, .int d), (4, .ref (gad Γ (25 * 1 + 14 + 0)))]) hx hb dX6_simulate_107 hl (k := 5) rfl (nI_1 _) (by decide) rfl (fun ls hl => ?_)
    refine lv_goto (tgt := 50) hx hb dX6_simulate_110 (by decide) ?_
    exact ih_k _ _ _ ⟨hG, hS, lv_sub hl [3, 4, 5, 1, 2, 0] rfl⟩

def fX6_simn_S (sd : Int64) (Pk : Nat → Int32) (k : Nat) : Nat → Int32 := fX2_goHour_P (fX2_meetChance_P Pk (nI (rho (lcg sd (k + 1)))))
def fX6_simn_L (sd : Int64) (P : Nat → Int32) : Nat → Nat → Int32
  | 0 => P
  | k + 1 => fX6_simn_S sd (fX6_simn_L sd P k) k
def fX6_simn_T7 (sd : Int64) (Pk : Nat → Int32) (k : Nat) (a7 : Int32) : Int32 := a7 + 0
def fX6_simn_A7 (sd : Int64) (P : Nat → Int32) : Nat → Int32
  | 0 => 0
  | k + 1 => fX6_simn_T7 sd (fX6_simn_L sd P k) k (fX6_simn_A7 sd P k)
theorem fX6_simn_1 (sd : Int64) (P : Nat → Int32) : ∀ k, fX6_simn_L sd P k 1 = P 1
  | 0 => rfl
  | k + 1 => (fX2_goHour_1 _).trans ((mch_1 _ _).trans (fX6_simn_1 sd P k))
set_option maxHeartbeats 4000000 in
set_option maxRecDepth 100000 in
theorem mX6_simulate_n {l : Launch} {Γ : gX} (M : Nat → Nat → Int32) (R : Nat → Nat → Option Nat) (O : Int64) (hC : LC Γ R) (X G J S C P Q : Nat → Int32) (hB : BL P) (h8 : (P 1).toNatClampNeg ≤ 8) (sd : Int64) (d : Int32) (h : ¬ fX6_within_v d 1 99 = 0) (h1 : ¬ okI 0 ((fX2_copyFrom_P P Q) 1) 8) : gMet l Γ yX6_simulate wsX6_simulate 5 111 [.ref (gad Γ 475), .long sd, .int d] (cS M X G J S C P Q) R O (some (.int (10000 * (fX6_simn_L sd (fX2_copyFrom_P P Q) d.toNatClampNeg 10 - P 10) + (if fX6_simn_A7 sd (fX2_copyFrom_P P Q) d.toNatClampNeg < 9999 then fX6_simn_A7 sd (fX2_copyFrom_P P Q) d.toNatClampNeg else 9999)))) (cS M X G J S C P (fX6_simn_L sd (fX2_copyFrom_P P Q) d.toNatClampNeg)) R O := by
  refine g_start (cc := cX6_simulate) (maxL := 9) (ret := (some .int)) (by decide) rfl (Nat.le_of_ble_eq_true rfl) ?_
  intro p e s m below meth c ls hx hb hml hrt hts hown hlocks hname hK hZ hG hS hl
  have hl : lv_has ls 9 [(0, .ref (gad Γ 475)), (1, .long sd), (3, .int d)] := hl
  have hown : s.vm.findClass RX6 = some m.cls := hown
  have hF : CallFix p m c cX6_simulate 9 s _ wsX6_simulate RX6 := ⟨hx, hb, hml, hown, hts⟩
  have k_1 : (Cond.fieldLink RX6 23 "RoadDust" "trial" "LRoadDust$Road;").before _ s = true := hts _ (by decide +kernel)
  have in_X6 : ∀ w ∈ wsX60, w ∈ wsX6_simulate := by decide +kernel
  have k_3 : (Cond.fieldLink RX6 19 "RoadDust" "now" "LRoadDust$Road;").before _ s = true := hts _ (by decide +kernel)
  have k_4 : (Cond.fieldLink RX6 224 "RoadDust$Road" "complaints" "I").before _ s = true := hts _ (by decide +kernel)
  have in_X2 : ∀ w ∈ wsX20, w ∈ wsX6_simulate := by decide +kernel
  have k_6 : (Cond.methodLink RX6 225 Lib.Math.min.name).before _ s = true := hts _ (by decide +kernel)
  have k_7 : (Cond.static Lib.Math.min.name).before _ s = true := hts _ (by decide +kernel)
  have k_8 : (Cond.initialized "java/lang/Math").before _ s = true := hts _ (by decide +kernel)
  have k_9 : (Cond.code Lib.Math.min.name Lib.Math.min.code 2 (some .int)).before _ s = true := hts _ (by decide +kernel)
  have k_10 : (Cond.constantLong RX6 216 (6364136223846793005)).before _ s = true := hts _ (by decide +kernel)
  have k_11 : (Cond.constantLong RX6 218 (1442695040888963407)).before _ s = true := hts _ (by decide +kernel)
  have hV0 := hC.2.1 0 (by decide)
  have hV1 := hC.2.1 1 (by decide)
  refine lv_iload_n hx hb dX6_simulate_0 rfl (lv_at hl 2 rfl) ?_
  refine lv_iconst (v := 1) hx hb dX6_simulate_1 (by decide) ?_
  refine lv_bipush (v := 99) hx hb dX6_simulate_2 (by decide) ?_
  refine g_callS (As := [.int d, .int 1, .int 99]) (rest := []) (st1 := [.int (fX6_within_v d 1 99)]) hF (mX6_within _ R O d 1 99) (va_cwS 3 hts gX6_simulate_X6_within rfl rfl rfl (by decide +kernel) ⟨Nat.le_of_ble_eq_true rfl, Nat.le_of_ble_eq_true rfl⟩) hK hZ hG hS rfl hl.1 (Nat.le_of_ble_eq_true rfl) dX6_simulate_4 ⟨Nat.zero_le _, Nat.zero_le _⟩ rfl rfl (fun H locs hG hS => ?_)
  refine lv_if_ne (tgt := 20) hx hb dX6_simulate_7 (by decide) (fun c_1 => ?_) (fun c_1 => absurd c_1 h)
  refine lv_aload_n hx hb dX6_simulate_20 rfl (lv_at hl 0 rfl) ?_
  refine go_getr (C := RX6) (T := TX6) (ci := 6) hx hb hts in_X6 hown hK hG (hC.1 475 (by decide) (by decide)) (show gC 475 = (6, 32, 0) from rfl) (by decide) rfl 2 (by decide) rfl hC.2.2.2.2.1 k_1 (fun _ h => h) dX6_simulate_21 ?_
  refine lv_aload_n hx hb dX6_simulate_24 rfl (lv_at hl 0 rfl) ?_
  refine go_getr (C := RX6) (T := TX6) (ci := 6) hx hb hts in_X6 hown hK hG (hC.1 475 (by decide) (by decide)) (show gC 475 = (6, 32, 0) from rfl) (by decide) rfl 1 (by decide) rfl hC.2.2.2.1 k_3 (fun _ h => h) dX6_simulate_25 ?_
  replace hG := g_st (show _ = va_up (cS M X G J S C P Q) 1 Q from (cS_u1 _ _ _ _ _ _ _ _ _).symm) hG
  refine g_callV (As := [.ref (gad Γ (25 * 0))]) (rest := []) (st1 := []) hF (mX2_copyFrom_q (cS M X G J S C P Q) R O hV1 hV0 (by decide) P Q (cS_b0 _ _ _ _ _ _ _ _) hB) (cwV 1 hts gX6_simulate_X2_copyFrom rfl rfl rfl (by decide +kernel) ⟨Nat.le_of_ble_eq_true rfl, Nat.le_of_ble_eq_true rfl⟩) hK hZ hG hS hV1.c0 (gC_Rd hV1.1) (by decide) rfl rfl hl.1 (Nat.le_of_ble_eq_true rfl) dX6_simulate_28 ⟨Nat.zero_le _, Nat.zero_le _⟩ rfl rfl (fun H locs hG hS => ?_)
  replace hG : GH Γ (cS M X G J S C P (fX2_copyFrom_P P Q)) R O _ := g_st (cS_u1 _ _ _ _ _ _ _ _ _) hG
  refine lv_aload_n hx hb dX6_simulate_31 rfl (lv_at hl 0 rfl) ?_
  refine go_getr (C := RX6) (T := TX6) (ci := 6) hx hb hts in_X6 hown hK hG (hC.1 475 (by decide) (by decide)) (show gC 475 = (6, 32, 0) from rfl) (by decide) rfl 2 (by decide) rfl hC.2.2.2.2.1 k_1 (fun _ h => h) dX6_simulate_32 ?_
  refine lv_iconst (v := 0) hx hb dX6_simulate_35 (by decide) ?_
  replace hG := g_st (show _ = va_up (cS M X G J S C P (fX2_copyFrom_P P Q)) 1 (fX2_copyFrom_P P Q) from (cS_u1 _ _ _ _ _ _ _ _ _).symm) hG
  refine g_callV (As := [.int 0]) (rest := []) (st1 := [.null]) hF (mX2_houseAt_n (cS M X G J S C P (fX2_copyFrom_P P Q)) R O hV1 (fX2_copyFrom_P P Q) h1) (cwV 1 hts gX6_simulate_X2_houseAt rfl rfl rfl (by decide +kernel) ⟨Nat.le_of_ble_eq_true rfl, Nat.le_of_ble_eq_true rfl⟩) hK hZ hG hS hV1.c0 (gC_Rd hV1.1) (by decide) rfl rfl hl.1 (Nat.le_of_ble_eq_true rfl) dX6_simulate_36 ⟨Nat.zero_le _, Nat.zero_le _⟩ rfl rfl (fun H locs hG hS => ?_)
  replace hG : GH Γ (cS M X G J S C P (fX2_copyFrom_P P Q)) R O _ := g_st (cS_u1 _ _ _ _ _ _ _ _ _) hG
  refine lv_astoreN (lv' := [(4, .null), (0, .ref (gad Γ 475)), (1, .long sd), (3, .int d)]) hx hb dX6_simulate_39 hl (by decide) rfl (fun ls hl => ?_)
  refine lv_lload_n hx hb dX6_simulate_41 rfl (lv_at hl 2 rfl) ?_
  refine lv_lstore (lv' := [(5, .long sd), (4, .null), (0, .ref (gad Γ 475)), (1, .long sd), (3, .int d)]) hx hb dX6_simulate_42 hl (by decide) rfl (fun ls hl => ?_)
  refine lv_iconst (v := 0) hx hb dX6_simulate_44 (by decide) ?_
  refine lv_istore (lv' := [(7, .int 0), (5, .long sd), (4, .null), (0, .ref (gad Γ 475)), (1, .long sd), (3, .int d)]) hx hb dX6_simulate_45 hl (by decide) rfl (fun ls hl => ?_)
  refine lv_iconst (v := 0) hx hb dX6_simulate_47 (by decide) ?_
  refine lv_istore (lv' := [(8, .int 0), (7, .int 0), (5, .long sd), (4, .null), (0, .ref (gad Γ 475)), (1, .long sd), (3, .int d)]) hx hb dX6_simulate_48 hl (by decide) rfl (fun ls hl => ?_)
  refine g_loop (N := d.toNatClampNeg) (fun k H locs ls => GH Γ (cS M X G J S C P (fX6_simn_L sd (fX2_copyFrom_P P Q) k)) R O H ∧ va_S (gA Γ) s.heap H locs ∧ lv_has ls 9 [(0, .ref (gad Γ 475)), (3, .int d), (4, .null), (7, .int (fX6_simn_A7 sd (fX2_copyFrom_P P Q) k)), (5, .long (lcg sd k)), (8, .int (nI k))]) ?_ ?_ 0 (Nat.zero_le _) _ _ _ ⟨hG, hS, lv_sub hl [4, 6, 3, 1, 2, 0] rfl⟩
  · rintro H locs ls ⟨hG, hS, hl⟩
    refine lv_iload hx hb dX6_simulate_50 (lv_at hl 5 rfl) ?_
    refine lv_iload_n hx hb dX6_simulate_52 rfl (lv_at hl 1 rfl) ?_
    refine lv_icmp_ge (tgt := 113) hx hb dX6_simulate_53 (by decide) (fun c_3 => ?_) (fun c_3 => absurd (cl_le _) c_3)
    refine lv_sipush (v := 10000) hx hb dX6_simulate_113 (by decide) ?_
    refine lv_aload_n hx hb dX6_simulate_116 rfl (lv_at hl 0 rfl) ?_
    refine go_getr (C := RX6) (T := TX6) (ci := 6) hx hb hts in_X6 hown hK hG (hC.1 475 (by decide) (by decide)) (show gC 475 = (6, 32, 0) from rfl) (by decide) rfl 2 (by decide) rfl hC.2.2.2.2.1 k_1 (fun _ h => h) dX6_simulate_117 ?_
    replace hG := g_st (show _ = va_up (cS M X G J S C P (fX6_simn_L sd (fX2_copyFrom_P P Q) d.toNatClampNeg)) 1 (fX6_simn_L sd (fX2_copyFrom_P P Q) d.toNatClampNeg) from (cS_u1 _ _ _ _ _ _ _ _ _).symm) hG
    refine gRd_get hx hb hts in_X2 hown hK hG hV1.1 hV1.c0 10 (by decide) k_4 (fun _ h => h) (j := 10) rfl dX6_simulate_120 ?_
    replace hG : GH Γ (cS M X G J S C P (fX6_simn_L sd (fX2_copyFrom_P P Q) d.toNatClampNeg)) R O _ := g_st (cS_u1 _ _ _ _ _ _ _ _ _) hG
    refine lv_aload_n hx hb dX6_simulate_123 rfl (lv_at hl 0 rfl) ?_
    refine go_getr (C := RX6) (T := TX6) (ci := 6) hx hb hts in_X6 hown hK hG (hC.1 475 (by decide) (by decide)) (show gC 475 = (6, 32, 0) from rfl) (by decide) rfl 1 (by decide) rfl hC.2.2.2.1 k_3 (fun _ h => h) dX6_simulate_124 ?_
    replace hG := g_st (show _ = va_up (cS M X G J S C P (fX6_simn_L sd (fX2_copyFrom_P P Q) d.toNatClampNeg)) 0 P from (cS_u0 _ _ _ _ _ _ _ _ _).symm) hG
    refine gRd_get hx hb hts in_X2 hown hK hG hV0.1 hV0.c0 10 (by decide) k_4 (fun _ h => h) (j := 10) rfl dX6_simulate_127 ?_
    replace hG : GH Γ (cS M X G J S C P (fX6_simn_L sd (fX2_copyFrom_P P Q) d.toNatClampNeg)) R O _ := g_st (cS_u0 _ _ _ _ _ _ _ _ _) hG
    refine lv_isub hx hb dX6_simulate_130 ?_
    refine lv_imul hx hb dX6_simulate_131 ?_
    refine lv_sipush (v := 9999) hx hb dX6_simulate_132 (by decide) ?_
    refine lv_iload hx hb dX6_simulate_135 (lv_at hl 3 rfl) ?_
    refine va_mmin hx hb (hml.trans hl.1.symm) hown k_6 k_7 k_8 k_9 (Nat.le_of_ble_eq_true rfl) (Nat.le_of_ble_eq_true rfl) (Nat.le_of_ble_eq_true rfl) (Nat.le_of_ble_eq_true rfl) dX6_simulate_137 ?_
    refine lv_iadd hx hb dX6_simulate_140 ?_
    exact g_iret hx hb hrt hlocks hS hG rfl rfl dX6_simulate_141
  · rintro k hk_k ih_k H locs ls ⟨hG, hS, hl⟩
    refine lv_iload hx hb dX6_simulate_50 (lv_at hl 5 rfl) ?_
    refine lv_iload_n hx hb dX6_simulate_52 rfl (lv_at hl 1 rfl) ?_
    refine lv_icmp_ge (tgt := 113) hx hb dX6_simulate_53 (by decide) (fun c_4 => absurd c_4 (cl_ge hk_k)) (fun c_4 => ?_)
    refine lv_lload hx hb dX6_simulate_56 (lv_at hl 4 rfl) ?_
    refine lv_ldc2 hx hb hown k_10 dX6_simulate_58 ?_
    refine lv_lmul hx hb dX6_simulate_61 ?_
    refine lv_ldc2 hx hb hown k_11 dX6_simulate_62 ?_
    refine lv_ladd hx hb dX6_simulate_65 ?_
    refine lv_lstore (lv' := [(5, .long (((lcg sd k) * 6364136223846793005) + 1442695040888963407)), (0, .ref (gad Γ 475)), (3, .int d), (4, .null), (7, .int (fX6_simn_A7 sd (fX2_copyFrom_P P Q) k)), (8, .int (nI k))]) hx hb dX6_simulate_66 hl (by decide) rfl (fun ls hl => ?_)
    refine lv_aload_n hx hb dX6_simulate_68 rfl (lv_at hl 1 rfl) ?_
    refine go_getr (C := RX6) (T := TX6) (ci := 6) hx hb hts in_X6 hown hK hG (hC.1 475 (by decide) (by decide)) (show gC 475 = (6, 32, 0) from rfl) (by decide) rfl 2 (by decide) rfl hC.2.2.2.2.1 k_1 (fun _ h => h) dX6_simulate_69 ?_
    refine lv_lload hx hb dX6_simulate_72 (lv_at hl 0 rfl) ?_
    refine lv_bipush (v := 33) hx hb dX6_simulate_74 (by decide) ?_
    refine lv_lushr hx hb dX6_simulate_76 rfl ?_
    refine lv_l2i hx hb dX6_simulate_77 rfl ?_
    refine g_top (rho_pl (lcg sd (k + 1))) ?_
    replace hG := g_st (show _ = va_up (cS M X G J S C P (fX6_simn_L sd (fX2_copyFrom_P P Q) k)) 1 (fX6_simn_L sd (fX2_copyFrom_P P Q) k) from (cS_u1 _ _ _ _ _ _ _ _ _).symm) hG
    refine g_callV (As := [.int (nI (rho (lcg sd (k + 1))))]) (rest := []) (st1 := []) hF (mX2_meetChance (cS M X G J S C P (fX6_simn_L sd (fX2_copyFrom_P P Q) k)) R O hV1 (fX6_simn_L sd (fX2_copyFrom_P P Q) k) (nI (rho (lcg sd (k + 1))))) (cwV 1 hts gX6_simulate_X2_meetChance rfl rfl rfl (by decide +kernel) ⟨Nat.le_of_ble_eq_true rfl, Nat.le_of_ble_eq_true rfl⟩) hK hZ hG hS hV1.c0 (gC_Rd hV1.1) (by decide) rfl rfl hl.1 (Nat.le_of_ble_eq_true rfl) dX6_simulate_78 ⟨Nat.zero_le _, Nat.zero_le _⟩ rfl rfl (fun H locs hG hS => ?_)
    replace hG : GH Γ (cS M X G J S C P (fX2_meetChance_P (fX6_simn_L sd (fX2_copyFrom_P P Q) k) (nI (rho (lcg sd (k + 1)))))) R O _ := g_st (cS_u1 _ _ _ _ _ _ _ _ _) hG
    refine lv_aload_n hx hb dX6_simulate_81 rfl (lv_at hl 1 rfl) ?_
    refine go_getr (C := RX6) (T := TX6) (ci := 6) hx hb hts in_X6 hown hK hG (hC.1 475 (by decide) (by decide)) (show gC 475 = (6, 32, 0) from rfl) (by decide) rfl 2 (by decide) rfl hC.2.2.2.2.1 k_1 (fun _ h => h) dX6_simulate_82 ?_
    replace hG := g_st (show _ = va_up (cS M X G J S C P (fX2_meetChance_P (fX6_simn_L sd (fX2_copyFrom_P P Q) k) (nI (rho (lcg sd (k + 1)))))) 1 (fX2_meetChance_P (fX6_simn_L sd (fX2_copyFrom_P P Q) k) (nI (rho (lcg sd (k + 1))))) from (cS_u1 _ _ _ _ _ _ _ _ _).symm) hG
    refine g_callV (As := []) (rest := []) (st1 := []) hF (mX2_goHour (cS M X G J S C P (fX2_meetChance_P (fX6_simn_L sd (fX2_copyFrom_P P Q) k) (nI (rho (lcg sd (k + 1)))))) R O hV1 (fX2_meetChance_P (fX6_simn_L sd (fX2_copyFrom_P P Q) k) (nI (rho (lcg sd (k + 1))))) (by rw [mch_1, fX6_simn_1, cpf_lo _ _ 1 (by decide)]; exact h8)) (cwV 0 hts gX6_simulate_X2_goHour rfl rfl rfl (by decide +kernel) ⟨Nat.le_of_ble_eq_true rfl, Nat.le_of_ble_eq_true rfl⟩) hK hZ hG hS hV1.c0 (gC_Rd hV1.1) (by decide) rfl rfl hl.1 (Nat.le_of_ble_eq_true rfl) dX6_simulate_85 ⟨Nat.zero_le _, Nat.zero_le _⟩ rfl rfl (fun H locs hG hS => ?_)
    replace hG : GH Γ (cS M X G J S C P (fX2_goHour_P (fX2_meetChance_P (fX6_simn_L sd (fX2_copyFrom_P P Q) k) (nI (rho (lcg sd (k + 1))))))) R O _ := g_st (cS_u1 _ _ _ _ _ _ _ _ _) hG
    refine lv_iload hx hb dX6_simulate_88 (lv_at hl 4 rfl) ?_
    refine lv_aloadN hx hb dX6_simulate_90 (lv_at hl 3 rfl) ?_
    refine lv_ifnonnullN hx hb dX6_simulate_92 ?_
    refine lv_iconst (v := 0) hx hb dX6_simulate_95 (by decide) ?_
    refine lv_goto (tgt := 104) hx hb dX6_simulate_96 (by decide) ?_
    refine lv_iadd hx hb dX6_simulate_104 ?_
    refine lv_istore (lv' := [(7, .int ((fX6_simn_A7 sd (fX2_copyFrom_P P Q) k) + 0)), (5, .long (((lcg sd k) * 6364136223846793005) + 1442695040888963407)), (0, .ref (gad Γ 475)), (3, .int d), (4, .null), (8, .int (nI k))]) hx hb dX6_simulate_105 hl (by decide) rfl (fun ls hl => ?_)
    refine lv_iinc (v := nI (k + 1)) (lv' := [(8, .int (nI (k + 1))), (7, .int ((fX6_simn_A7 sd (fX2_copyFrom_P P Q) k) + 0)), (5, .long (((lcg sd k) * 6364136223846793005) + 1442695040888963407)), (0, .ref (gad Γ 475)), (3, .int d), (4, .null)]) hx hb dX6_simulate_107 hl (k := 5) rfl (nI_1 _) (by decide) rfl (fun ls hl => ?_)
    refine lv_goto (tgt := 50) hx hb dX6_simulate_110 (by decide) ?_
    exact ih_k _ _ _ ⟨hG, hS, lv_sub hl [3, 4, 5, 1, 2, 0] rfl⟩

