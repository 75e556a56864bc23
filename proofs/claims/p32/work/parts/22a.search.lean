/-! THE CLASS: waterFor. Laid by gen/p22.py. -/
set_option maxHeartbeats 4000000 in
set_option maxRecDepth 100000 in
theorem tX6_waterFor {l : Launch} {Γ : gX} (hst : l.stackTraces = false) (M : Nat → Nat → Int32) (R : Nat → Nat → Option Nat) (O : Int64) (hC : LC Γ R) (X G J S C P Q : Nat → Int32) (a : Int32) (h1 : ¬ okI a (P 1) 8) : gThr l Γ yX6_waterFor wsX6_waterFor 6 82 [.ref (gad Γ 475), .int a] (cS M X G J S C P Q) R O "java/lang/IndexOutOfBoundsException" (cS M X G J S C P Q) R O := by
  refine g_startT (cc := cX6_waterFor) (maxL := 4) (ret := (some .int)) (by decide) rfl (Nat.le_of_ble_eq_true rfl) ?_
  intro p e s m below meth c ls hx hb hml hrt hts hown hlocks hname hK hZ hG hS hl hX hnx
  have hl : lv_has ls 4 [(0, .ref (gad Γ 475)), (1, .int a)] := hl
  have hown : s.vm.findClass RX6 = some m.cls := hown
  have hF : CallFix p m c cX6_waterFor 4 s _ wsX6_waterFor RX6 := ⟨hx, hb, hml, hown, hts⟩
  have k_1 : (Cond.fieldLink RX6 19 "RoadDust" "now" "LRoadDust$Road;").before _ s = true := hts _ (by decide +kernel)
  have in_X6 : ∀ w ∈ wsX60, w ∈ wsX6_waterFor := by decide +kernel
  have hV0 := hC.2.1 0 (by decide)
  have hV1 := hC.2.1 1 (by decide)
  refine lv_aload_n hx hb dX6_waterFor_0 rfl (lv_at hl 0 rfl) ?_
  refine go_getr (C := RX6) (T := TX6) (ci := 6) hx hb hts in_X6 hown hK hG (hC.1 475 (by decide) (by decide)) (show gC 475 = (6, 32, 0) from rfl) (by decide) rfl 1 (by decide) rfl hC.2.2.2.1 k_1 (fun _ h => h) dX6_waterFor_1 ?_
  refine lv_iload_n hx hb dX6_waterFor_4 rfl (lv_at hl 1 rfl) ?_
  replace hG := g_st (show _ = va_up (cS M X G J S C P Q) 0 P from (cS_u0 _ _ _ _ _ _ _ _ _).symm) hG
  refine g_callV (As := [.int a]) (rest := []) (st1 := [.null]) hF (mX2_houseAt_n (cS M X G J S C P Q) R O hV0 P h1) (cwV 1 hts gX6_waterFor_X2_houseAt rfl rfl rfl (by decide +kernel) ⟨Nat.le_of_ble_eq_true rfl, Nat.le_of_ble_eq_true rfl⟩) hK hZ hG hS hV0.c0 (gC_Rd hV0.1) (by decide) rfl rfl hl.1 (Nat.le_of_ble_eq_true rfl) dX6_waterFor_5 ⟨Nat.zero_le _, Nat.zero_le _⟩ rfl rfl (fun H locs hG hS => ?_)
  replace hG : GH Γ (cS M X G J S C P Q) R O _ := g_st (cS_u0 _ _ _ _ _ _ _ _ _) hG
  refine lv_astore_nN (lv' := [(2, .null), (0, .ref (gad Γ 475)), (1, .int a)]) hx hb dX6_waterFor_8 rfl hl (by decide) rfl (fun ls hl => ?_)
  refine lv_aload_nN hx hb dX6_waterFor_9 rfl (lv_at hl 0 rfl) ?_
  refine lv_ifnonnullN hx hb dX6_waterFor_10 ?_
  exact g_throw (cls := "java/lang/IndexOutOfBoundsException") (text := "no such house") (ik := 149) (is := 151) (ic := 153) hx hb hst hown (by decide +kernel) hts (by decide +kernel) (by decide +kernel) (by decide +kernel) (by decide +kernel) (by decide +kernel) (by decide +kernel) hX hZ hG hS (hl.1.trans hml.symm) dX6_waterFor_13 dX6_waterFor_16 dX6_waterFor_17 dX6_waterFor_19 dX6_waterFor_22 hnx (Nat.le_of_ble_eq_true rfl) (Nat.le_of_ble_eq_true rfl) ⟨Nat.le_of_ble_eq_true rfl, Nat.le_of_ble_eq_true rfl⟩ hlocks

def fX6_waterFor_S (N : Nat → Int32) (i : Nat) (Pk : Nat → Int32) (k : Nat) : Nat → Int32 := fX6_tryWater_Q N Pk (N (82 + 5 * i)) (nI k)
def fX6_waterFor_L (N : Nat → Int32) (i : Nat) (P : Nat → Int32) : Nat → Nat → Int32
  | 0 => P
  | k + 1 => fX6_waterFor_S N i (fX6_waterFor_L N i P k) k
def fX6_waterFor_C (N : Nat → Int32) (i : Nat) (Pk : Nat → Int32) (k : Nat) : Prop := ¬ ((fX6_tryWater_Q N Pk (N (82 + 5 * i)) (nI k)) 7) ≤ (fX2_dustFor2_v N (fX6_tryWater_Q N Pk (N (82 + 5 * i)) (nI k)) i)
set_option maxHeartbeats 4000000 in
set_option maxRecDepth 100000 in
theorem mX6_waterFor {l : Launch} {Γ : gX} (M : Nat → Nat → Int32) (R : Nat → Nat → Option Nat) (O : Int64) (hC : LC Γ R) (X G J S C P Q : Nat → Int32) (hB : BL P) (a : Int32) (h1 : okI a (P 1) 8) (kx : Nat) (hxN : kx ≤ 10) (hno : ∀ j, j < kx → ¬ fX6_waterFor_C P a.toNatClampNeg (fX6_waterFor_L P a.toNatClampNeg Q j) j) (hyes : kx < 10 → fX6_waterFor_C P a.toNatClampNeg (fX6_waterFor_L P a.toNatClampNeg Q kx) kx) : gMet l Γ yX6_waterFor wsX6_waterFor 4 91 [.ref (gad Γ 475), .int a] (cS M X G J S C P Q) R O (some (.int (if kx < 10 then nI kx else -9))) (cS M X G J S C P (fX6_waterFor_L P a.toNatClampNeg Q (if kx < 10 then kx + 1 else 10))) R O := by
  refine g_start (cc := cX6_waterFor) (maxL := 4) (ret := (some .int)) (by decide) rfl (Nat.le_of_ble_eq_true rfl) ?_
  intro p e s m below meth c ls hx hb hml hrt hts hown hlocks hname hK hZ hG hS hl
  have hl : lv_has ls 4 [(0, .ref (gad Γ 475)), (1, .int a)] := hl
  have hown : s.vm.findClass RX6 = some m.cls := hown
  have hF : CallFix p m c cX6_waterFor 4 s _ wsX6_waterFor RX6 := ⟨hx, hb, hml, hown, hts⟩
  have k_1 : (Cond.fieldLink RX6 19 "RoadDust" "now" "LRoadDust$Road;").before _ s = true := hts _ (by decide +kernel)
  have in_X6 : ∀ w ∈ wsX60, w ∈ wsX6_waterFor := by decide +kernel
  have k_3 : (Cond.fieldLink RX6 166 "RoadDust$House" "segment" "I").before _ s = true := hts _ (by decide +kernel)
  have in_X1 : ∀ w ∈ wsX10, w ∈ wsX6_waterFor := by decide +kernel
  have k_5 : (Cond.fieldLink RX6 23 "RoadDust" "trial" "LRoadDust$Road;").before _ s = true := hts _ (by decide +kernel)
  have k_6 : (Cond.fieldLink RX6 177 "RoadDust$Road" "bound" "I").before _ s = true := hts _ (by decide +kernel)
  have in_X2 : ∀ w ∈ wsX20, w ∈ wsX6_waterFor := by decide +kernel
  have hV0 := hC.2.1 0 (by decide)
  have hV1 := hC.2.1 1 (by decide)
  refine lv_aload_n hx hb dX6_waterFor_0 rfl (lv_at hl 0 rfl) ?_
  refine go_getr (C := RX6) (T := TX6) (ci := 6) hx hb hts in_X6 hown hK hG (hC.1 475 (by decide) (by decide)) (show gC 475 = (6, 32, 0) from rfl) (by decide) rfl 1 (by decide) rfl hC.2.2.2.1 k_1 (fun _ h => h) dX6_waterFor_1 ?_
  refine lv_iload_n hx hb dX6_waterFor_4 rfl (lv_at hl 1 rfl) ?_
  replace hG := g_st (show _ = va_up (cS M X G J S C P Q) 0 P from (cS_u0 _ _ _ _ _ _ _ _ _).symm) hG
  refine g_callV (As := [.int a]) (rest := []) (st1 := [.ref (gad Γ (25 * 0 + 14 + a.toNatClampNeg))]) hF (mX2_houseAt_y (cS M X G J S C P Q) R O hV0 P h1 (j := a.toNatClampNeg) rfl) (cwV 1 hts gX6_waterFor_X2_houseAt rfl rfl rfl (by decide +kernel) ⟨Nat.le_of_ble_eq_true rfl, Nat.le_of_ble_eq_true rfl⟩) hK hZ hG hS hV0.c0 (gC_Rd hV0.1) (by decide) rfl rfl hl.1 (Nat.le_of_ble_eq_true rfl) dX6_waterFor_5 ⟨Nat.zero_le _, Nat.zero_le _⟩ rfl rfl (fun H locs hG hS => ?_)
  replace hG : GH Γ (cS M X G J S C P Q) R O _ := g_st (cS_u0 _ _ _ _ _ _ _ _ _) hG
  refine lv_astore_n (lv' := [(2, .ref (gad Γ (25 * 0 + 14 + a.toNatClampNeg))), (0, .ref (gad Γ 475)), (1, .int a)]) hx hb dX6_waterFor_8 rfl hl (by decide) rfl (fun ls hl => ?_)
  refine lv_aload_n hx hb dX6_waterFor_9 rfl (lv_at hl 0 rfl) ?_
  refine lv_ifnonnull (tgt := 23) hx hb dX6_waterFor_10 (by decide) ?_
  refine lv_iconst (v := 0) hx hb dX6_waterFor_23 (by decide) ?_
  refine lv_istore_n (lv' := [(3, .int 0), (2, .ref (gad Γ (25 * 0 + 14 + a.toNatClampNeg))), (0, .ref (gad Γ 475)), (1, .int a)]) hx hb dX6_waterFor_24 rfl hl (by decide) rfl (fun ls hl => ?_)
  refine g_loop (N := 10) (fun k H locs ls => k ≤ kx ∧ GH Γ (cS M X G J S C P (fX6_waterFor_L P a.toNatClampNeg Q k)) R O H ∧ va_S (gA Γ) s.heap H locs ∧ lv_has ls 4 [(0, .ref (gad Γ 475)), (2, .ref (gad Γ (25 * 0 + 14 + a.toNatClampNeg))), (3, .int (nI k))]) ?_ ?_ 0 (Nat.zero_le _) _ _ _ ⟨Nat.zero_le _, hG, hS, lv_sub hl [2, 1, 0] rfl⟩
  · rintro H locs ls ⟨hle_x, hG, hS, hl⟩
    have ex : kx = 10 := Nat.le_antisymm hxN hle_x
    refine lv_iload_n hx hb dX6_waterFor_25 rfl (lv_at hl 2 rfl) ?_
    refine lv_bipush (v := 9) hx hb dX6_waterFor_26 (by decide) ?_
    refine lv_icmp_gt (tgt := 66) hx hb dX6_waterFor_28 (by decide) (fun c_2 => ?_) (fun c_2 => absurd (nI_lt (a := 9) (b := 10) (by decide) (by decide)) c_2)
    refine lv_bipush (v := (-9)) hx hb dX6_waterFor_66 (by decide) ?_
    exact g_iret hx hb hrt hlocks hS hG (by rw [if_neg (by omega)]) (cS_c rfl rfl rfl rfl rfl rfl (by rw [if_neg (by omega)])) dX6_waterFor_68
  · rintro k hk_k ih_k H locs ls ⟨hle_k, hG, hS, hl⟩
    refine lv_iload_n hx hb dX6_waterFor_25 rfl (lv_at hl 2 rfl) ?_
    refine lv_bipush (v := 9) hx hb dX6_waterFor_26 (by decide) ?_
    refine lv_icmp_gt (tgt := 66) hx hb dX6_waterFor_28 (by decide) (fun c_3 => absurd c_3 (nI_nlt (a := 9) (by omega) (by decide))) (fun c_3 => ?_)
    refine lv_aload_n hx hb dX6_waterFor_31 rfl (lv_at hl 0 rfl) ?_
    refine lv_aload_n hx hb dX6_waterFor_32 rfl (lv_at hl 1 rfl) ?_
    replace hG := g_st (show _ = va_up (cS M X G J S C P (fX6_waterFor_L P a.toNatClampNeg Q k)) 0 P from (cS_u0 _ _ _ _ _ _ _ _ _).symm) hG
    refine gHs_get hx hb hts in_X1 hown hK hG hV0.1 (okI_lt (k := 8) rfl (by decide) h1) (hV0.hou (i := a.toNatClampNeg) (okI_lt (k := 8) rfl (by decide) h1)) 0 (by decide) k_3 (fun _ h => h) (j := 82 + 5 * a.toNatClampNeg) rfl dX6_waterFor_33 ?_
    replace hG : GH Γ (cS M X G J S C P (fX6_waterFor_L P a.toNatClampNeg Q k)) R O _ := g_st (cS_u0 _ _ _ _ _ _ _ _ _) hG
    refine lv_iload_n hx hb dX6_waterFor_36 rfl (lv_at hl 2 rfl) ?_
    refine g_callV (As := [.int (P (82 + 5 * a.toNatClampNeg)), .int (nI k)]) (rest := []) (st1 := []) hF (mX6_tryWater M R O hC X G J S C P (fX6_waterFor_L P a.toNatClampNeg Q k) (P (82 + 5 * a.toNatClampNeg)) (nI k) hB) (cwV 2 hts gX6_waterFor_X6_tryWater rfl rfl rfl (by decide +kernel) ⟨Nat.le_of_ble_eq_true rfl, Nat.le_of_ble_eq_true rfl⟩) hK hZ hG hS (hC.1 475 (by decide) (by decide)) (show gC 475 = (6, 32, 0) from rfl) (by decide) rfl rfl hl.1 (Nat.le_of_ble_eq_true rfl) dX6_waterFor_37 ⟨Nat.zero_le _, Nat.zero_le _⟩ rfl rfl (fun H locs hG hS => ?_)
    refine lv_aload_n hx hb dX6_waterFor_40 rfl (lv_at hl 0 rfl) ?_
    refine go_getr (C := RX6) (T := TX6) (ci := 6) hx hb hts in_X6 hown hK hG (hC.1 475 (by decide) (by decide)) (show gC 475 = (6, 32, 0) from rfl) (by decide) rfl 2 (by decide) rfl hC.2.2.2.2.1 k_5 (fun _ h => h) dX6_waterFor_41 ?_
    refine lv_aload_n hx hb dX6_waterFor_44 rfl (lv_at hl 1 rfl) ?_
    replace hG := g_st (show _ = va_up (cS M X G J S C P (fX6_tryWater_Q P (fX6_waterFor_L P a.toNatClampNeg Q k) (P (82 + 5 * a.toNatClampNeg)) (nI k))) 1 (fX6_tryWater_Q P (fX6_waterFor_L P a.toNatClampNeg Q k) (P (82 + 5 * a.toNatClampNeg)) (nI k)) from (cS_u1 _ _ _ _ _ _ _ _ _).symm) hG
    refine g_callV (As := [.ref (gad Γ (25 * 0 + 14 + a.toNatClampNeg))]) (rest := []) (st1 := [.int (fX2_dustFor2_v P (fX6_tryWater_Q P (fX6_waterFor_L P a.toNatClampNeg Q k) (P (82 + 5 * a.toNatClampNeg)) (nI k)) a.toNatClampNeg)]) hF (mX2_dustFor_2 (cS M X G J S C P (fX6_tryWater_Q P (fX6_waterFor_L P a.toNatClampNeg Q k) (P (82 + 5 * a.toNatClampNeg)) (nI k))) R O hV1 hV0 (by decide) (fX6_tryWater_Q P (fX6_waterFor_L P a.toNatClampNeg Q k) (P (82 + 5 * a.toNatClampNeg)) (nI k)) P (cS_b0 _ _ _ _ _ _ _ _) (i := a.toNatClampNeg) (okI_lt (k := 8) rfl (by decide) h1)) (cwV 1 hts gX6_waterFor_X2_dustFor rfl rfl rfl (by decide +kernel) ⟨Nat.le_of_ble_eq_true rfl, Nat.le_of_ble_eq_true rfl⟩) hK hZ hG hS hV1.c0 (gC_Rd hV1.1) (by decide) rfl rfl hl.1 (Nat.le_of_ble_eq_true rfl) dX6_waterFor_45 ⟨Nat.zero_le _, Nat.zero_le _⟩ rfl rfl (fun H locs hG hS => ?_)
    replace hG : GH Γ (cS M X G J S C P (fX6_tryWater_Q P (fX6_waterFor_L P a.toNatClampNeg Q k) (P (82 + 5 * a.toNatClampNeg)) (nI k))) R O _ := g_st (cS_u1 _ _ _ _ _ _ _ _ _) hG
    refine lv_aload_n hx hb dX6_waterFor_48 rfl (lv_at hl 0 rfl) ?_
    refine go_getr (C := RX6) (T := TX6) (ci := 6) hx hb hts in_X6 hown hK hG (hC.1 475 (by decide) (by decide)) (show gC 475 = (6, 32, 0) from rfl) (by decide) rfl 2 (by decide) rfl hC.2.2.2.2.1 k_5 (fun _ h => h) dX6_waterFor_49 ?_
    replace hG := g_st (show _ = va_up (cS M X G J S C P (fX6_tryWater_Q P (fX6_waterFor_L P a.toNatClampNeg Q k) (P (82 + 5 * a.toNatClampNeg)) (nI k))) 1 (fX6_tryWater_Q P (fX6_waterFor_L P a.toNatClampNeg Q k) (P (82 + 5 * a.toNatClampNeg)) (nI k)) from (cS_u1 _ _ _ _ _ _ _ _ _).symm) hG
    refine gRd_get hx hb hts in_X2 hown hK hG hV1.1 hV1.c0 7 (by decide) k_6 (fun _ h => h) (j := 7) rfl dX6_waterFor_52 ?_
    replace hG : GH Γ (cS M X G J S C P (fX6_tryWater_Q P (fX6_waterFor_L P a.toNatClampNeg Q k) (P (82 + 5 * a.toNatClampNeg)) (nI k))) R O _ := g_st (cS_u1 _ _ _ _ _ _ _ _ _) hG
    refine lv_icmp_ge (tgt := 60) hx hb dX6_waterFor_55 (by decide) (fun c_4 => ?_) (fun c_4 => ?_)
    · --T
      refine lv_iinc (v := nI (k + 1)) (lv' := [(3, .int (nI (k + 1))), (0, .ref (gad Γ 475)), (2, .ref (gad Γ (25 * 0 + 14 + a.toNatClampNeg)))]) hx hb dX6_waterFor_60 hl (k := 2) rfl (nI_1 _) (by decide) rfl (fun ls hl => ?_)
      refine lv_goto (tgt := 25) hx hb dX6_waterFor_63 (by decide) ?_
      exact ih_k _ _ _ ⟨Nat.lt_of_le_of_ne hle_k (fun e => by subst e; exact (hyes hk_k) c_4), hG, hS, lv_sub hl [1, 2, 0] rfl⟩
    · --F
      have ex : k = kx := Nat.le_antisymm hle_k (Nat.le_of_not_lt (fun q => hno _ q c_4))
      subst ex
      refine lv_iload_n hx hb dX6_waterFor_58 rfl (lv_at hl 2 rfl) ?_
      exact g_iret hx hb hrt hlocks hS hG (by rw [if_pos hk_k]) (cS_c rfl rfl rfl rfl rfl rfl (by rw [if_pos hk_k] <;> rfl)) dX6_waterFor_59

