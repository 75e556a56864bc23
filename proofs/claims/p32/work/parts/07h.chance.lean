/-! THE ROAD. Laid by gen/p07.py. -/
def fX2_meetChance_P (P : Nat → Int32) (a : Int32) : Nat → Int32 := if ((upd (upd P 5 (remI a 21)) 6 (remI (a / 32) 10)) 2) ≤ 0 then upd (upd P 5 (remI a 21)) 6 (remI (a / 32) 10) else if ((upd (upd P 5 (remI a 21)) 6 (remI (a / 32) 10)) 0) ≤ 0 then upd (upd P 5 (remI a 21)) 6 (remI (a / 32) 10) else if okI (remI (a / 512) ((upd (upd P 5 (remI a 21)) 6 (remI (a / 32) 10)) 2)) ((upd (upd P 5 (remI a 21)) 6 (remI (a / 32) 10)) 2) 3 then if ((upd (upd P 5 (remI a 21)) 6 (remI (a / 32) 10)) (122 + 3 * ((remI (a / 512) ((upd (upd P 5 (remI a 21)) 6 (remI (a / 32) 10)) 2)).toNatClampNeg) + 1)) ≤ 0 then upd (upd P 5 (remI a 21)) 6 (remI (a / 32) 10) else fX2_sprayFrom_P (fX2_moveWagon_P (upd (upd P 5 (remI a 21)) 6 (remI (a / 32) 10)) (remI (a / 512) ((upd (upd P 5 (remI a 21)) 6 (remI (a / 32) 10)) 2)) (remI (a / 2048) ((upd (upd P 5 (remI a 21)) 6 (remI (a / 32) 10)) 0))) (remI (a / 512) ((upd (upd P 5 (remI a 21)) 6 (remI (a / 32) 10)) 2)) (if ((fX2_moveWagon_P (upd (upd P 5 (remI a 21)) 6 (remI (a / 32) 10)) (remI (a / 512) ((upd (upd P 5 (remI a 21)) 6 (remI (a / 32) 10)) 2)) (remI (a / 2048) ((upd (upd P 5 (remI a 21)) 6 (remI (a / 32) 10)) 0))) (122 + 3 * ((remI (a / 512) ((upd (upd P 5 (remI a 21)) 6 (remI (a / 32) 10)) 2)).toNatClampNeg) + 1)) < 5 then ((fX2_moveWagon_P (upd (upd P 5 (remI a 21)) 6 (remI (a / 32) 10)) (remI (a / 512) ((upd (upd P 5 (remI a 21)) 6 (remI (a / 32) 10)) 2)) (remI (a / 2048) ((upd (upd P 5 (remI a 21)) 6 (remI (a / 32) 10)) 0))) (122 + 3 * ((remI (a / 512) ((upd (upd P 5 (remI a 21)) 6 (remI (a / 32) 10)) 2)).toNatClampNeg) + 1)) else 5) else upd (upd P 5 (remI a 21)) 6 (remI (a / 32) 10)
set_option maxHeartbeats 4000000 in
set_option maxRecDepth 100000 in
theorem mX2_meetChance {l : Launch} {Γ : gX} (M : Nat → Nat → Int32) (R : Nat → Nat → Option Nat) (O : Int64) {r : Nat} (hV : LV Γ R r) (P : Nat → Int32) (a : Int32) : gMet l Γ yX2_meetChance wsX2_meetChance 4 88 [.ref (gad Γ (25 * r)), .int a] (va_up M r P) R O none (va_up M r (fX2_meetChance_P P a)) R O := by
  refine g_start (cc := cX2_meetChance) (maxL := 4) (ret := none) (by decide) rfl (Nat.le_of_ble_eq_true rfl) ?_
  intro p e s m below meth c ls hx hb hml hrt hts hown hlocks hname hK hZ hG hS hl
  have hl : lv_has ls 4 [(0, .ref (gad Γ (25 * r))), (1, .int a)] := hl
  have hown : s.vm.findClass RX2 = some m.cls := hown
  have hF : CallFix p m c cX2_meetChance 4 s _ wsX2_meetChance RX2 := ⟨hx, hb, hml, hown, hts⟩
  have k_1 : (Cond.fieldLink RX2 51 "RoadDust$Road" "lorries" "I").before _ s = true := hts _ (by decide +kernel)
  have in_X2 : ∀ w ∈ wsX20, w ∈ wsX2_meetChance := by decide +kernel
  have k_3 : (Cond.fieldLink RX2 54 "RoadDust$Road" "sun" "I").before _ s = true := hts _ (by decide +kernel)
  have k_4 : (Cond.fieldLink RX2 42 "RoadDust$Road" "wagons" "I").before _ s = true := hts _ (by decide +kernel)
  have k_5 : (Cond.fieldLink RX2 35 "RoadDust$Road" "segments" "I").before _ s = true := hts _ (by decide +kernel)
  have k_6 : (Cond.fieldLink RX2 141 "RoadDust$Wagon" "liters" "I").before _ s = true := hts _ (by decide +kernel)
  have in_X5 : ∀ w ∈ wsX50, w ∈ wsX2_meetChance := by decide +kernel
  have k_8 : (Cond.methodLink RX2 154 Lib.Math.min.name).before _ s = true := hts _ (by decide +kernel)
  have k_9 : (Cond.static Lib.Math.min.name).before _ s = true := hts _ (by decide +kernel)
  have k_10 : (Cond.initialized "java/lang/Math").before _ s = true := hts _ (by decide +kernel)
  have k_11 : (Cond.code Lib.Math.min.name Lib.Math.min.code 2 (some .int)).before _ s = true := hts _ (by decide +kernel)
  refine lv_aload_n hx hb dX2_meetChance_0 rfl (lv_at hl 0 rfl) ?_
  refine lv_iload_n hx hb dX2_meetChance_1 rfl (lv_at hl 1 rfl) ?_
  refine lv_bipush (v := 21) hx hb dX2_meetChance_2 (by decide) ?_
  refine lv_irem hx hb dX2_meetChance_4 (by decide) ?_
  refine gRd_put hx hb hts in_X2 hown hK hG hS hV.1 hV.c0 5 (by decide) k_1 (fun _ h => h) rfl .int (by decide +kernel) rfl rfl (j := 5) rfl dX2_meetChance_5 (fun H locs hG hS => ?_)
  refine lv_aload_n hx hb dX2_meetChance_8 rfl (lv_at hl 0 rfl) ?_
  refine lv_iload_n hx hb dX2_meetChance_9 rfl (lv_at hl 1 rfl) ?_
  refine lv_bipush (v := 32) hx hb dX2_meetChance_10 (by decide) ?_
  refine lv_idiv hx hb dX2_meetChance_12 (by decide) ?_
  refine lv_bipush (v := 10) hx hb dX2_meetChance_13 (by decide) ?_
  refine lv_irem hx hb dX2_meetChance_15 (by decide) ?_
  refine gRd_put hx hb hts in_X2 hown hK hG hS hV.1 hV.c0 6 (by decide) k_3 (fun _ h => h) rfl .int (by decide +kernel) rfl rfl (j := 6) rfl dX2_meetChance_16 (fun H locs hG hS => ?_)
  refine lv_aload_n hx hb dX2_meetChance_19 rfl (lv_at hl 0 rfl) ?_
  refine gRd_get hx hb hts in_X2 hown hK hG hV.1 hV.c0 2 (by decide) k_4 (fun _ h => h) (j := 2) rfl dX2_meetChance_20 ?_
  refine lv_if_le (tgt := 91) hx hb dX2_meetChance_23 (by decide) (fun c_1 => ?_) (fun c_1 => ?_)
  · --T
    exact g_vret hx hb hrt hlocks hS hG (congrArg (va_up M r) (by unfold fX2_meetChance_P; rw [if_pos c_1])) rfl dX2_meetChance_91
  · --F
    refine lv_aload_n hx hb dX2_meetChance_26 rfl (lv_at hl 0 rfl) ?_
    refine gRd_get hx hb hts in_X2 hown hK hG hV.1 hV.c0 0 (by decide) k_5 (fun _ h => h) (j := 0) rfl dX2_meetChance_27 ?_
    refine lv_if_le (tgt := 91) hx hb dX2_meetChance_30 (by decide) (fun c_2 => ?_) (fun c_2 => ?_)
    · --T
      exact g_vret hx hb hrt hlocks hS hG (congrArg (va_up M r) (by unfold fX2_meetChance_P; rw [if_neg c_1, if_pos c_2])) rfl dX2_meetChance_91
    · --F
      refine lv_iload_n hx hb dX2_meetChance_33 rfl (lv_at hl 1 rfl) ?_
      refine lv_sipush (v := 512) hx hb dX2_meetChance_34 (by decide) ?_
      refine lv_idiv hx hb dX2_meetChance_37 (by decide) ?_
      refine lv_aload_n hx hb dX2_meetChance_38 rfl (lv_at hl 0 rfl) ?_
      refine gRd_get hx hb hts in_X2 hown hK hG hV.1 hV.c0 2 (by decide) k_4 (fun _ h => h) (j := 2) rfl dX2_meetChance_39 ?_
      refine lv_irem hx hb dX2_meetChance_42 (fun q => c_1 (by rw [q]; exact Int32.le_refl _)) ?_
      refine lv_istore_n (lv' := [(2, .int (remI (a / 512) ((upd (upd P 5 (remI a 21)) 6 (remI (a / 32) 10)) 2))), (0, .ref (gad Γ (25 * r))), (1, .int a)]) hx hb dX2_meetChance_43 rfl hl (by decide) rfl (fun ls hl => ?_)
      refine lv_aload_n hx hb dX2_meetChance_44 rfl (lv_at hl 1 rfl) ?_
      refine lv_iload_n hx hb dX2_meetChance_45 rfl (lv_at hl 0 rfl) ?_
      by_cases c_3 : okI (remI (a / 512) ((upd (upd P 5 (remI a 21)) 6 (remI (a / 32) 10)) 2)) ((upd (upd P 5 (remI a 21)) 6 (remI (a / 32) 10)) 2) 3
      · --ok
        refine g_callV (As := [.int (remI (a / 512) ((upd (upd P 5 (remI a 21)) 6 (remI (a / 32) 10)) 2))]) (rest := []) (st1 := [.ref (gad Γ (25 * r + 22 + ((remI (a / 512) ((upd (upd P 5 (remI a 21)) 6 (remI (a / 32) 10)) 2)).toNatClampNeg)))]) hF (mX2_wagonAt_y M R O hV (upd (upd P 5 (remI a 21)) 6 (remI (a / 32) 10)) c_3 (j := (remI (a / 512) ((upd (upd P 5 (remI a 21)) 6 (remI (a / 32) 10)) 2)).toNatClampNeg) rfl) (cwV 1 hts gX2_meetChance_X2_wagonAt rfl rfl rfl (by decide +kernel) ⟨Nat.le_of_ble_eq_true rfl, Nat.le_of_ble_eq_true rfl⟩) hK hZ hG hS hV.c0 (gC_Rd hV.1) (by decide) rfl rfl hl.1 (Nat.le_of_ble_eq_true rfl) dX2_meetChance_46 ⟨Nat.zero_le _, Nat.zero_le _⟩ rfl rfl (fun H locs hG hS => ?_)
        refine lv_astore_n (lv' := [(3, .ref (gad Γ (25 * r + 22 + ((remI (a / 512) ((upd (upd P 5 (remI a 21)) 6 (remI (a / 32) 10)) 2)).toNatClampNeg)))), (2, .int (remI (a / 512) ((upd (upd P 5 (remI a 21)) 6 (remI (a / 32) 10)) 2))), (0, .ref (gad Γ (25 * r))), (1, .int a)]) hx hb dX2_meetChance_49 rfl hl (by decide) rfl (fun ls hl => ?_)
        refine lv_aload_n hx hb dX2_meetChance_50 rfl (lv_at hl 0 rfl) ?_
        refine lv_ifnull hx hb dX2_meetChance_51 ?_
        refine lv_aload_n hx hb dX2_meetChance_54 rfl (lv_at hl 0 rfl) ?_
        refine gWg_get hx hb hts in_X5 hown hK hG hV.1 (okI_lt (k := 3) rfl (by decide) c_3) (hV.wag (i := (remI (a / 512) ((upd (upd P 5 (remI a 21)) 6 (remI (a / 32) 10)) 2)).toNatClampNeg) (okI_lt (k := 3) rfl (by decide) c_3)) 1 (by decide) k_6 (fun _ h => h) (j := 122 + 3 * ((remI (a / 512) ((upd (upd P 5 (remI a 21)) 6 (remI (a / 32) 10)) 2)).toNatClampNeg) + 1) rfl dX2_meetChance_55 ?_
        refine lv_if_le (tgt := 91) hx hb dX2_meetChance_58 (by decide) (fun c_4 => ?_) (fun c_4 => ?_)
        · --T
          exact g_vret hx hb hrt hlocks hS hG (congrArg (va_up M r) (by unfold fX2_meetChance_P; rw [if_neg c_1, if_neg c_2, if_pos c_3, if_pos c_4])) rfl dX2_meetChance_91
        · --F
          refine lv_aload_n hx hb dX2_meetChance_61 rfl (lv_at hl 2 rfl) ?_
          refine lv_iload_n hx hb dX2_meetChance_62 rfl (lv_at hl 1 rfl) ?_
          refine lv_iload_n hx hb dX2_meetChance_63 rfl (lv_at hl 3 rfl) ?_
          refine lv_sipush (v := 2048) hx hb dX2_meetChance_64 (by decide) ?_
          refine lv_idiv hx hb dX2_meetChance_67 (by decide) ?_
          refine lv_aload_n hx hb dX2_meetChance_68 rfl (lv_at hl 2 rfl) ?_
          refine gRd_get hx hb hts in_X2 hown hK hG hV.1 hV.c0 0 (by decide) k_5 (fun _ h => h) (j := 0) rfl dX2_meetChance_69 ?_
          refine lv_irem hx hb dX2_meetChance_72 (fun q => c_2 (by rw [q]; exact Int32.le_refl _)) ?_
          refine g_callV (As := [.int (remI (a / 512) ((upd (upd P 5 (remI a 21)) 6 (remI (a / 32) 10)) 2)), .int (remI (a / 2048) ((upd (upd P 5 (remI a 21)) 6 (remI (a / 32) 10)) 0))]) (rest := []) (st1 := [.int (fX2_moveWagon_v (upd (upd P 5 (remI a 21)) 6 (remI (a / 32) 10)) (remI (a / 512) ((upd (upd P 5 (remI a 21)) 6 (remI (a / 32) 10)) 2)) (remI (a / 2048) ((upd (upd P 5 (remI a 21)) 6 (remI (a / 32) 10)) 0)))]) hF (mX2_moveWagon M R O hV (upd (upd P 5 (remI a 21)) 6 (remI (a / 32) 10)) (remI (a / 512) ((upd (upd P 5 (remI a 21)) 6 (remI (a / 32) 10)) 2)) (remI (a / 2048) ((upd (upd P 5 (remI a 21)) 6 (remI (a / 32) 10)) 0))) (cwV 2 hts gX2_meetChance_X2_moveWagon rfl rfl rfl (by decide +kernel) ⟨Nat.le_of_ble_eq_true rfl, Nat.le_of_ble_eq_true rfl⟩) hK hZ hG hS hV.c0 (gC_Rd hV.1) (by decide) rfl rfl hl.1 (Nat.le_of_ble_eq_true rfl) dX2_meetChance_73 ⟨Nat.zero_le _, Nat.zero_le _⟩ rfl rfl (fun H locs hG hS => ?_)
          refine lv_pop hx hb dX2_meetChance_76 rfl ?_
          refine lv_aload_n hx hb dX2_meetChance_77 rfl (lv_at hl 2 rfl) ?_
          refine lv_iload_n hx hb dX2_meetChance_78 rfl (lv_at hl 1 rfl) ?_
          refine lv_iconst (v := 5) hx hb dX2_meetChance_79 (by decide) ?_
          refine lv_aload_n hx hb dX2_meetChance_80 rfl (lv_at hl 0 rfl) ?_
          refine gWg_get hx hb hts in_X5 hown hK hG hV.1 (okI_lt (k := 3) rfl (by decide) c_3) (hV.wag (i := (remI (a / 512) ((upd (upd P 5 (remI a 21)) 6 (remI (a / 32) 10)) 2)).toNatClampNeg) (okI_lt (k := 3) rfl (by decide) c_3)) 1 (by decide) k_6 (fun _ h => h) (j := 122 + 3 * ((remI (a / 512) ((upd (upd P 5 (remI a 21)) 6 (remI (a / 32) 10)) 2)).toNatClampNeg) + 1) rfl dX2_meetChance_81 ?_
          refine va_mmin hx hb (hml.trans hl.1.symm) hown k_8 k_9 k_10 k_11 (Nat.le_of_ble_eq_true rfl) (Nat.le_of_ble_eq_true rfl) (Nat.le_of_ble_eq_true rfl) (Nat.le_of_ble_eq_true rfl) dX2_meetChance_84 ?_
          refine g_callV (As := [.int (remI (a / 512) ((upd (upd P 5 (remI a 21)) 6 (remI (a / 32) 10)) 2)), .int (if ((fX2_moveWagon_P (upd (upd P 5 (remI a 21)) 6 (remI (a / 32) 10)) (remI (a / 512) ((upd (upd P 5 (remI a 21)) 6 (remI (a / 32) 10)) 2)) (remI (a / 2048) ((upd (upd P 5 (remI a 21)) 6 (remI (a / 32) 10)) 0))) (122 + 3 * ((remI (a / 512) ((upd (upd P 5 (remI a 21)) 6 (remI (a / 32) 10)) 2)).toNatClampNeg) + 1)) < 5 then ((fX2_moveWagon_P (upd (upd P 5 (remI a 21)) 6 (remI (a / 32) 10)) (remI (a / 512) ((upd (upd P 5 (remI a 21)) 6 (remI (a / 32) 10)) 2)) (remI (a / 2048) ((upd (upd P 5 (remI a 21)) 6 (remI (a / 32) 10)) 0))) (122 + 3 * ((remI (a / 512) ((upd (upd P 5 (remI a 21)) 6 (remI (a / 32) 10)) 2)).toNatClampNeg) + 1)) else 5)]) (rest := []) (st1 := [.int (fX2_sprayFrom_v (fX2_moveWagon_P (upd (upd P 5 (remI a 21)) 6 (remI (a / 32) 10)) (remI (a / 512) ((upd (upd P 5 (remI a 21)) 6 (remI (a / 32) 10)) 2)) (remI (a / 2048) ((upd (upd P 5 (remI a 21)) 6 (remI (a / 32) 10)) 0))) (remI (a / 512) ((upd (upd P 5 (remI a 21)) 6 (remI (a / 32) 10)) 2)) (if ((fX2_moveWagon_P (upd (upd P 5 (remI a 21)) 6 (remI (a / 32) 10)) (remI (a / 512) ((upd (upd P 5 (remI a 21)) 6 (remI (a / 32) 10)) 2)) (remI (a / 2048) ((upd (upd P 5 (remI a 21)) 6 (remI (a / 32) 10)) 0))) (122 + 3 * ((remI (a / 512) ((upd (upd P 5 (remI a 21)) 6 (remI (a / 32) 10)) 2)).toNatClampNeg) + 1)) < 5 then ((fX2_moveWagon_P (upd (upd P 5 (remI a 21)) 6 (remI (a / 32) 10)) (remI (a / 512) ((upd (upd P 5 (remI a 21)) 6 (remI (a / 32) 10)) 2)) (remI (a / 2048) ((upd (upd P 5 (remI a 21)) 6 (remI (a / 32) 10)) 0))) (122 + 3 * ((remI (a / 512) ((upd (upd P 5 (remI a 21)) 6 (remI (a / 32) 10)) 2)).toNatClampNeg) + 1)) else 5))]) hF (mX2_sprayFrom M R O hV (fX2_moveWagon_P (upd (upd P 5 (remI a 21)) 6 (remI (a / 32) 10)) (remI (a / 512) ((upd (upd P 5 (remI a 21)) 6 (remI (a / 32) 10)) 2)) (remI (a / 2048) ((upd (upd P 5 (remI a 21)) 6 (remI (a / 32) 10)) 0))) (remI (a / 512) ((upd (upd P 5 (remI a 21)) 6 (remI (a / 32) 10)) 2)) (if ((fX2_moveWagon_P (upd (upd P 5 (remI a 21)) 6 (remI (a / 32) 10)) (remI (a / 512) ((upd (upd P 5 (remI a 21)) 6 (remI (a / 32) 10)) 2)) (remI (a / 2048) ((upd (upd P 5 (remI a 21)) 6 (remI (a / 32) 10)) 0))) (122 + 3 * ((remI (a / 512) ((upd (upd P 5 (remI a 21)) 6 (remI (a / 32) 10)) 2)).toNatClampNeg) + 1)) < 5 then ((fX2_moveWagon_P (upd (upd P 5 (remI a 21)) 6 (remI (a / 32) 10)) (remI (a / 512) ((upd (upd P 5 (remI a 21)) 6 (remI (a / 32) 10)) 2)) (remI (a / 2048) ((upd (upd P 5 (remI a 21)) 6 (remI (a / 32) 10)) 0))) (122 + 3 * ((remI (a / 512) ((upd (upd P 5 (remI a 21)) 6 (remI (a / 32) 10)) 2)).toNatClampNeg) + 1)) else 5)) (cwV 2 hts gX2_meetChance_X2_sprayFrom rfl rfl rfl (by decide +kernel) ⟨Nat.le_of_ble_eq_true rfl, Nat.le_of_ble_eq_true rfl⟩) hK hZ hG hS hV.c0 (gC_Rd hV.1) (by decide) rfl rfl hl.1 (Nat.le_of_ble_eq_true rfl) dX2_meetChance_87 ⟨Nat.zero_le _, Nat.zero_le _⟩ rfl rfl (fun H locs hG hS => ?_)
          refine lv_pop hx hb dX2_meetChance_90 rfl ?_
          exact g_vret hx hb hrt hlocks hS hG (congrArg (va_up M r) (by unfold fX2_meetChance_P; rw [if_neg c_1, if_neg c_2, if_pos c_3, if_neg c_4])) rfl dX2_meetChance_91
      · --none
        refine g_callV (As := [.int (remI (a / 512) ((upd (upd P 5 (remI a 21)) 6 (remI (a / 32) 10)) 2))]) (rest := []) (st1 := [.null]) hF (mX2_wagonAt_n M R O hV (upd (upd P 5 (remI a 21)) 6 (remI (a / 32) 10)) c_3) (cwV 1 hts gX2_meetChance_X2_wagonAt rfl rfl rfl (by decide +kernel) ⟨Nat.le_of_ble_eq_true rfl, Nat.le_of_ble_eq_true rfl⟩) hK hZ hG hS hV.c0 (gC_Rd hV.1) (by decide) rfl rfl hl.1 (Nat.le_of_ble_eq_true rfl) dX2_meetChance_46 ⟨Nat.zero_le _, Nat.zero_le _⟩ rfl rfl (fun H locs hG hS => ?_)
        refine lv_astore_nN (lv' := [(3, .null), (2, .int (remI (a / 512) ((upd (upd P 5 (remI a 21)) 6 (remI (a / 32) 10)) 2))), (0, .ref (gad Γ (25 * r))), (1, .int a)]) hx hb dX2_meetChance_49 rfl hl (by decide) rfl (fun ls hl => ?_)
        refine lv_aload_nN hx hb dX2_meetChance_50 rfl (lv_at hl 0 rfl) ?_
        refine lv_ifnullN (tgt := 91) hx hb dX2_meetChance_51 (by decide) ?_
        exact g_vret hx hb hrt hlocks hS hG (congrArg (va_up M r) (by unfold fX2_meetChance_P; rw [if_neg c_1, if_neg c_2, if_neg c_3])) rfl dX2_meetChance_91

