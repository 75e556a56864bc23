/-! THE REFERENCE: a road is read. Laid by gen/p15.py. -/
set_option maxHeartbeats 4000000 in
set_option maxRecDepth 100000 in
theorem mX7_readRoad_n1 {l : Launch} {Γ : gX} (M : Nat → Nat → Int32) (R : Nat → Nat → Option Nat) (O : Int64) (hL : LM Γ R) (A T D N V I K B : Nat → Int32) (hA : RA A) (hD : WS D) (h1 : (qX7_digit_v A T 0 1) = (-9)) : gMet l Γ yX7_readRoad wsX7_readRoad 2 49 [.ref (gad Γ 483)] (mS M A T D N V I K B) R O (some (.int 0)) (mS M (qX7_digit_A A T 0 1) T D N V I K B) R O := by
  refine g_start (cc := cX7_readRoad) (maxL := 5) (ret := (some .boolean)) (by decide) rfl (Nat.le_of_ble_eq_true rfl) ?_
  intro p e s m below meth c ls hx hb hml hrt hts hown hlocks hname hK hZ hG hS hl
  have hl : lv_has ls 5 [(0, .ref (gad Γ 483))] := hl
  have hown : s.vm.findClass RX7 = some m.cls := hown
  have hF : CallFix p m c cX7_readRoad 5 s _ wsX7_readRoad RX7 := ⟨hx, hb, hml, hown, hts⟩
  refine lv_aload_n hx hb dX7_readRoad_0 rfl (lv_at hl 0 rfl) ?_
  refine lv_iconst (v := 0) hx hb dX7_readRoad_1 (by decide) ?_
  refine lv_iconst (v := 1) hx hb dX7_readRoad_2 (by decide) ?_
  refine g_callV (As := [.int 0, .int 1]) (rest := []) (st1 := [.int (qX7_digit_v A T 0 1)]) hF (mX7_digit_q M R O hL A T D N V I K B 0 1 hA) (cwV 2 hts gX7_readRoad_X7_digit rfl rfl rfl (by decide +kernel) ⟨Nat.le_of_ble_eq_true rfl, Nat.le_of_ble_eq_true rfl⟩) hK hZ hG hS (hL.1 483 (by decide) (by decide)) (show gC 483 = (7, 24, 0) from rfl) (by decide) rfl rfl hl.1 (Nat.le_of_ble_eq_true rfl) dX7_readRoad_3 ⟨Nat.zero_le _, Nat.zero_le _⟩ rfl rfl (fun H locs hG hS => ?_)
  refine lv_istore_n (lv' := [(1, .int (qX7_digit_v A T 0 1)), (0, .ref (gad Γ 483))]) hx hb dX7_readRoad_6 rfl hl (by decide) rfl (fun ls hl => ?_)
  refine lv_iload_n hx hb dX7_readRoad_7 rfl (lv_at hl 0 rfl) ?_
  refine lv_bipush (v := (-9)) hx hb dX7_readRoad_8 (by decide) ?_
  refine lv_icmp_ne (tgt := 18) hx hb dX7_readRoad_10 (by decide) (fun c_1 => absurd h1 c_1) (fun c_1 => ?_)
  refine lv_bipush (v := (-9)) hx hb dX7_readRoad_13 (by decide) ?_
  refine lv_goto (tgt := 41) hx hb dX7_readRoad_15 (by decide) ?_
  refine lv_istore_n (lv' := [(2, .int (-9)), (1, .int (qX7_digit_v A T 0 1)), (0, .ref (gad Γ 483))]) hx hb dX7_readRoad_41 rfl hl (by decide) rfl (fun ls hl => ?_)
  refine lv_iload_n hx hb dX7_readRoad_42 rfl (lv_at hl 0 rfl) ?_
  refine lv_bipush (v := (-9)) hx hb dX7_readRoad_43 (by decide) ?_
  refine lv_icmp_ne (tgt := 50) hx hb dX7_readRoad_45 (by decide) (fun c_2 => absurd (by decide) c_2) (fun c_2 => ?_)
  refine lv_iconst (v := 0) hx hb dX7_readRoad_48 (by decide) ?_
  exact g_zret hx hb hrt hlocks hS hG (by decide) rfl rfl dX7_readRoad_49

set_option maxHeartbeats 4000000 in
set_option maxRecDepth 100000 in
theorem mX7_readRoad_na {l : Launch} {Γ : gX} (M : Nat → Nat → Int32) (R : Nat → Nat → Option Nat) (O : Int64) (hL : LM Γ R) (A T D N V I K B : Nat → Int32) (hA : RA A) (hD : WS D) (h1 : ¬ (qX7_digit_v A T 0 1) = (-9)) (h2 : (qX7_digit_v A T 0 1) = 0) (h3 : qX7_digit_v (qX7_digit_A A T 0 1) T 1 9 = (-9)) : gMet l Γ yX7_readRoad wsX7_readRoad 2 49 [.ref (gad Γ 483)] (mS M A T D N V I K B) R O (some (.int 0)) (mS M (qX7_digit_A (qX7_digit_A A T 0 1) T 1 9) T D N V I K B) R O := by
  refine g_start (cc := cX7_readRoad) (maxL := 5) (ret := (some .boolean)) (by decide) rfl (Nat.le_of_ble_eq_true rfl) ?_
  intro p e s m below meth c ls hx hb hml hrt hts hown hlocks hname hK hZ hG hS hl
  have hl : lv_has ls 5 [(0, .ref (gad Γ 483))] := hl
  have hown : s.vm.findClass RX7 = some m.cls := hown
  have hF : CallFix p m c cX7_readRoad 5 s _ wsX7_readRoad RX7 := ⟨hx, hb, hml, hown, hts⟩
  refine lv_aload_n hx hb dX7_readRoad_0 rfl (lv_at hl 0 rfl) ?_
  refine lv_iconst (v := 0) hx hb dX7_readRoad_1 (by decide) ?_
  refine lv_iconst (v := 1) hx hb dX7_readRoad_2 (by decide) ?_
  refine g_callV (As := [.int 0, .int 1]) (rest := []) (st1 := [.int (qX7_digit_v A T 0 1)]) hF (mX7_digit_q M R O hL A T D N V I K B 0 1 hA) (cwV 2 hts gX7_readRoad_X7_digit rfl rfl rfl (by decide +kernel) ⟨Nat.le_of_ble_eq_true rfl, Nat.le_of_ble_eq_true rfl⟩) hK hZ hG hS (hL.1 483 (by decide) (by decide)) (show gC 483 = (7, 24, 0) from rfl) (by decide) rfl rfl hl.1 (Nat.le_of_ble_eq_true rfl) dX7_readRoad_3 ⟨Nat.zero_le _, Nat.zero_le _⟩ rfl rfl (fun H locs hG hS => ?_)
  refine lv_istore_n (lv' := [(1, .int (qX7_digit_v A T 0 1)), (0, .ref (gad Γ 483))]) hx hb dX7_readRoad_6 rfl hl (by decide) rfl (fun ls hl => ?_)
  refine lv_iload_n hx hb dX7_readRoad_7 rfl (lv_at hl 0 rfl) ?_
  refine lv_bipush (v := (-9)) hx hb dX7_readRoad_8 (by decide) ?_
  refine lv_icmp_ne (tgt := 18) hx hb dX7_readRoad_10 (by decide) (fun c_1 => ?_) (fun c_1 => absurd c_1 h1)
  refine lv_aload_n hx hb dX7_readRoad_18 rfl (lv_at hl 1 rfl) ?_
  refine lv_iload_n hx hb dX7_readRoad_19 rfl (lv_at hl 0 rfl) ?_
  refine lv_if_ne (tgt := 27) hx hb dX7_readRoad_20 (by decide) (fun c_2 => absurd h2 c_2) (fun c_2 => ?_)
  refine lv_iconst (v := 1) hx hb dX7_readRoad_23 (by decide) ?_
  refine lv_goto (tgt := 28) hx hb dX7_readRoad_24 (by decide) ?_
  refine lv_iload_n hx hb dX7_readRoad_28 rfl (lv_at hl 0 rfl) ?_
  refine lv_if_ne (tgt := 37) hx hb dX7_readRoad_29 (by decide) (fun c_3 => absurd h2 c_3) (fun c_3 => ?_)
  refine lv_bipush (v := 9) hx hb dX7_readRoad_32 (by decide) ?_
  refine lv_goto (tgt := 38) hx hb dX7_readRoad_34 (by decide) ?_
  refine g_callV (As := [.int 1, .int 9]) (rest := []) (st1 := [.int (qX7_digit_v (qX7_digit_A A T 0 1) T 1 9)]) hF (mX7_digit_q M R O hL (qX7_digit_A A T 0 1) T D N V I K B 1 9 (RA_digit hA)) (cwV 2 hts gX7_readRoad_X7_digit rfl rfl rfl (by decide +kernel) ⟨Nat.le_of_ble_eq_true rfl, Nat.le_of_ble_eq_true rfl⟩) hK hZ hG hS (hL.1 483 (by decide) (by decide)) (show gC 483 = (7, 24, 0) from rfl) (by decide) rfl rfl hl.1 (Nat.le_of_ble_eq_true rfl) dX7_readRoad_38 ⟨Nat.zero_le _, Nat.zero_le _⟩ rfl rfl (fun H locs hG hS => ?_)
  refine lv_istore_n (lv' := [(2, .int (qX7_digit_v (qX7_digit_A A T 0 1) T 1 9)), (1, .int (qX7_digit_v A T 0 1)), (0, .ref (gad Γ 483))]) hx hb dX7_readRoad_41 rfl hl (by decide) rfl (fun ls hl => ?_)
  refine lv_iload_n hx hb dX7_readRoad_42 rfl (lv_at hl 0 rfl) ?_
  refine lv_bipush (v := (-9)) hx hb dX7_readRoad_43 (by decide) ?_
  refine lv_icmp_ne (tgt := 50) hx hb dX7_readRoad_45 (by decide) (fun c_4 => absurd h3 c_4) (fun c_4 => ?_)
  refine lv_iconst (v := 0) hx hb dX7_readRoad_48 (by decide) ?_
  exact g_zret hx hb hrt hlocks hS hG (by decide) rfl rfl dX7_readRoad_49

set_option maxHeartbeats 4000000 in
set_option maxRecDepth 100000 in
theorem mX7_readRoad_ya {l : Launch} {Γ : gX} (M : Nat → Nat → Int32) (R : Nat → Nat → Option Nat) (O : Int64) (hL : LM Γ R) (A T D N V I K B : Nat → Int32) (hA : RA A) (hD : WS D) (h1 : ¬ (qX7_digit_v A T 0 1) = (-9)) (h2 : (qX7_digit_v A T 0 1) = 0) (h3 : ¬ qX7_digit_v (qX7_digit_A A T 0 1) T 1 9 = (-9)) (hno : ∀ j, j < (((10 * (qX7_digit_v A T 0 1)) + (qX7_digit_v (qX7_digit_A A T 0 1) T 1 9)).toNatClampNeg) → ¬ qX7_digit_v (fX7_sur_L T (qX7_digit_A (qX7_digit_A A T 0 1) T 1 9) (fX7_clear_P D (((10 * (qX7_digit_v A T 0 1)) + (qX7_digit_v (qX7_digit_A A T 0 1) T 1 9)).toNatClampNeg)) j).1 T 0 2 = -9) : gMet l Γ yX7_readRoad wsX7_readRoad 2 49 [.ref (gad Γ 483)] (mS M A T D N V I K B) R O (some (.int 1)) (mS M ((fX7_sur_L T (qX7_digit_A (qX7_digit_A A T 0 1) T 1 9) (fX7_clear_P D (((10 * (qX7_digit_v A T 0 1)) + (qX7_digit_v (qX7_digit_A A T 0 1) T 1 9)).toNatClampNeg)) (((10 * (qX7_digit_v A T 0 1)) + (qX7_digit_v (qX7_digit_A A T 0 1) T 1 9)).toNatClampNeg)).1) T ((fX7_sur_L T (qX7_digit_A (qX7_digit_A A T 0 1) T 1 9) (fX7_clear_P D (((10 * (qX7_digit_v A T 0 1)) + (qX7_digit_v (qX7_digit_A A T 0 1) T 1 9)).toNatClampNeg)) (((10 * (qX7_digit_v A T 0 1)) + (qX7_digit_v (qX7_digit_A A T 0 1) T 1 9)).toNatClampNeg)).2) N V I K B) R O := by
  refine g_start (cc := cX7_readRoad) (maxL := 5) (ret := (some .boolean)) (by decide) rfl (Nat.le_of_ble_eq_true rfl) ?_
  intro p e s m below meth c ls hx hb hml hrt hts hown hlocks hname hK hZ hG hS hl
  have hl : lv_has ls 5 [(0, .ref (gad Γ 483))] := hl
  have hown : s.vm.findClass RX7 = some m.cls := hown
  have hF : CallFix p m c cX7_readRoad 5 s _ wsX7_readRoad RX7 := ⟨hx, hb, hml, hown, hts⟩
  have k_1 : (Cond.fieldLink RX7 13 "RoadDustModel" "read" "[I").before _ s = true := hts _ (by decide +kernel)
  have in_X7 : ∀ w ∈ wsX70, w ∈ wsX7_readRoad := by decide +kernel
  have d0 := (sz_a h2 (digit_pl h3).1 (digit_pl h3).2.1).2
  refine lv_aload_n hx hb dX7_readRoad_0 rfl (lv_at hl 0 rfl) ?_
  refine lv_iconst (v := 0) hx hb dX7_readRoad_1 (by decide) ?_
  refine lv_iconst (v := 1) hx hb dX7_readRoad_2 (by decide) ?_
  refine g_callV (As := [.int 0, .int 1]) (rest := []) (st1 := [.int (qX7_digit_v A T 0 1)]) hF (mX7_digit_q M R O hL A T D N V I K B 0 1 hA) (cwV 2 hts gX7_readRoad_X7_digit rfl rfl rfl (by decide +kernel) ⟨Nat.le_of_ble_eq_true rfl, Nat.le_of_ble_eq_true rfl⟩) hK hZ hG hS (hL.1 483 (by decide) (by decide)) (show gC 483 = (7, 24, 0) from rfl) (by decide) rfl rfl hl.1 (Nat.le_of_ble_eq_true rfl) dX7_readRoad_3 ⟨Nat.zero_le _, Nat.zero_le _⟩ rfl rfl (fun H locs hG hS => ?_)
  refine lv_istore_n (lv' := [(1, .int (qX7_digit_v A T 0 1)), (0, .ref (gad Γ 483))]) hx hb dX7_readRoad_6 rfl hl (by decide) rfl (fun ls hl => ?_)
  refine lv_iload_n hx hb dX7_readRoad_7 rfl (lv_at hl 0 rfl) ?_
  refine lv_bipush (v := (-9)) hx hb dX7_readRoad_8 (by decide) ?_
  refine lv_icmp_ne (tgt := 18) hx hb dX7_readRoad_10 (by decide) (fun c_1 => ?_) (fun c_1 => absurd c_1 h1)
  refine lv_aload_n hx hb dX7_readRoad_18 rfl (lv_at hl 1 rfl) ?_
  refine lv_iload_n hx hb dX7_readRoad_19 rfl (lv_at hl 0 rfl) ?_
  refine lv_if_ne (tgt := 27) hx hb dX7_readRoad_20 (by decide) (fun c_2 => absurd h2 c_2) (fun c_2 => ?_)
  refine lv_iconst (v := 1) hx hb dX7_readRoad_23 (by decide) ?_
  refine lv_goto (tgt := 28) hx hb dX7_readRoad_24 (by decide) ?_
  refine lv_iload_n hx hb dX7_readRoad_28 rfl (lv_at hl 0 rfl) ?_
  refine lv_if_ne (tgt := 37) hx hb dX7_readRoad_29 (by decide) (fun c_3 => absurd h2 c_3) (fun c_3 => ?_)
  refine lv_bipush (v := 9) hx hb dX7_readRoad_32 (by decide) ?_
  refine lv_goto (tgt := 38) hx hb dX7_readRoad_34 (by decide) ?_
  refine g_callV (As := [.int 1, .int 9]) (rest := []) (st1 := [.int (qX7_digit_v (qX7_digit_A A T 0 1) T 1 9)]) hF (mX7_digit_q M R O hL (qX7_digit_A A T 0 1) T D N V I K B 1 9 (RA_digit hA)) (cwV 2 hts gX7_readRoad_X7_digit rfl rfl rfl (by decide +kernel) ⟨Nat.le_of_ble_eq_true rfl, Nat.le_of_ble_eq_true rfl⟩) hK hZ hG hS (hL.1 483 (by decide) (by decide)) (show gC 483 = (7, 24, 0) from rfl) (by decide) rfl rfl hl.1 (Nat.le_of_ble_eq_true rfl) dX7_readRoad_38 ⟨Nat.zero_le _, Nat.zero_le _⟩ rfl rfl (fun H locs hG hS => ?_)
  refine lv_istore_n (lv' := [(2, .int (qX7_digit_v (qX7_digit_A A T 0 1) T 1 9)), (1, .int (qX7_digit_v A T 0 1)), (0, .ref (gad Γ 483))]) hx hb dX7_readRoad_41 rfl hl (by decide) rfl (fun ls hl => ?_)
  refine lv_iload_n hx hb dX7_readRoad_42 rfl (lv_at hl 0 rfl) ?_
  refine lv_bipush (v := (-9)) hx hb dX7_readRoad_43 (by decide) ?_
  refine lv_icmp_ne (tgt := 50) hx hb dX7_readRoad_45 (by decide) (fun c_4 => ?_) (fun c_4 => absurd c_4 h3)
  refine lv_aload_n hx hb dX7_readRoad_50 rfl (lv_at hl 2 rfl) ?_
  refine gM_getr hx hb hts in_X7 hown hK hL hG 4 (by decide) rfl hL.2.2.1 k_1 (fun _ h => h) dX7_readRoad_51 ?_
  refine lv_bipush (v := 10) hx hb dX7_readRoad_54 (by decide) ?_
  refine lv_iload_n hx hb dX7_readRoad_56 rfl (lv_at hl 1 rfl) ?_
  refine lv_imul hx hb dX7_readRoad_57 ?_
  refine lv_iload_n hx hb dX7_readRoad_58 rfl (lv_at hl 0 rfl) ?_
  refine lv_iadd hx hb dX7_readRoad_59 ?_
  refine g_callS (As := [.ref (gad Γ 485), .int ((10 * (qX7_digit_v A T 0 1)) + (qX7_digit_v (qX7_digit_A A T 0 1) T 1 9))]) (rest := []) (st1 := []) hF (mX7_clear (mS M (qX7_digit_A (qX7_digit_A A T 0 1) T 1 9) T D N V I K B) R O (hL.1 485 (by decide) (by decide)) (show gC 485 = (9, 26, 0) from rfl) (show gLen 485 = 131 from rfl) D (((10 * (qX7_digit_v A T 0 1)) + (qX7_digit_v (qX7_digit_A A T 0 1) T 1 9)).toNatClampNeg) ((sz_a h2 (digit_pl h3).1 (digit_pl h3).2.1).1) (sz_a h2 (digit_pl h3).1 (digit_pl h3).2.1).2) (va_cwS 2 hts gX7_readRoad_X7_clear rfl rfl rfl (by decide +kernel) ⟨Nat.le_of_ble_eq_true rfl, Nat.le_of_ble_eq_true rfl⟩) hK hZ (g_st (show _ = va_up (mS M (qX7_digit_A (qX7_digit_A A T 0 1) T 1 9) T D N V I K B) 26 D from (mS_u26 _ _ _ _ _ _ _ _ _ _).symm) hG) hS rfl hl.1 (Nat.le_of_ble_eq_true rfl) dX7_readRoad_60 ⟨Nat.zero_le _, Nat.zero_le _⟩ rfl rfl (fun H locs hG hS => ?_)
  replace hG : GH Γ (mS M (qX7_digit_A (qX7_digit_A A T 0 1) T 1 9) T (fX7_clear_P D (((10 * (qX7_digit_v A T 0 1)) + (qX7_digit_v (qX7_digit_A A T 0 1) T 1 9)).toNatClampNeg)) N V I K B) R O H := g_st (mS_u26 _ _ _ _ _ _ _ _ _ _) hG
  refine lv_iconst (v := 0) hx hb dX7_readRoad_63 (by decide) ?_
  refine lv_istore_n (lv' := [(3, .int 0), (2, .int (qX7_digit_v (qX7_digit_A A T 0 1) T 1 9)), (1, .int (qX7_digit_v A T 0 1)), (0, .ref (gad Γ 483))]) hx hb dX7_readRoad_64 rfl hl (by decide) rfl (fun ls hl => ?_)
  refine g_loop (N := ((10 * (qX7_digit_v A T 0 1)) + (qX7_digit_v (qX7_digit_A A T 0 1) T 1 9)).toNatClampNeg) (fun k H locs ls => GH Γ (mS M ((fX7_sur_L T (qX7_digit_A (qX7_digit_A A T 0 1) T 1 9) (fX7_clear_P D (((10 * (qX7_digit_v A T 0 1)) + (qX7_digit_v (qX7_digit_A A T 0 1) T 1 9)).toNatClampNeg)) k).1) T ((fX7_sur_L T (qX7_digit_A (qX7_digit_A A T 0 1) T 1 9) (fX7_clear_P D (((10 * (qX7_digit_v A T 0 1)) + (qX7_digit_v (qX7_digit_A A T 0 1) T 1 9)).toNatClampNeg)) k).2) N V I K B) R O H ∧ va_S (gA Γ) s.heap H locs ∧ lv_has ls 5 [(0, .ref (gad Γ 483)), (3, .int (nI k))]) ?_ ?_ 0 (Nat.zero_le _) _ _ _ ⟨hG, hS, lv_sub hl [3, 0] rfl⟩
  · rintro H locs ls ⟨hG, hS, hl⟩
    have d0 := (sz_a h2 (digit_pl h3).1 (digit_pl h3).2.1).2
    have kp := sur_keeps (T := T) (A := (qX7_digit_A (qX7_digit_A A T 0 1) T 1 9)) (D := (fX7_clear_P D (((10 * (qX7_digit_v A T 0 1)) + (qX7_digit_v (qX7_digit_A A T 0 1) T 1 9)).toNatClampNeg))) (RA_digit (RA_digit hA)) (WS_clear D (sz_a h2 (digit_pl h3).1 (digit_pl h3).2.1).2) (((10 * (qX7_digit_v A T 0 1)) + (qX7_digit_v (qX7_digit_A A T 0 1) T 1 9)).toNatClampNeg) (by omega)
    have e0 : (fX7_sur_L T (qX7_digit_A (qX7_digit_A A T 0 1) T 1 9) (fX7_clear_P D (((10 * (qX7_digit_v A T 0 1)) + (qX7_digit_v (qX7_digit_A A T 0 1) T 1 9)).toNatClampNeg)) (((10 * (qX7_digit_v A T 0 1)) + (qX7_digit_v (qX7_digit_A A T 0 1) T 1 9)).toNatClampNeg)).2 0 = nI (((10 * (qX7_digit_v A T 0 1)) + (qX7_digit_v (qX7_digit_A A T 0 1) T 1 9)).toNatClampNeg) := (kp.2.2 0 (by decide)).trans (by rw [clear_at D _ 0 (by decide), if_pos rfl])
    refine lv_iload_n hx hb dX7_readRoad_65 rfl (lv_at hl 1 rfl) ?_
    refine lv_aload_n hx hb dX7_readRoad_66 rfl (lv_at hl 0 rfl) ?_
    refine gM_getr hx hb hts in_X7 hown hK hL hG 4 (by decide) rfl hL.2.2.1 k_1 (fun _ h => h) dX7_readRoad_67 ?_
    refine lv_iconst (v := 0) hx hb dX7_readRoad_70 (by decide) ?_
    refine gm_ald hx hb hK hG (hL.1 485 (by decide) (by decide)) (show gC 485 = (9, 26, 0) from rfl) (show gLen 485 = 131 from rfl) (by decide) (j := 0) rfl (by omega) (v := ((fX7_sur_L T (qX7_digit_A (qX7_digit_A A T 0 1) T 1 9) (fX7_clear_P D (((10 * (qX7_digit_v A T 0 1)) + (qX7_digit_v (qX7_digit_A A T 0 1) T 1 9)).toNatClampNeg)) (((10 * (qX7_digit_v A T 0 1)) + (qX7_digit_v (qX7_digit_A A T 0 1) T 1 9)).toNatClampNeg)).2) 0) (mS_a26 _ _ _ _ _ _ _ _ _ _) dX7_readRoad_71 ?_
    refine lv_icmp_ge (tgt := 109) hx hb dX7_readRoad_72 (by decide) (fun c_5 => ?_) (fun c_5 => absurd (by rw [e0]; exact nI_le (Nat.le_refl _) (by omega)) c_5)
    refine lv_iconst (v := 1) hx hb dX7_readRoad_109 (by decide) ?_
    exact g_zret hx hb hrt hlocks hS hG (by decide) rfl rfl dX7_readRoad_110
  · rintro k hk_k ih_k H locs ls ⟨hG, hS, hl⟩
    have d0 := (sz_a h2 (digit_pl h3).1 (digit_pl h3).2.1).2
    have kp := (sur_keeps (T := T) (A := (qX7_digit_A (qX7_digit_A A T 0 1) T 1 9)) (D := (fX7_clear_P D (((10 * (qX7_digit_v A T 0 1)) + (qX7_digit_v (qX7_digit_A A T 0 1) T 1 9)).toNatClampNeg))) (RA_digit (RA_digit hA)) (WS_clear D (sz_a h2 (digit_pl h3).1 (digit_pl h3).2.1).2) k (by omega))
    have e0 : (fX7_sur_L T (qX7_digit_A (qX7_digit_A A T 0 1) T 1 9) (fX7_clear_P D (((10 * (qX7_digit_v A T 0 1)) + (qX7_digit_v (qX7_digit_A A T 0 1) T 1 9)).toNatClampNeg)) k).2 0 = nI (((10 * (qX7_digit_v A T 0 1)) + (qX7_digit_v (qX7_digit_A A T 0 1) T 1 9)).toNatClampNeg) := (kp.2.2 0 (by decide)).trans (by rw [clear_at D _ 0 (by decide), if_pos rfl])
    refine lv_iload_n hx hb dX7_readRoad_65 rfl (lv_at hl 1 rfl) ?_
    refine lv_aload_n hx hb dX7_readRoad_66 rfl (lv_at hl 0 rfl) ?_
    refine gM_getr hx hb hts in_X7 hown hK hL hG 4 (by decide) rfl hL.2.2.1 k_1 (fun _ h => h) dX7_readRoad_67 ?_
    refine lv_iconst (v := 0) hx hb dX7_readRoad_70 (by decide) ?_
    refine gm_ald hx hb hK hG (hL.1 485 (by decide) (by decide)) (show gC 485 = (9, 26, 0) from rfl) (show gLen 485 = 131 from rfl) (by decide) (j := 0) rfl (by omega) (v := ((fX7_sur_L T (qX7_digit_A (qX7_digit_A A T 0 1) T 1 9) (fX7_clear_P D (((10 * (qX7_digit_v A T 0 1)) + (qX7_digit_v (qX7_digit_A A T 0 1) T 1 9)).toNatClampNeg)) k).2) 0) (mS_a26 _ _ _ _ _ _ _ _ _ _) dX7_readRoad_71 ?_
    refine lv_icmp_ge (tgt := 109) hx hb dX7_readRoad_72 (by decide) (fun c_6 => absurd c_6 (by rw [e0]; exact i32_lt_nle (nI_lt (by omega) (by omega)))) (fun c_6 => ?_)
    refine lv_aload_n hx hb dX7_readRoad_75 rfl (lv_at hl 0 rfl) ?_
    refine lv_iconst (v := 0) hx hb dX7_readRoad_76 (by decide) ?_
    refine lv_iconst (v := 2) hx hb dX7_readRoad_77 (by decide) ?_
    refine g_callV (As := [.int 0, .int 2]) (rest := []) (st1 := [.int (qX7_digit_v ((fX7_sur_L T (qX7_digit_A (qX7_digit_A A T 0 1) T 1 9) (fX7_clear_P D (((10 * (qX7_digit_v A T 0 1)) + (qX7_digit_v (qX7_digit_A A T 0 1) T 1 9)).toNatClampNeg)) k).1) T 0 2)]) hF (mX7_digit_q M R O hL ((fX7_sur_L T (qX7_digit_A (qX7_digit_A A T 0 1) T 1 9) (fX7_clear_P D (((10 * (qX7_digit_v A T 0 1)) + (qX7_digit_v (qX7_digit_A A T 0 1) T 1 9)).toNatClampNeg)) k).1) T ((fX7_sur_L T (qX7_digit_A (qX7_digit_A A T 0 1) T 1 9) (fX7_clear_P D (((10 * (qX7_digit_v A T 0 1)) + (qX7_digit_v (qX7_digit_A A T 0 1) T 1 9)).toNatClampNeg)) k).2) N V I K B 0 2 kp.1) (cwV 2 hts gX7_readRoad_X7_digit rfl rfl rfl (by decide +kernel) ⟨Nat.le_of_ble_eq_true rfl, Nat.le_of_ble_eq_true rfl⟩) hK hZ hG hS (hL.1 483 (by decide) (by decide)) (show gC 483 = (7, 24, 0) from rfl) (by decide) rfl rfl hl.1 (Nat.le_of_ble_eq_true rfl) dX7_readRoad_78 ⟨Nat.zero_le _, Nat.zero_le _⟩ rfl rfl (fun H locs hG hS => ?_)
    refine lv_istore (lv' := [(4, .int (qX7_digit_v ((fX7_sur_L T (qX7_digit_A (qX7_digit_A A T 0 1) T 1 9) (fX7_clear_P D (((10 * (qX7_digit_v A T 0 1)) + (qX7_digit_v (qX7_digit_A A T 0 1) T 1 9)).toNatClampNeg)) k).1) T 0 2)), (0, .ref (gad Γ 483)), (3, .int (nI k))]) hx hb dX7_readRoad_81 hl (by decide) rfl (fun ls hl => ?_)
    refine lv_iload hx hb dX7_readRoad_83 (lv_at hl 0 rfl) ?_
    refine lv_bipush (v := (-9)) hx hb dX7_readRoad_85 (by decide) ?_
    refine lv_icmp_ne (tgt := 92) hx hb dX7_readRoad_87 (by decide) (fun c_7 => ?_) (fun c_7 => absurd c_7 (hno k hk_k))
    refine lv_aload_n hx hb dX7_readRoad_92 rfl (lv_at hl 1 rfl) ?_
    refine gM_getr hx hb hts in_X7 hown hK hL hG 4 (by decide) rfl hL.2.2.1 k_1 (fun _ h => h) dX7_readRoad_93 ?_
    refine lv_iload_n hx hb dX7_readRoad_96 rfl (lv_at hl 2 rfl) ?_
    refine g_callS (As := [.int (nI k)]) (rest := [.ref (gad Γ 485)]) (st1 := [.int (nI (12 + 7 * k)), .ref (gad Γ 485)]) hF (mX7_segmentAt _ R O k rfl) (va_cwS 1 hts gX7_readRoad_X7_segmentAt rfl rfl rfl (by decide +kernel) ⟨Nat.le_of_ble_eq_true rfl, Nat.le_of_ble_eq_true rfl⟩) hK hZ hG hS rfl hl.1 (Nat.le_of_ble_eq_true rfl) dX7_readRoad_97 ⟨Nat.zero_le _, Nat.zero_le _⟩ rfl rfl (fun H locs hG hS => ?_)
    refine lv_iload hx hb dX7_readRoad_100 (lv_at hl 0 rfl) ?_
    refine gm_ast (M2 := mS M (qX7_digit_A ((fX7_sur_L T (qX7_digit_A (qX7_digit_A A T 0 1) T 1 9) (fX7_clear_P D (((10 * (qX7_digit_v A T 0 1)) + (qX7_digit_v (qX7_digit_A A T 0 1) T 1 9)).toNatClampNeg)) k).1) T 0 2) T (upd ((fX7_sur_L T (qX7_digit_A (qX7_digit_A A T 0 1) T 1 9) (fX7_clear_P D (((10 * (qX7_digit_v A T 0 1)) + (qX7_digit_v (qX7_digit_A A T 0 1) T 1 9)).toNatClampNeg)) k).2) (12 + 7 * k) (qX7_digit_v ((fX7_sur_L T (qX7_digit_A (qX7_digit_A A T 0 1) T 1 9) (fX7_clear_P D (((10 * (qX7_digit_v A T 0 1)) + (qX7_digit_v (qX7_digit_A A T 0 1) T 1 9)).toNatClampNeg)) k).1) T 0 2)) N V I K B) hx hb hK hG hS (hL.1 485 (by decide) (by decide)) (show gC 485 = (9, 26, 0) from rfl) (show gLen 485 = 131 from rfl) (by decide) (j := 12 + 7 * k) rfl (by omega) (mS_p26 _ _ _ _ _ _ _ _ _ _ _) dX7_readRoad_102 (fun H locs hG hS => ?_)
    refine lv_iinc (v := nI (k + 1)) (lv' := [(3, .int (nI (k + 1))), (4, .int (qX7_digit_v ((fX7_sur_L T (qX7_digit_A (qX7_digit_A A T 0 1) T 1 9) (fX7_clear_P D (((10 * (qX7_digit_v A T 0 1)) + (qX7_digit_v (qX7_digit_A A T 0 1) T 1 9)).toNatClampNeg)) k).1) T 0 2)), (0, .ref (gad Γ 483))]) hx hb dX7_readRoad_103 hl (k := 2) rfl (nI_1 _) (by decide) rfl (fun ls hl => ?_)
    refine lv_goto (tgt := 65) hx hb dX7_readRoad_106 (by decide) ?_
    exact ih_k _ _ _ ⟨hG, hS, lv_sub hl [2, 0] rfl⟩

set_option maxHeartbeats 4000000 in
set_option maxRecDepth 100000 in
theorem mX7_readRoad_fa {l : Launch} {Γ : gX} (M : Nat → Nat → Int32) (R : Nat → Nat → Option Nat) (O : Int64) (hL : LM Γ R) (A T D N V I K B : Nat → Int32) (hA : RA A) (hD : WS D) (h1 : ¬ (qX7_digit_v A T 0 1) = (-9)) (h2 : (qX7_digit_v A T 0 1) = 0) (h3 : ¬ qX7_digit_v (qX7_digit_A A T 0 1) T 1 9 = (-9)) (kx : Nat) (hkx : kx < ((10 * (qX7_digit_v A T 0 1)) + (qX7_digit_v (qX7_digit_A A T 0 1) T 1 9)).toNatClampNeg) (hno : ∀ j, j < kx → ¬ qX7_digit_v (fX7_sur_L T (qX7_digit_A (qX7_digit_A A T 0 1) T 1 9) (fX7_clear_P D (((10 * (qX7_digit_v A T 0 1)) + (qX7_digit_v (qX7_digit_A A T 0 1) T 1 9)).toNatClampNeg)) j).1 T 0 2 = -9) (hyes : qX7_digit_v (fX7_sur_L T (qX7_digit_A (qX7_digit_A A T 0 1) T 1 9) (fX7_clear_P D (((10 * (qX7_digit_v A T 0 1)) + (qX7_digit_v (qX7_digit_A A T 0 1) T 1 9)).toNatClampNeg)) kx).1 T 0 2 = -9) : gMet l Γ yX7_readRoad wsX7_readRoad 2 49 [.ref (gad Γ 483)] (mS M A T D N V I K B) R O (some (.int 0)) (mS M (qX7_digit_A (fX7_sur_L T (qX7_digit_A (qX7_digit_A A T 0 1) T 1 9) (fX7_clear_P D (((10 * (qX7_digit_v A T 0 1)) + (qX7_digit_v (qX7_digit_A A T 0 1) T 1 9)).toNatClampNeg)) kx).1 T 0 2) T ((fX7_sur_L T (qX7_digit_A (qX7_digit_A A T 0 1) T 1 9) (fX7_clear_P D (((10 * (qX7_digit_v A T 0 1)) + (qX7_digit_v (qX7_digit_A A T 0 1) T 1 9)).toNatClampNeg)) kx).2) N V I K B) R O := by
  refine g_start (cc := cX7_readRoad) (maxL := 5) (ret := (some .boolean)) (by decide) rfl (Nat.le_of_ble_eq_true rfl) ?_
  intro p e s m below meth c ls hx hb hml hrt hts hown hlocks hname hK hZ hG hS hl
  have hl : lv_has ls 5 [(0, .ref (gad Γ 483))] := hl
  have hown : s.vm.findClass RX7 = some m.cls := hown
  have hF : CallFix p m c cX7_readRoad 5 s _ wsX7_readRoad RX7 := ⟨hx, hb, hml, hown, hts⟩
  have k_1 : (Cond.fieldLink RX7 13 "RoadDustModel" "read" "[I").before _ s = true := hts _ (by decide +kernel)
  have in_X7 : ∀ w ∈ wsX70, w ∈ wsX7_readRoad := by decide +kernel
  have d0 := (sz_a h2 (digit_pl h3).1 (digit_pl h3).2.1).2
  refine lv_aload_n hx hb dX7_readRoad_0 rfl (lv_at hl 0 rfl) ?_
  refine lv_iconst (v := 0) hx hb dX7_readRoad_1 (by decide) ?_
  refine lv_iconst (v := 1) hx hb dX7_readRoad_2 (by decide) ?_
  refine g_callV (As := [.int 0, .int 1]) (rest := []) (st1 := [.int (qX7_digit_v A T 0 1)]) hF (mX7_digit_q M R O hL A T D N V I K B 0 1 hA) (cwV 2 hts gX7_readRoad_X7_digit rfl rfl rfl (by decide +kernel) ⟨Nat.le_of_ble_eq_true rfl, Nat.le_of_ble_eq_true rfl⟩) hK hZ hG hS (hL.1 483 (by decide) (by decide)) (show gC 483 = (7, 24, 0) from rfl) (by decide) rfl rfl hl.1 (Nat.le_of_ble_eq_true rfl) dX7_readRoad_3 ⟨Nat.zero_le _, Nat.zero_le _⟩ rfl rfl (fun H locs hG hS => ?_)
  refine lv_istore_n (lv' := [(1, .int (qX7_digit_v A T 0 1)), (0, .ref (gad Γ 483))]) hx hb dX7_readRoad_6 rfl hl (by decide) rfl (fun ls hl => ?_)
  refine lv_iload_n hx hb dX7_readRoad_7 rfl (lv_at hl 0 rfl) ?_
  refine lv_bipush (v := (-9)) hx hb dX7_readRoad_8 (by decide) ?_
  refine lv_icmp_ne (tgt := 18) hx hb dX7_readRoad_10 (by decide) (fun c_1 => ?_) (fun c_1 => absurd c_1 h1)
  refine lv_aload_n hx hb dX7_readRoad_18 rfl (lv_at hl 1 rfl) ?_
  refine lv_iload_n hx hb dX7_readRoad_19 rfl (lv_at hl 0 rfl) ?_
  refine lv_if_ne (tgt := 27) hx hb dX7_readRoad_20 (by decide) (fun c_2 => absurd h2 c_2) (fun c_2 => ?_)
  refine lv_iconst (v := 1) hx hb dX7_readRoad_23 (by decide) ?_
  refine lv_goto (tgt := 28) hx hb dX7_readRoad_24 (by decide) ?_
  refine lv_iload_n hx hb dX7_readRoad_28 rfl (lv_at hl 0 rfl) ?_
  refine lv_if_ne (tgt := 37) hx hb dX7_readRoad_29 (by decide) (fun c_3 => absurd h2 c_3) (fun c_3 => ?_)
  refine lv_bipush (v := 9) hx hb dX7_readRoad_32 (by decide) ?_
  refine lv_goto (tgt := 38) hx hb dX7_readRoad_34 (by decide) ?_
  refine g_callV (As := [.int 1, .int 9]) (rest := []) (st1 := [.int (qX7_digit_v (qX7_digit_A A T 0 1) T 1 9)]) hF (mX7_digit_q M R O hL (qX7_digit_A A T 0 1) T D N V I K B 1 9 (RA_digit hA)) (cwV 2 hts gX7_readRoad_X7_digit rfl rfl rfl (by decide +kernel) ⟨Nat.le_of_ble_eq_true rfl, Nat.le_of_ble_eq_true rfl⟩) hK hZ hG hS (hL.1 483 (by decide) (by decide)) (show gC 483 = (7, 24, 0) from rfl) (by decide) rfl rfl hl.1 (Nat.le_of_ble_eq_true rfl) dX7_readRoad_38 ⟨Nat.zero_le _, Nat.zero_le _⟩ rfl rfl (fun H locs hG hS => ?_)
  refine lv_istore_n (lv' := [(2, .int (qX7_digit_v (qX7_digit_A A T 0 1) T 1 9)), (1, .int (qX7_digit_v A T 0 1)), (0, .ref (gad Γ 483))]) hx hb dX7_readRoad_41 rfl hl (by decide) rfl (fun ls hl => ?_)
  refine lv_iload_n hx hb dX7_readRoad_42 rfl (lv_at hl 0 rfl) ?_
  refine lv_bipush (v := (-9)) hx hb dX7_readRoad_43 (by decide) ?_
  refine lv_icmp_ne (tgt := 50) hx hb dX7_readRoad_45 (by decide) (fun c_4 => ?_) (fun c_4 => absurd c_4 h3)
  refine lv_aload_n hx hb dX7_readRoad_50 rfl (lv_at hl 2 rfl) ?_
  refine gM_getr hx hb hts in_X7 hown hK hL hG 4 (by decide) rfl hL.2.2.1 k_1 (fun _ h => h) dX7_readRoad_51 ?_
  refine lv_bipush (v := 10) hx hb dX7_readRoad_54 (by decide) ?_
  refine lv_iload_n hx hb dX7_readRoad_56 rfl (lv_at hl 1 rfl) ?_
  refine lv_imul hx hb dX7_readRoad_57 ?_
  refine lv_iload_n hx hb dX7_readRoad_58 rfl (lv_at hl 0 rfl) ?_
  refine lv_iadd hx hb dX7_readRoad_59 ?_
  refine g_callS (As := [.ref (gad Γ 485), .int ((10 * (qX7_digit_v A T 0 1)) + (qX7_digit_v (qX7_digit_A A T 0 1) T 1 9))]) (rest := []) (st1 := []) hF (mX7_clear (mS M (qX7_digit_A (qX7_digit_A A T 0 1) T 1 9) T D N V I K B) R O (hL.1 485 (by decide) (by decide)) (show gC 485 = (9, 26, 0) from rfl) (show gLen 485 = 131 from rfl) D (((10 * (qX7_digit_v A T 0 1)) + (qX7_digit_v (qX7_digit_A A T 0 1) T 1 9)).toNatClampNeg) ((sz_a h2 (digit_pl h3).1 (digit_pl h3).2.1).1) (sz_a h2 (digit_pl h3).1 (digit_pl h3).2.1).2) (va_cwS 2 hts gX7_readRoad_X7_clear rfl rfl rfl (by decide +kernel) ⟨Nat.le_of_ble_eq_true rfl, Nat.le_of_ble_eq_true rfl⟩) hK hZ (g_st (show _ = va_up (mS M (qX7_digit_A (qX7_digit_A A T 0 1) T 1 9) T D N V I K B) 26 D from (mS_u26 _ _ _ _ _ _ _ _ _ _).symm) hG) hS rfl hl.1 (Nat.le_of_ble_eq_true rfl) dX7_readRoad_60 ⟨Nat.zero_le _, Nat.zero_le _⟩ rfl rfl (fun H locs hG hS => ?_)
  replace hG : GH Γ (mS M (qX7_digit_A (qX7_digit_A A T 0 1) T 1 9) T (fX7_clear_P D (((10 * (qX7_digit_v A T 0 1)) + (qX7_digit_v (qX7_digit_A A T 0 1) T 1 9)).toNatClampNeg)) N V I K B) R O H := g_st (mS_u26 _ _ _ _ _ _ _ _ _ _) hG
  refine lv_iconst (v := 0) hx hb dX7_readRoad_63 (by decide) ?_
  refine lv_istore_n (lv' := [(3, .int 0), (2, .int (qX7_digit_v (qX7_digit_A A T 0 1) T 1 9)), (1, .int (qX7_digit_v A T 0 1)), (0, .ref (gad Γ 483))]) hx hb dX7_readRoad_64 rfl hl (by decide) rfl (fun ls hl => ?_)
  refine g_loop (N := kx) (fun k H locs ls => GH Γ (mS M ((fX7_sur_L T (qX7_digit_A (qX7_digit_A A T 0 1) T 1 9) (fX7_clear_P D (((10 * (qX7_digit_v A T 0 1)) + (qX7_digit_v (qX7_digit_A A T 0 1) T 1 9)).toNatClampNeg)) k).1) T ((fX7_sur_L T (qX7_digit_A (qX7_digit_A A T 0 1) T 1 9) (fX7_clear_P D (((10 * (qX7_digit_v A T 0 1)) + (qX7_digit_v (qX7_digit_A A T 0 1) T 1 9)).toNatClampNeg)) k).2) N V I K B) R O H ∧ va_S (gA Γ) s.heap H locs ∧ lv_has ls 5 [(0, .ref (gad Γ 483)), (3, .int (nI k))]) ?_ ?_ 0 (Nat.zero_le _) _ _ _ ⟨hG, hS, lv_sub hl [3, 0] rfl⟩
  · rintro H locs ls ⟨hG, hS, hl⟩
    have d0 := (sz_a h2 (digit_pl h3).1 (digit_pl h3).2.1).2
    have kp := sur_keeps (T := T) (A := (qX7_digit_A (qX7_digit_A A T 0 1) T 1 9)) (D := (fX7_clear_P D (((10 * (qX7_digit_v A T 0 1)) + (qX7_digit_v (qX7_digit_A A T 0 1) T 1 9)).toNatClampNeg))) (RA_digit (RA_digit hA)) (WS_clear D (sz_a h2 (digit_pl h3).1 (digit_pl h3).2.1).2) kx (by omega)
    have e0 : (fX7_sur_L T (qX7_digit_A (qX7_digit_A A T 0 1) T 1 9) (fX7_clear_P D (((10 * (qX7_digit_v A T 0 1)) + (qX7_digit_v (qX7_digit_A A T 0 1) T 1 9)).toNatClampNeg)) kx).2 0 = nI (((10 * (qX7_digit_v A T 0 1)) + (qX7_digit_v (qX7_digit_A A T 0 1) T 1 9)).toNatClampNeg) := (kp.2.2 0 (by decide)).trans (by rw [clear_at D _ 0 (by decide), if_pos rfl])
    refine lv_iload_n hx hb dX7_readRoad_65 rfl (lv_at hl 1 rfl) ?_
    refine lv_aload_n hx hb dX7_readRoad_66 rfl (lv_at hl 0 rfl) ?_
    refine gM_getr hx hb hts in_X7 hown hK hL hG 4 (by decide) rfl hL.2.2.1 k_1 (fun _ h => h) dX7_readRoad_67 ?_
    refine lv_iconst (v := 0) hx hb dX7_readRoad_70 (by decide) ?_
    refine gm_ald hx hb hK hG (hL.1 485 (by decide) (by decide)) (show gC 485 = (9, 26, 0) from rfl) (show gLen 485 = 131 from rfl) (by decide) (j := 0) rfl (by omega) (v := ((fX7_sur_L T (qX7_digit_A (qX7_digit_A A T 0 1) T 1 9) (fX7_clear_P D (((10 * (qX7_digit_v A T 0 1)) + (qX7_digit_v (qX7_digit_A A T 0 1) T 1 9)).toNatClampNeg)) kx).2) 0) (mS_a26 _ _ _ _ _ _ _ _ _ _) dX7_readRoad_71 ?_
    refine lv_icmp_ge (tgt := 109) hx hb dX7_readRoad_72 (by decide) (fun c_5 => absurd c_5 (by rw [e0]; exact i32_lt_nle (nI_lt (by omega) (by omega)))) (fun c_5 => ?_)
    refine lv_aload_n hx hb dX7_readRoad_75 rfl (lv_at hl 0 rfl) ?_
    refine lv_iconst (v := 0) hx hb dX7_readRoad_76 (by decide) ?_
    refine lv_iconst (v := 2) hx hb dX7_readRoad_77 (by decide) ?_
    refine g_callV (As := [.int 0, .int 2]) (rest := []) (st1 := [.int (qX7_digit_v ((fX7_sur_L T (qX7_digit_A (qX7_digit_A A T 0 1) T 1 9) (fX7_clear_P D (((10 * (qX7_digit_v A T 0 1)) + (qX7_digit_v (qX7_digit_A A T 0 1) T 1 9)).toNatClampNeg)) kx).1) T 0 2)]) hF (mX7_digit_q M R O hL ((fX7_sur_L T (qX7_digit_A (qX7_digit_A A T 0 1) T 1 9) (fX7_clear_P D (((10 * (qX7_digit_v A T 0 1)) + (qX7_digit_v (qX7_digit_A A T 0 1) T 1 9)).toNatClampNeg)) kx).1) T ((fX7_sur_L T (qX7_digit_A (qX7_digit_A A T 0 1) T 1 9) (fX7_clear_P D (((10 * (qX7_digit_v A T 0 1)) + (qX7_digit_v (qX7_digit_A A T 0 1) T 1 9)).toNatClampNeg)) kx).2) N V I K B 0 2 kp.1) (cwV 2 hts gX7_readRoad_X7_digit rfl rfl rfl (by decide +kernel) ⟨Nat.le_of_ble_eq_true rfl, Nat.le_of_ble_eq_true rfl⟩) hK hZ hG hS (hL.1 483 (by decide) (by decide)) (show gC 483 = (7, 24, 0) from rfl) (by decide) rfl rfl hl.1 (Nat.le_of_ble_eq_true rfl) dX7_readRoad_78 ⟨Nat.zero_le _, Nat.zero_le _⟩ rfl rfl (fun H locs hG hS => ?_)
    refine lv_istore (lv' := [(4, .int (qX7_digit_v ((fX7_sur_L T (qX7_digit_A (qX7_digit_A A T 0 1) T 1 9) (fX7_clear_P D (((10 * (qX7_digit_v A T 0 1)) + (qX7_digit_v (qX7_digit_A A T 0 1) T 1 9)).toNatClampNeg)) kx).1) T 0 2)), (0, .ref (gad Γ 483)), (3, .int (nI kx))]) hx hb dX7_readRoad_81 hl (by decide) rfl (fun ls hl => ?_)
    refine lv_iload hx hb dX7_readRoad_83 (lv_at hl 0 rfl) ?_
    refine lv_bipush (v := (-9)) hx hb dX7_readRoad_85 (by decide) ?_
    refine lv_icmp_ne (tgt := 92) hx hb dX7_readRoad_87 (by decide) (fun c_6 => absurd hyes c_6) (fun c_6 => ?_)
    refine lv_iconst (v := 0) hx hb dX7_readRoad_90 (by decide) ?_
    exact g_zret hx hb hrt hlocks hS hG (by decide) rfl rfl dX7_readRoad_91
  · rintro k hk_k ih_k H locs ls ⟨hG, hS, hl⟩
    have d0 := (sz_a h2 (digit_pl h3).1 (digit_pl h3).2.1).2
    have kp := (sur_keeps (T := T) (A := (qX7_digit_A (qX7_digit_A A T 0 1) T 1 9)) (D := (fX7_clear_P D (((10 * (qX7_digit_v A T 0 1)) + (qX7_digit_v (qX7_digit_A A T 0 1) T 1 9)).toNatClampNeg))) (RA_digit (RA_digit hA)) (WS_clear D (sz_a h2 (digit_pl h3).1 (digit_pl h3).2.1).2) k (by omega))
    have e0 : (fX7_sur_L T (qX7_digit_A (qX7_digit_A A T 0 1) T 1 9) (fX7_clear_P D (((10 * (qX7_digit_v A T 0 1)) + (qX7_digit_v (qX7_digit_A A T 0 1) T 1 9)).toNatClampNeg)) k).2 0 = nI (((10 * (qX7_digit_v A T 0 1)) + (qX7_digit_v (qX7_digit_A A T 0 1) T 1 9)).toNatClampNeg) := (kp.2.2 0 (by decide)).trans (by rw [clear_at D _ 0 (by decide), if_pos rfl])
    refine lv_iload_n hx hb dX7_readRoad_65 rfl (lv_at hl 1 rfl) ?_
    refine lv_aload_n hx hb dX7_readRoad_66 rfl (lv_at hl 0 rfl) ?_
    refine gM_getr hx hb hts in_X7 hown hK hL hG 4 (by decide) rfl hL.2.2.1 k_1 (fun _ h => h) dX7_readRoad_67 ?_
    refine lv_iconst (v := 0) hx hb dX7_readRoad_70 (by decide) ?_
    refine gm_ald hx hb hK hG (hL.1 485 (by decide) (by decide)) (show gC 485 = (9, 26, 0) from rfl) (show gLen 485 = 131 from rfl) (by decide) (j := 0) rfl (by omega) (v := ((fX7_sur_L T (qX7_digit_A (qX7_digit_A A T 0 1) T 1 9) (fX7_clear_P D (((10 * (qX7_digit_v A T 0 1)) + (qX7_digit_v (qX7_digit_A A T 0 1) T 1 9)).toNatClampNeg)) k).2) 0) (mS_a26 _ _ _ _ _ _ _ _ _ _) dX7_readRoad_71 ?_
    refine lv_icmp_ge (tgt := 109) hx hb dX7_readRoad_72 (by decide) (fun c_7 => absurd c_7 (by rw [e0]; exact i32_lt_nle (nI_lt (by omega) (by omega)))) (fun c_7 => ?_)
    refine lv_aload_n hx hb dX7_readRoad_75 rfl (lv_at hl 0 rfl) ?_
    refine lv_iconst (v := 0) hx hb dX7_readRoad_76 (by decide) ?_
    refine lv_iconst (v := 2) hx hb dX7_readRoad_77 (by decide) ?_
    refine g_callV (As := [.int 0, .int 2]) (rest := []) (st1 := [.int (qX7_digit_v ((fX7_sur_L T (qX7_digit_A (qX7_digit_A A T 0 1) T 1 9) (fX7_clear_P D (((10 * (qX7_digit_v A T 0 1)) + (qX7_digit_v (qX7_digit_A A T 0 1) T 1 9)).toNatClampNeg)) k).1) T 0 2)]) hF (mX7_digit_q M R O hL ((fX7_sur_L T (qX7_digit_A (qX7_digit_A A T 0 1) T 1 9) (fX7_clear_P D (((10 * (qX7_digit_v A T 0 1)) + (qX7_digit_v (qX7_digit_A A T 0 1) T 1 9)).toNatClampNeg)) k).1) T ((fX7_sur_L T (qX7_digit_A (qX7_digit_A A T 0 1) T 1 9) (fX7_clear_P D (((10 * (qX7_digit_v A T 0 1)) + (qX7_digit_v (qX7_digit_A A T 0 1) T 1 9)).toNatClampNeg)) k).2) N V I K B 0 2 kp.1) (cwV 2 hts gX7_readRoad_X7_digit rfl rfl rfl (by decide +kernel) ⟨Nat.le_of_ble_eq_true rfl, Nat.le_of_ble_eq_true rfl⟩) hK hZ hG hS (hL.1 483 (by decide) (by decide)) (show gC 483 = (7, 24, 0) from rfl) (by decide) rfl rfl hl.1 (Nat.le_of_ble_eq_true rfl) dX7_readRoad_78 ⟨Nat.zero_le _, Nat.zero_le _⟩ rfl rfl (fun H locs hG hS => ?_)
    refine lv_istore (lv' := [(4, .int (qX7_digit_v ((fX7_sur_L T (qX7_digit_A (qX7_digit_A A T 0 1) T 1 9) (fX7_clear_P D (((10 * (qX7_digit_v A T 0 1)) + (qX7_digit_v (qX7_digit_A A T 0 1) T 1 9)).toNatClampNeg)) k).1) T 0 2)), (0, .ref (gad Γ 483)), (3, .int (nI k))]) hx hb dX7_readRoad_81 hl (by decide) rfl (fun ls hl => ?_)
    refine lv_iload hx hb dX7_readRoad_83 (lv_at hl 0 rfl) ?_
    refine lv_bipush (v := (-9)) hx hb dX7_readRoad_85 (by decide) ?_
    refine lv_icmp_ne (tgt := 92) hx hb dX7_readRoad_87 (by decide) (fun c_8 => ?_) (fun c_8 => absurd c_8 (hno k hk_k))
    refine lv_aload_n hx hb dX7_readRoad_92 rfl (lv_at hl 1 rfl) ?_
    refine gM_getr hx hb hts in_X7 hown hK hL hG 4 (by decide) rfl hL.2.2.1 k_1 (fun _ h => h) dX7_readRoad_93 ?_
    refine lv_iload_n hx hb dX7_readRoad_96 rfl (lv_at hl 2 rfl) ?_
    refine g_callS (As := [.int (nI k)]) (rest := [.ref (gad Γ 485)]) (st1 := [.int (nI (12 + 7 * k)), .ref (gad Γ 485)]) hF (mX7_segmentAt _ R O k rfl) (va_cwS 1 hts gX7_readRoad_X7_segmentAt rfl rfl rfl (by decide +kernel) ⟨Nat.le_of_ble_eq_true rfl, Nat.le_of_ble_eq_true rfl⟩) hK hZ hG hS rfl hl.1 (Nat.le_of_ble_eq_true rfl) dX7_readRoad_97 ⟨Nat.zero_le _, Nat.zero_le _⟩ rfl rfl (fun H locs hG hS => ?_)
    refine lv_iload hx hb dX7_readRoad_100 (lv_at hl 0 rfl) ?_
    refine gm_ast (M2 := mS M (qX7_digit_A ((fX7_sur_L T (qX7_digit_A (qX7_digit_A A T 0 1) T 1 9) (fX7_clear_P D (((10 * (qX7_digit_v A T 0 1)) + (qX7_digit_v (qX7_digit_A A T 0 1) T 1 9)).toNatClampNeg)) k).1) T 0 2) T (upd ((fX7_sur_L T (qX7_digit_A (qX7_digit_A A T 0 1) T 1 9) (fX7_clear_P D (((10 * (qX7_digit_v A T 0 1)) + (qX7_digit_v (qX7_digit_A A T 0 1) T 1 9)).toNatClampNeg)) k).2) (12 + 7 * k) (qX7_digit_v ((fX7_sur_L T (qX7_digit_A (qX7_digit_A A T 0 1) T 1 9) (fX7_clear_P D (((10 * (qX7_digit_v A T 0 1)) + (qX7_digit_v (qX7_digit_A A T 0 1) T 1 9)).toNatClampNeg)) k).1) T 0 2)) N V I K B) hx hb hK hG hS (hL.1 485 (by decide) (by decide)) (show gC 485 = (9, 26, 0) from rfl) (show gLen 485 = 131 from rfl) (by decide) (j := 12 + 7 * k) rfl (by omega) (mS_p26 _ _ _ _ _ _ _ _ _ _ _) dX7_readRoad_102 (fun H locs hG hS => ?_)
    refine lv_iinc (v := nI (k + 1)) (lv' := [(3, .int (nI (k + 1))), (4, .int (qX7_digit_v ((fX7_sur_L T (qX7_digit_A (qX7_digit_A A T 0 1) T 1 9) (fX7_clear_P D (((10 * (qX7_digit_v A T 0 1)) + (qX7_digit_v (qX7_digit_A A T 0 1) T 1 9)).toNatClampNeg)) k).1) T 0 2)), (0, .ref (gad Γ 483))]) hx hb dX7_readRoad_103 hl (k := 2) rfl (nI_1 _) (by decide) rfl (fun ls hl => ?_)
    refine lv_goto (tgt := 65) hx hb dX7_readRoad_106 (by decide) ?_
    exact ih_k _ _ _ ⟨hG, hS, lv_sub hl [2, 0] rfl⟩

set_option maxHeartbeats 4000000 in
set_option maxRecDepth 100000 in
theorem mX7_readRoad_nb {l : Launch} {Γ : gX} (M : Nat → Nat → Int32) (R : Nat → Nat → Option Nat) (O : Int64) (hL : LM Γ R) (A T D N V I K B : Nat → Int32) (hA : RA A) (hD : WS D) (h1 : ¬ (qX7_digit_v A T 0 1) = (-9)) (h2 : ¬ (qX7_digit_v A T 0 1) = 0) (h3 : qX7_digit_v (qX7_digit_A A T 0 1) T 0 0 = (-9)) : gMet l Γ yX7_readRoad wsX7_readRoad 2 49 [.ref (gad Γ 483)] (mS M A T D N V I K B) R O (some (.int 0)) (mS M (qX7_digit_A (qX7_digit_A A T 0 1) T 0 0) T D N V I K B) R O := by
  refine g_start (cc := cX7_readRoad) (maxL := 5) (ret := (some .boolean)) (by decide) rfl (Nat.le_of_ble_eq_true rfl) ?_
  intro p e s m below meth c ls hx hb hml hrt hts hown hlocks hname hK hZ hG hS hl
  have hl : lv_has ls 5 [(0, .ref (gad Γ 483))] := hl
  have hown : s.vm.findClass RX7 = some m.cls := hown
  have hF : CallFix p m c cX7_readRoad 5 s _ wsX7_readRoad RX7 := ⟨hx, hb, hml, hown, hts⟩
  refine lv_aload_n hx hb dX7_readRoad_0 rfl (lv_at hl 0 rfl) ?_
  refine lv_iconst (v := 0) hx hb dX7_readRoad_1 (by decide) ?_
  refine lv_iconst (v := 1) hx hb dX7_readRoad_2 (by decide) ?_
  refine g_callV (As := [.int 0, .int 1]) (rest := []) (st1 := [.int (qX7_digit_v A T 0 1)]) hF (mX7_digit_q M R O hL A T D N V I K B 0 1 hA) (cwV 2 hts gX7_readRoad_X7_digit rfl rfl rfl (by decide +kernel) ⟨Nat.le_of_ble_eq_true rfl, Nat.le_of_ble_eq_true rfl⟩) hK hZ hG hS (hL.1 483 (by decide) (by decide)) (show gC 483 = (7, 24, 0) from rfl) (by decide) rfl rfl hl.1 (Nat.le_of_ble_eq_true rfl) dX7_readRoad_3 ⟨Nat.zero_le _, Nat.zero_le _⟩ rfl rfl (fun H locs hG hS => ?_)
  refine lv_istore_n (lv' := [(1, .int (qX7_digit_v A T 0 1)), (0, .ref (gad Γ 483))]) hx hb dX7_readRoad_6 rfl hl (by decide) rfl (fun ls hl => ?_)
  refine lv_iload_n hx hb dX7_readRoad_7 rfl (lv_at hl 0 rfl) ?_
  refine lv_bipush (v := (-9)) hx hb dX7_readRoad_8 (by decide) ?_
  refine lv_icmp_ne (tgt := 18) hx hb dX7_readRoad_10 (by decide) (fun c_1 => ?_) (fun c_1 => absurd c_1 h1)
  refine lv_aload_n hx hb dX7_readRoad_18 rfl (lv_at hl 1 rfl) ?_
  refine lv_iload_n hx hb dX7_readRoad_19 rfl (lv_at hl 0 rfl) ?_
  refine lv_if_ne (tgt := 27) hx hb dX7_readRoad_20 (by decide) (fun c_2 => ?_) (fun c_2 => absurd c_2 h2)
  refine lv_iconst (v := 0) hx hb dX7_readRoad_27 (by decide) ?_
  refine lv_iload_n hx hb dX7_readRoad_28 rfl (lv_at hl 0 rfl) ?_
  refine lv_if_ne (tgt := 37) hx hb dX7_readRoad_29 (by decide) (fun c_3 => ?_) (fun c_3 => absurd c_3 h2)
  refine lv_iconst (v := 0) hx hb dX7_readRoad_37 (by decide) ?_
  refine g_callV (As := [.int 0, .int 0]) (rest := []) (st1 := [.int (qX7_digit_v (qX7_digit_A A T 0 1) T 0 0)]) hF (mX7_digit_q M R O hL (qX7_digit_A A T 0 1) T D N V I K B 0 0 (RA_digit hA)) (cwV 2 hts gX7_readRoad_X7_digit rfl rfl rfl (by decide +kernel) ⟨Nat.le_of_ble_eq_true rfl, Nat.le_of_ble_eq_true rfl⟩) hK hZ hG hS (hL.1 483 (by decide) (by decide)) (show gC 483 = (7, 24, 0) from rfl) (by decide) rfl rfl hl.1 (Nat.le_of_ble_eq_true rfl) dX7_readRoad_38 ⟨Nat.zero_le _, Nat.zero_le _⟩ rfl rfl (fun H locs hG hS => ?_)
  refine lv_istore_n (lv' := [(2, .int (qX7_digit_v (qX7_digit_A A T 0 1) T 0 0)), (1, .int (qX7_digit_v A T 0 1)), (0, .ref (gad Γ 483))]) hx hb dX7_readRoad_41 rfl hl (by decide) rfl (fun ls hl => ?_)
  refine lv_iload_n hx hb dX7_readRoad_42 rfl (lv_at hl 0 rfl) ?_
  refine lv_bipush (v := (-9)) hx hb dX7_readRoad_43 (by decide) ?_
  refine lv_icmp_ne (tgt := 50) hx hb dX7_readRoad_45 (by decide) (fun c_4 => absurd h3 c_4) (fun c_4 => ?_)
  refine lv_iconst (v := 0) hx hb dX7_readRoad_48 (by decide) ?_
  exact g_zret hx hb hrt hlocks hS hG (by decide) rfl rfl dX7_readRoad_49

set_option maxHeartbeats 4000000 in
set_option maxRecDepth 100000 in
theorem mX7_readRoad_yb {l : Launch} {Γ : gX} (M : Nat → Nat → Int32) (R : Nat → Nat → Option Nat) (O : Int64) (hL : LM Γ R) (A T D N V I K B : Nat → Int32) (hA : RA A) (hD : WS D) (h1 : ¬ (qX7_digit_v A T 0 1) = (-9)) (h2 : ¬ (qX7_digit_v A T 0 1) = 0) (h3 : ¬ qX7_digit_v (qX7_digit_A A T 0 1) T 0 0 = (-9)) (hno : ∀ j, j < (((10 * (qX7_digit_v A T 0 1)) + (qX7_digit_v (qX7_digit_A A T 0 1) T 0 0)).toNatClampNeg) → ¬ qX7_digit_v (fX7_sur_L T (qX7_digit_A (qX7_digit_A A T 0 1) T 0 0) (fX7_clear_P D (((10 * (qX7_digit_v A T 0 1)) + (qX7_digit_v (qX7_digit_A A T 0 1) T 0 0)).toNatClampNeg)) j).1 T 0 2 = -9) : gMet l Γ yX7_readRoad wsX7_readRoad 2 49 [.ref (gad Γ 483)] (mS M A T D N V I K B) R O (some (.int 1)) (mS M ((fX7_sur_L T (qX7_digit_A (qX7_digit_A A T 0 1) T 0 0) (fX7_clear_P D (((10 * (qX7_digit_v A T 0 1)) + (qX7_digit_v (qX7_digit_A A T 0 1) T 0 0)).toNatClampNeg)) (((10 * (qX7_digit_v A T 0 1)) + (qX7_digit_v (qX7_digit_A A T 0 1) T 0 0)).toNatClampNeg)).1) T ((fX7_sur_L T (qX7_digit_A (qX7_digit_A A T 0 1) T 0 0) (fX7_clear_P D (((10 * (qX7_digit_v A T 0 1)) + (qX7_digit_v (qX7_digit_A A T 0 1) T 0 0)).toNatClampNeg)) (((10 * (qX7_digit_v A T 0 1)) + (qX7_digit_v (qX7_digit_A A T 0 1) T 0 0)).toNatClampNeg)).2) N V I K B) R O := by
  refine g_start (cc := cX7_readRoad) (maxL := 5) (ret := (some .boolean)) (by decide) rfl (Nat.le_of_ble_eq_true rfl) ?_
  intro p e s m below meth c ls hx hb hml hrt hts hown hlocks hname hK hZ hG hS hl
  have hl : lv_has ls 5 [(0, .ref (gad Γ 483))] := hl
  have hown : s.vm.findClass RX7 = some m.cls := hown
  have hF : CallFix p m c cX7_readRoad 5 s _ wsX7_readRoad RX7 := ⟨hx, hb, hml, hown, hts⟩
  have k_1 : (Cond.fieldLink RX7 13 "RoadDustModel" "read" "[I").before _ s = true := hts _ (by decide +kernel)
  have in_X7 : ∀ w ∈ wsX70, w ∈ wsX7_readRoad := by decide +kernel
  have d0 := (sz_b h2 (digit_pl h1).1 (digit_pl h1).2.1 (digit_pl h1).2.2.2 (digit_pl h3).1 (digit_pl h3).2.1 (digit_pl h3).2.2.2).2
  refine lv_aload_n hx hb dX7_readRoad_0 rfl (lv_at hl 0 rfl) ?_
  refine lv_iconst (v := 0) hx hb dX7_readRoad_1 (by decide) ?_
  refine lv_iconst (v := 1) hx hb dX7_readRoad_2 (by decide) ?_
  refine g_callV (As := [.int 0, .int 1]) (rest := []) (st1 := [.int (qX7_digit_v A T 0 1)]) hF (mX7_digit_q M R O hL A T D N V I K B 0 1 hA) (cwV 2 hts gX7_readRoad_X7_digit rfl rfl rfl (by decide +kernel) ⟨Nat.le_of_ble_eq_true rfl, Nat.le_of_ble_eq_true rfl⟩) hK hZ hG hS (hL.1 483 (by decide) (by decide)) (show gC 483 = (7, 24, 0) from rfl) (by decide) rfl rfl hl.1 (Nat.le_of_ble_eq_true rfl) dX7_readRoad_3 ⟨Nat.zero_le _, Nat.zero_le _⟩ rfl rfl (fun H locs hG hS => ?_)
  refine lv_istore_n (lv' := [(1, .int (qX7_digit_v A T 0 1)), (0, .ref (gad Γ 483))]) hx hb dX7_readRoad_6 rfl hl (by decide) rfl (fun ls hl => ?_)
  refine lv_iload_n hx hb dX7_readRoad_7 rfl (lv_at hl 0 rfl) ?_
  refine lv_bipush (v := (-9)) hx hb dX7_readRoad_8 (by decide) ?_
  refine lv_icmp_ne (tgt := 18) hx hb dX7_readRoad_10 (by decide) (fun c_1 => ?_) (fun c_1 => absurd c_1 h1)
  refine lv_aload_n hx hb dX7_readRoad_18 rfl (lv_at hl 1 rfl) ?_
  refine lv_iload_n hx hb dX7_readRoad_19 rfl (lv_at hl 0 rfl) ?_
  refine lv_if_ne (tgt := 27) hx hb dX7_readRoad_20 (by decide) (fun c_2 => ?_) (fun c_2 => absurd c_2 h2)
  refine lv_iconst (v := 0) hx hb dX7_readRoad_27 (by decide) ?_
  refine lv_iload_n hx hb dX7_readRoad_28 rfl (lv_at hl 0 rfl) ?_
  refine lv_if_ne (tgt := 37) hx hb dX7_readRoad_29 (by decide) (fun c_3 => ?_) (fun c_3 => absurd c_3 h2)
  refine lv_iconst (v := 0) hx hb dX7_readRoad_37 (by decide) ?_
  refine g_callV (As := [.int 0, .int 0]) (rest := []) (st1 := [.int (qX7_digit_v (qX7_digit_A A T 0 1) T 0 0)]) hF (mX7_digit_q M R O hL (qX7_digit_A A T 0 1) T D N V I K B 0 0 (RA_digit hA)) (cwV 2 hts gX7_readRoad_X7_digit rfl rfl rfl (by decide +kernel) ⟨Nat.le_of_ble_eq_true rfl, Nat.le_of_ble_eq_true rfl⟩) hK hZ hG hS (hL.1 483 (by decide) (by decide)) (show gC 483 = (7, 24, 0) from rfl) (by decide) rfl rfl hl.1 (Nat.le_of_ble_eq_true rfl) dX7_readRoad_38 ⟨Nat.zero_le _, Nat.zero_le _⟩ rfl rfl (fun H locs hG hS => ?_)
  refine lv_istore_n (lv' := [(2, .int (qX7_digit_v (qX7_digit_A A T 0 1) T 0 0)), (1, .int (qX7_digit_v A T 0 1)), (0, .ref (gad Γ 483))]) hx hb dX7_readRoad_41 rfl hl (by decide) rfl (fun ls hl => ?_)
  refine lv_iload_n hx hb dX7_readRoad_42 rfl (lv_at hl 0 rfl) ?_
  refine lv_bipush (v := (-9)) hx hb dX7_readRoad_43 (by decide) ?_
  refine lv_icmp_ne (tgt := 50) hx hb dX7_readRoad_45 (by decide) (fun c_4 => ?_) (fun c_4 => absurd c_4 h3)
  refine lv_aload_n hx hb dX7_readRoad_50 rfl (lv_at hl 2 rfl) ?_
  refine gM_getr hx hb hts in_X7 hown hK hL hG 4 (by decide) rfl hL.2.2.1 k_1 (fun _ h => h) dX7_readRoad_51 ?_
  refine lv_bipush (v := 10) hx hb dX7_readRoad_54 (by decide) ?_
  refine lv_iload_n hx hb dX7_readRoad_56 rfl (lv_at hl 1 rfl) ?_
  refine lv_imul hx hb dX7_readRoad_57 ?_
  refine lv_iload_n hx hb dX7_readRoad_58 rfl (lv_at hl 0 rfl) ?_
  refine lv_iadd hx hb dX7_readRoad_59 ?_
  refine g_callS (As := [.ref (gad Γ 485), .int ((10 * (qX7_digit_v A T 0 1)) + (qX7_digit_v (qX7_digit_A A T 0 1) T 0 0))]) (rest := []) (st1 := []) hF (mX7_clear (mS M (qX7_digit_A (qX7_digit_A A T 0 1) T 0 0) T D N V I K B) R O (hL.1 485 (by decide) (by decide)) (show gC 485 = (9, 26, 0) from rfl) (show gLen 485 = 131 from rfl) D (((10 * (qX7_digit_v A T 0 1)) + (qX7_digit_v (qX7_digit_A A T 0 1) T 0 0)).toNatClampNeg) ((sz_b h2 (digit_pl h1).1 (digit_pl h1).2.1 (digit_pl h1).2.2.2 (digit_pl h3).1 (digit_pl h3).2.1 (digit_pl h3).2.2.2).1) (sz_b h2 (digit_pl h1).1 (digit_pl h1).2.1 (digit_pl h1).2.2.2 (digit_pl h3).1 (digit_pl h3).2.1 (digit_pl h3).2.2.2).2) (va_cwS 2 hts gX7_readRoad_X7_clear rfl rfl rfl (by decide +kernel) ⟨Nat.le_of_ble_eq_true rfl, Nat.le_of_ble_eq_true rfl⟩) hK hZ (g_st (show _ = va_up (mS M (qX7_digit_A (qX7_digit_A A T 0 1) T 0 0) T D N V I K B) 26 D from (mS_u26 _ _ _ _ _ _ _ _ _ _).symm) hG) hS rfl hl.1 (Nat.le_of_ble_eq_true rfl) dX7_readRoad_60 ⟨Nat.zero_le _, Nat.zero_le _⟩ rfl rfl (fun H locs hG hS => ?_)
  replace hG : GH Γ (mS M (qX7_digit_A (qX7_digit_A A T 0 1) T 0 0) T (fX7_clear_P D (((10 * (qX7_digit_v A T 0 1)) + (qX7_digit_v (qX7_digit_A A T 0 1) T 0 0)).toNatClampNeg)) N V I K B) R O H := g_st (mS_u26 _ _ _ _ _ _ _ _ _ _) hG
  refine lv_iconst (v := 0) hx hb dX7_readRoad_63 (by decide) ?_
  refine lv_istore_n (lv' := [(3, .int 0), (2, .int (qX7_digit_v (qX7_digit_A A T 0 1) T 0 0)), (1, .int (qX7_digit_v A T 0 1)), (0, .ref (gad Γ 483))]) hx hb dX7_readRoad_64 rfl hl (by decide) rfl (fun ls hl => ?_)
  refine g_loop (N := ((10 * (qX7_digit_v A T 0 1)) + (qX7_digit_v (qX7_digit_A A T 0 1) T 0 0)).toNatClampNeg) (fun k H locs ls => GH Γ (mS M ((fX7_sur_L T (qX7_digit_A (qX7_digit_A A T 0 1) T 0 0) (fX7_clear_P D (((10 * (qX7_digit_v A T 0 1)) + (qX7_digit_v (qX7_digit_A A T 0 1) T 0 0)).toNatClampNeg)) k).1) T ((fX7_sur_L T (qX7_digit_A (qX7_digit_A A T 0 1) T 0 0) (fX7_clear_P D (((10 * (qX7_digit_v A T 0 1)) + (qX7_digit_v (qX7_digit_A A T 0 1) T 0 0)).toNatClampNeg)) k).2) N V I K B) R O H ∧ va_S (gA Γ) s.heap H locs ∧ lv_has ls 5 [(0, .ref (gad Γ 483)), (3, .int (nI k))]) ?_ ?_ 0 (Nat.zero_le _) _ _ _ ⟨hG, hS, lv_sub hl [3, 0] rfl⟩
  · rintro H locs ls ⟨hG, hS, hl⟩
    have d0 := (sz_b h2 (digit_pl h1).1 (digit_pl h1).2.1 (digit_pl h1).2.2.2 (digit_pl h3).1 (digit_pl h3).2.1 (digit_pl h3).2.2.2).2
    have kp := sur_keeps (T := T) (A := (qX7_digit_A (qX7_digit_A A T 0 1) T 0 0)) (D := (fX7_clear_P D (((10 * (qX7_digit_v A T 0 1)) + (qX7_digit_v (qX7_digit_A A T 0 1) T 0 0)).toNatClampNeg))) (RA_digit (RA_digit hA)) (WS_clear D (sz_b h2 (digit_pl h1).1 (digit_pl h1).2.1 (digit_pl h1).2.2.2 (digit_pl h3).1 (digit_pl h3).2.1 (digit_pl h3).2.2.2).2) (((10 * (qX7_digit_v A T 0 1)) + (qX7_digit_v (qX7_digit_A A T 0 1) T 0 0)).toNatClampNeg) (by omega)
    have e0 : (fX7_sur_L T (qX7_digit_A (qX7_digit_A A T 0 1) T 0 0) (fX7_clear_P D (((10 * (qX7_digit_v A T 0 1)) + (qX7_digit_v (qX7_digit_A A T 0 1) T 0 0)).toNatClampNeg)) (((10 * (qX7_digit_v A T 0 1)) + (qX7_digit_v (qX7_digit_A A T 0 1) T 0 0)).toNatClampNeg)).2 0 = nI (((10 * (qX7_digit_v A T 0 1)) + (qX7_digit_v (qX7_digit_A A T 0 1) T 0 0)).toNatClampNeg) := (kp.2.2 0 (by decide)).trans (by rw [clear_at D _ 0 (by decide), if_pos rfl])
    refine lv_iload_n hx hb dX7_readRoad_65 rfl (lv_at hl 1 rfl) ?_
    refine lv_aload_n hx hb dX7_readRoad_66 rfl (lv_at hl 0 rfl) ?_
    refine gM_getr hx hb hts in_X7 hown hK hL hG 4 (by decide) rfl hL.2.2.1 k_1 (fun _ h => h) dX7_readRoad_67 ?_
    refine lv_iconst (v := 0) hx hb dX7_readRoad_70 (by decide) ?_
    refine gm_ald hx hb hK hG (hL.1 485 (by decide) (by decide)) (show gC 485 = (9, 26, 0) from rfl) (show gLen 485 = 131 from rfl) (by decide) (j := 0) rfl (by omega) (v := ((fX7_sur_L T (qX7_digit_A (qX7_digit_A A T 0 1) T 0 0) (fX7_clear_P D (((10 * (qX7_digit_v A T 0 1)) + (qX7_digit_v (qX7_digit_A A T 0 1) T 0 0)).toNatClampNeg)) (((10 * (qX7_digit_v A T 0 1)) + (qX7_digit_v (qX7_digit_A A T 0 1) T 0 0)).toNatClampNeg)).2) 0) (mS_a26 _ _ _ _ _ _ _ _ _ _) dX7_readRoad_71 ?_
    refine lv_icmp_ge (tgt := 109) hx hb dX7_readRoad_72 (by decide) (fun c_5 => ?_) (fun c_5 => absurd (by rw [e0]; exact nI_le (Nat.le_refl _) (by omega)) c_5)
    refine lv_iconst (v := 1) hx hb dX7_readRoad_109 (by decide) ?_
    exact g_zret hx hb hrt hlocks hS hG (by decide) rfl rfl dX7_readRoad_110
  · rintro k hk_k ih_k H locs ls ⟨hG, hS, hl⟩
    have d0 := (sz_b h2 (digit_pl h1).1 (digit_pl h1).2.1 (digit_pl h1).2.2.2 (digit_pl h3).1 (digit_pl h3).2.1 (digit_pl h3).2.2.2).2
    have kp := (sur_keeps (T := T) (A := (qX7_digit_A (qX7_digit_A A T 0 1) T 0 0)) (D := (fX7_clear_P D (((10 * (qX7_digit_v A T 0 1)) + (qX7_digit_v (qX7_digit_A A T 0 1) T 0 0)).toNatClampNeg))) (RA_digit (RA_digit hA)) (WS_clear D (sz_b h2 (digit_pl h1).1 (digit_pl h1).2.1 (digit_pl h1).2.2.2 (digit_pl h3).1 (digit_pl h3).2.1 (digit_pl h3).2.2.2).2) k (by omega))
    have e0 : (fX7_sur_L T (qX7_digit_A (qX7_digit_A A T 0 1) T 0 0) (fX7_clear_P D (((10 * (qX7_digit_v A T 0 1)) + (qX7_digit_v (qX7_digit_A A T 0 1) T 0 0)).toNatClampNeg)) k).2 0 = nI (((10 * (qX7_digit_v A T 0 1)) + (qX7_digit_v (qX7_digit_A A T 0 1) T 0 0)).toNatClampNeg) := (kp.2.2 0 (by decide)).trans (by rw [clear_at D _ 0 (by decide), if_pos rfl])
    refine lv_iload_n hx hb dX7_readRoad_65 rfl (lv_at hl 1 rfl) ?_
    refine lv_aload_n hx hb dX7_readRoad_66 rfl (lv_at hl 0 rfl) ?_
    refine gM_getr hx hb hts in_X7 hown hK hL hG 4 (by decide) rfl hL.2.2.1 k_1 (fun _ h => h) dX7_readRoad_67 ?_
    refine lv_iconst (v := 0) hx hb dX7_readRoad_70 (by decide) ?_
    refine gm_ald hx hb hK hG (hL.1 485 (by decide) (by decide)) (show gC 485 = (9, 26, 0) from rfl) (show gLen 485 = 131 from rfl) (by decide) (j := 0) rfl (by omega) (v := ((fX7_sur_L T (qX7_digit_A (qX7_digit_A A T 0 1) T 0 0) (fX7_clear_P D (((10 * (qX7_digit_v A T 0 1)) + (qX7_digit_v (qX7_digit_A A T 0 1) T 0 0)).toNatClampNeg)) k).2) 0) (mS_a26 _ _ _ _ _ _ _ _ _ _) dX7_readRoad_71 ?_
    refine lv_icmp_ge (tgt := 109) hx hb dX7_readRoad_72 (by decide) (fun c_6 => absurd c_6 (by rw [e0]; exact i32_lt_nle (nI_lt (by omega) (by omega)))) (fun c_6 => ?_)
    refine lv_aload_n hx hb dX7_readRoad_75 rfl (lv_at hl 0 rfl) ?_
    refine lv_iconst (v := 0) hx hb dX7_readRoad_76 (by decide) ?_
    refine lv_iconst (v := 2) hx hb dX7_readRoad_77 (by decide) ?_
    refine g_callV (As := [.int 0, .int 2]) (rest := []) (st1 := [.int (qX7_digit_v ((fX7_sur_L T (qX7_digit_A (qX7_digit_A A T 0 1) T 0 0) (fX7_clear_P D (((10 * (qX7_digit_v A T 0 1)) + (qX7_digit_v (qX7_digit_A A T 0 1) T 0 0)).toNatClampNeg)) k).1) T 0 2)]) hF (mX7_digit_q M R O hL ((fX7_sur_L T (qX7_digit_A (qX7_digit_A A T 0 1) T 0 0) (fX7_clear_P D (((10 * (qX7_digit_v A T 0 1)) + (qX7_digit_v (qX7_digit_A A T 0 1) T 0 0)).toNatClampNeg)) k).1) T ((fX7_sur_L T (qX7_digit_A (qX7_digit_A A T 0 1) T 0 0) (fX7_clear_P D (((10 * (qX7_digit_v A T 0 1)) + (qX7_digit_v (qX7_digit_A A T 0 1) T 0 0)).toNatClampNeg)) k).2) N V I K B 0 2 kp.1) (cwV 2 hts gX7_readRoad_X7_digit rfl rfl rfl (by decide +kernel) ⟨Nat.le_of_ble_eq_true rfl, Nat.le_of_ble_eq_true rfl⟩) hK hZ hG hS (hL.1 483 (by decide) (by decide)) (show gC 483 = (7, 24, 0) from rfl) (by decide) rfl rfl hl.1 (Nat.le_of_ble_eq_true rfl) dX7_readRoad_78 ⟨Nat.zero_le _, Nat.zero_le _⟩ rfl rfl (fun H locs hG hS => ?_)
    refine lv_istore (lv' := [(4, .int (qX7_digit_v ((fX7_sur_L T (qX7_digit_A (qX7_digit_A A T 0 1) T 0 0) (fX7_clear_P D (((10 * (qX7_digit_v A T 0 1)) + (qX7_digit_v (qX7_digit_A A T 0 1) T 0 0)).toNatClampNeg)) k).1) T 0 2)), (0, .ref (gad Γ 483)), (3, .int (nI k))]) hx hb dX7_readRoad_81 hl (by decide) rfl (fun ls hl => ?_)
    refine lv_iload hx hb dX7_readRoad_83 (lv_at hl 0 rfl) ?_
    refine lv_bipush (v := (-9)) hx hb dX7_readRoad_85 (by decide) ?_
    refine lv_icmp_ne (tgt := 92) hx hb dX7_readRoad_87 (by decide) (fun c_7 => ?_) (fun c_7 => absurd c_7 (hno k hk_k))
    refine lv_aload_n hx hb dX7_readRoad_92 rfl (lv_at hl 1 rfl) ?_
    refine gM_getr hx hb hts in_X7 hown hK hL hG 4 (by decide) rfl hL.2.2.1 k_1 (fun _ h => h) dX7_readRoad_93 ?_
    refine lv_iload_n hx hb dX7_readRoad_96 rfl (lv_at hl 2 rfl) ?_
    refine g_callS (As := [.int (nI k)]) (rest := [.ref (gad Γ 485)]) (st1 := [.int (nI (12 + 7 * k)), .ref (gad Γ 485)]) hF (mX7_segmentAt _ R O k rfl) (va_cwS 1 hts gX7_readRoad_X7_segmentAt rfl rfl rfl (by decide +kernel) ⟨Nat.le_of_ble_eq_true rfl, Nat.le_of_ble_eq_true rfl⟩) hK hZ hG hS rfl hl.1 (Nat.le_of_ble_eq_true rfl) dX7_readRoad_97 ⟨Nat.zero_le _, Nat.zero_le _⟩ rfl rfl (fun H locs hG hS => ?_)
    refine lv_iload hx hb dX7_readRoad_100 (lv_at hl 0 rfl) ?_
    refine gm_ast (M2 := mS M (qX7_digit_A ((fX7_sur_L T (qX7_digit_A (qX7_digit_A A T 0 1) T 0 0) (fX7_clear_P D (((10 * (qX7_digit_v A T 0 1)) + (qX7_digit_v (qX7_digit_A A T 0 1) T 0 0)).toNatClampNeg)) k).1) T 0 2) T (upd ((fX7_sur_L T (qX7_digit_A (qX7_digit_A A T 0 1) T 0 0) (fX7_clear_P D (((10 * (qX7_digit_v A T 0 1)) + (qX7_digit_v (qX7_digit_A A T 0 1) T 0 0)).toNatClampNeg)) k).2) (12 + 7 * k) (qX7_digit_v ((fX7_sur_L T (qX7_digit_A (qX7_digit_A A T 0 1) T 0 0) (fX7_clear_P D (((10 * (qX7_digit_v A T 0 1)) + (qX7_digit_v (qX7_digit_A A T 0 1) T 0 0)).toNatClampNeg)) k).1) T 0 2)) N V I K B) hx hb hK hG hS (hL.1 485 (by decide) (by decide)) (show gC 485 = (9, 26, 0) from rfl) (show gLen 485 = 131 from rfl) (by decide) (j := 12 + 7 * k) rfl (by omega) (mS_p26 _ _ _ _ _ _ _ _ _ _ _) dX7_readRoad_102 (fun H locs hG hS => ?_)
    refine lv_iinc (v := nI (k + 1)) (lv' := [(3, .int (nI (k + 1))), (4, .int (qX7_digit_v ((fX7_sur_L T (qX7_digit_A (qX7_digit_A A T 0 1) T 0 0) (fX7_clear_P D (((10 * (qX7_digit_v A T 0 1)) + (qX7_digit_v (qX7_digit_A A T 0 1) T 0 0)).toNatClampNeg)) k).1) T 0 2)), (0, .ref (gad Γ 483))]) hx hb dX7_readRoad_103 hl (k := 2) rfl (nI_1 _) (by decide) rfl (fun ls hl => ?_)
    refine lv_goto (tgt := 65) hx hb dX7_readRoad_106 (by decide) ?_
    exact ih_k _ _ _ ⟨hG, hS, lv_sub hl [2, 0] rfl⟩

set_option maxHeartbeats 4000000 in
set_option maxRecDepth 100000 in
theorem mX7_readRoad_fb {l : Launch} {Γ : gX} (M : Nat → Nat → Int32) (R : Nat → Nat → Option Nat) (O : Int64) (hL : LM Γ R) (A T D N V I K B : Nat → Int32) (hA : RA A) (hD : WS D) (h1 : ¬ (qX7_digit_v A T 0 1) = (-9)) (h2 : ¬ (qX7_digit_v A T 0 1) = 0) (h3 : ¬ qX7_digit_v (qX7_digit_A A T 0 1) T 0 0 = (-9)) (kx : Nat) (hkx : kx < ((10 * (qX7_digit_v A T 0 1)) + (qX7_digit_v (qX7_digit_A A T 0 1) T 0 0)).toNatClampNeg) (hno : ∀ j, j < kx → ¬ qX7_digit_v (fX7_sur_L T (qX7_digit_A (qX7_digit_A A T 0 1) T 0 0) (fX7_clear_P D (((10 * (qX7_digit_v A T 0 1)) + (qX7_digit_v (qX7_digit_A A T 0 1) T 0 0)).toNatClampNeg)) j).1 T 0 2 = -9) (hyes : qX7_digit_v (fX7_sur_L T (qX7_digit_A (qX7_digit_A A T 0 1) T 0 0) (fX7_clear_P D (((10 * (qX7_digit_v A T 0 1)) + (qX7_digit_v (qX7_digit_A A T 0 1) T 0 0)).toNatClampNeg)) kx).1 T 0 2 = -9) : gMet l Γ yX7_readRoad wsX7_readRoad 2 49 [.ref (gad Γ 483)] (mS M A T D N V I K B) R O (some (.int 0)) (mS M (qX7_digit_A (fX7_sur_L T (qX7_digit_A (qX7_digit_A A T 0 1) T 0 0) (fX7_clear_P D (((10 * (qX7_digit_v A T 0 1)) + (qX7_digit_v (qX7_digit_A A T 0 1) T 0 0)).toNatClampNeg)) kx).1 T 0 2) T ((fX7_sur_L T (qX7_digit_A (qX7_digit_A A T 0 1) T 0 0) (fX7_clear_P D (((10 * (qX7_digit_v A T 0 1)) + (qX7_digit_v (qX7_digit_A A T 0 1) T 0 0)).toNatClampNeg)) kx).2) N V I K B) R O := by
  refine g_start (cc := cX7_readRoad) (maxL := 5) (ret := (some .boolean)) (by decide) rfl (Nat.le_of_ble_eq_true rfl) ?_
  intro p e s m below meth c ls hx hb hml hrt hts hown hlocks hname hK hZ hG hS hl
  have hl : lv_has ls 5 [(0, .ref (gad Γ 483))] := hl
  have hown : s.vm.findClass RX7 = some m.cls := hown
  have hF : CallFix p m c cX7_readRoad 5 s _ wsX7_readRoad RX7 := ⟨hx, hb, hml, hown, hts⟩
  have k_1 : (Cond.fieldLink RX7 13 "RoadDustModel" "read" "[I").before _ s = true := hts _ (by decide +kernel)
  have in_X7 : ∀ w ∈ wsX70, w ∈ wsX7_readRoad := by decide +kernel
  have d0 := (sz_b h2 (digit_pl h1).1 (digit_pl h1).2.1 (digit_pl h1).2.2.2 (digit_pl h3).1 (digit_pl h3).2.1 (digit_pl h3).2.2.2).2
  refine lv_aload_n hx hb dX7_readRoad_0 rfl (lv_at hl 0 rfl) ?_
  refine lv_iconst (v := 0) hx hb dX7_readRoad_1 (by decide) ?_
  refine lv_iconst (v := 1) hx hb dX7_readRoad_2 (by decide) ?_
  refine g_callV (As := [.int 0, .int 1]) (rest := []) (st1 := [.int (qX7_digit_v A T 0 1)]) hF (mX7_digit_q M R O hL A T D N V I K B 0 1 hA) (cwV 2 hts gX7_readRoad_X7_digit rfl rfl rfl (by decide +kernel) ⟨Nat.le_of_ble_eq_true rfl, Nat.le_of_ble_eq_true rfl⟩) hK hZ hG hS (hL.1 483 (by decide) (by decide)) (show gC 483 = (7, 24, 0) from rfl) (by decide) rfl rfl hl.1 (Nat.le_of_ble_eq_true rfl) dX7_readRoad_3 ⟨Nat.zero_le _, Nat.zero_le _⟩ rfl rfl (fun H locs hG hS => ?_)
  refine lv_istore_n (lv' := [(1, .int (qX7_digit_v A T 0 1)), (0, .ref (gad Γ 483))]) hx hb dX7_readRoad_6 rfl hl (by decide) rfl (fun ls hl => ?_)
  refine lv_iload_n hx hb dX7_readRoad_7 rfl (lv_at hl 0 rfl) ?_
  refine lv_bipush (v := (-9)) hx hb dX7_readRoad_8 (by decide) ?_
  refine lv_icmp_ne (tgt := 18) hx hb dX7_readRoad_10 (by decide) (fun c_1 => ?_) (fun c_1 => absurd c_1 h1)
  refine lv_aload_n hx hb dX7_readRoad_18 rfl (lv_at hl 1 rfl) ?_
  refine lv_iload_n hx hb dX7_readRoad_19 rfl (lv_at hl 0 rfl) ?_
  refine lv_if_ne (tgt := 27) hx hb dX7_readRoad_20 (by decide) (fun c_2 => ?_) (fun c_2 => absurd c_2 h2)
  refine lv_iconst (v := 0) hx hb dX7_readRoad_27 (by decide) ?_
  refine lv_iload_n hx hb dX7_readRoad_28 rfl (lv_at hl 0 rfl) ?_
  refine lv_if_ne (tgt := 37) hx hb dX7_readRoad_29 (by decide) (fun c_3 => ?_) (fun c_3 => absurd c_3 h2)
  refine lv_iconst (v := 0) hx hb dX7_readRoad_37 (by decide) ?_
  refine g_callV (As := [.int 0, .int 0]) (rest := []) (st1 := [.int (qX7_digit_v (qX7_digit_A A T 0 1) T 0 0)]) hF (mX7_digit_q M R O hL (qX7_digit_A A T 0 1) T D N V I K B 0 0 (RA_digit hA)) (cwV 2 hts gX7_readRoad_X7_digit rfl rfl rfl (by decide +kernel) ⟨Nat.le_of_ble_eq_true rfl, Nat.le_of_ble_eq_true rfl⟩) hK hZ hG hS (hL.1 483 (by decide) (by decide)) (show gC 483 = (7, 24, 0) from rfl) (by decide) rfl rfl hl.1 (Nat.le_of_ble_eq_true rfl) dX7_readRoad_38 ⟨Nat.zero_le _, Nat.zero_le _⟩ rfl rfl (fun H locs hG hS => ?_)
  refine lv_istore_n (lv' := [(2, .int (qX7_digit_v (qX7_digit_A A T 0 1) T 0 0)), (1, .int (qX7_digit_v A T 0 1)), (0, .ref (gad Γ 483))]) hx hb dX7_readRoad_41 rfl hl (by decide) rfl (fun ls hl => ?_)
  refine lv_iload_n hx hb dX7_readRoad_42 rfl (lv_at hl 0 rfl) ?_
  refine lv_bipush (v := (-9)) hx hb dX7_readRoad_43 (by decide) ?_
  refine lv_icmp_ne (tgt := 50) hx hb dX7_readRoad_45 (by decide) (fun c_4 => ?_) (fun c_4 => absurd c_4 h3)
  refine lv_aload_n hx hb dX7_readRoad_50 rfl (lv_at hl 2 rfl) ?_
  refine gM_getr hx hb hts in_X7 hown hK hL hG 4 (by decide) rfl hL.2.2.1 k_1 (fun _ h => h) dX7_readRoad_51 ?_
  refine lv_bipush (v := 10) hx hb dX7_readRoad_54 (by decide) ?_
  refine lv_iload_n hx hb dX7_readRoad_56 rfl (lv_at hl 1 rfl) ?_
  refine lv_imul hx hb dX7_readRoad_57 ?_
  refine lv_iload_n hx hb dX7_readRoad_58 rfl (lv_at hl 0 rfl) ?_
  refine lv_iadd hx hb dX7_readRoad_59 ?_
  refine g_callS (As := [.ref (gad Γ 485), .int ((10 * (qX7_digit_v A T 0 1)) + (qX7_digit_v (qX7_digit_A A T 0 1) T 0 0))]) (rest := []) (st1 := []) hF (mX7_clear (mS M (qX7_digit_A (qX7_digit_A A T 0 1) T 0 0) T D N V I K B) R O (hL.1 485 (by decide) (by decide)) (show gC 485 = (9, 26, 0) from rfl) (show gLen 485 = 131 from rfl) D (((10 * (qX7_digit_v A T 0 1)) + (qX7_digit_v (qX7_digit_A A T 0 1) T 0 0)).toNatClampNeg) ((sz_b h2 (digit_pl h1).1 (digit_pl h1).2.1 (digit_pl h1).2.2.2 (digit_pl h3).1 (digit_pl h3).2.1 (digit_pl h3).2.2.2).1) (sz_b h2 (digit_pl h1).1 (digit_pl h1).2.1 (digit_pl h1).2.2.2 (digit_pl h3).1 (digit_pl h3).2.1 (digit_pl h3).2.2.2).2) (va_cwS 2 hts gX7_readRoad_X7_clear rfl rfl rfl (by decide +kernel) ⟨Nat.le_of_ble_eq_true rfl, Nat.le_of_ble_eq_true rfl⟩) hK hZ (g_st (show _ = va_up (mS M (qX7_digit_A (qX7_digit_A A T 0 1) T 0 0) T D N V I K B) 26 D from (mS_u26 _ _ _ _ _ _ _ _ _ _).symm) hG) hS rfl hl.1 (Nat.le_of_ble_eq_true rfl) dX7_readRoad_60 ⟨Nat.zero_le _, Nat.zero_le _⟩ rfl rfl (fun H locs hG hS => ?_)
  replace hG : GH Γ (mS M (qX7_digit_A (qX7_digit_A A T 0 1) T 0 0) T (fX7_clear_P D (((10 * (qX7_digit_v A T 0 1)) + (qX7_digit_v (qX7_digit_A A T 0 1) T 0 0)).toNatClampNeg)) N V I K B) R O H := g_st (mS_u26 _ _ _ _ _ _ _ _ _ _) hG
  refine lv_iconst (v := 0) hx hb dX7_readRoad_63 (by decide) ?_
  refine lv_istore_n (lv' := [(3, .int 0), (2, .int (qX7_digit_v (qX7_digit_A A T 0 1) T 0 0)), (1, .int (qX7_digit_v A T 0 1)), (0, .ref (gad Γ 483))]) hx hb dX7_readRoad_64 rfl hl (by decide) rfl (fun ls hl => ?_)
  refine g_loop (N := kx) (fun k H locs ls => GH Γ (mS M ((fX7_sur_L T (qX7_digit_A (qX7_digit_A A T 0 1) T 0 0) (fX7_clear_P D (((10 * (qX7_digit_v A T 0 1)) + (qX7_digit_v (qX7_digit_A A T 0 1) T 0 0)).toNatClampNeg)) k).1) T ((fX7_sur_L T (qX7_digit_A (qX7_digit_A A T 0 1) T 0 0) (fX7_clear_P D (((10 * (qX7_digit_v A T 0 1)) + (qX7_digit_v (qX7_digit_A A T 0 1) T 0 0)).toNatClampNeg)) k).2) N V I K B) R O H ∧ va_S (gA Γ) s.heap H locs ∧ lv_has ls 5 [(0, .ref (gad Γ 483)), (3, .int (nI k))]) ?_ ?_ 0 (Nat.zero_le _) _ _ _ ⟨hG, hS, lv_sub hl [3, 0] rfl⟩
  · rintro H locs ls ⟨hG, hS, hl⟩
    have d0 := (sz_b h2 (digit_pl h1).1 (digit_pl h1).2.1 (digit_pl h1).2.2.2 (digit_pl h3).1 (digit_pl h3).2.1 (digit_pl h3).2.2.2).2
    have kp := sur_keeps (T := T) (A := (qX7_digit_A (qX7_digit_A A T 0 1) T 0 0)) (D := (fX7_clear_P D (((10 * (qX7_digit_v A T 0 1)) + (qX7_digit_v (qX7_digit_A A T 0 1) T 0 0)).toNatClampNeg))) (RA_digit (RA_digit hA)) (WS_clear D (sz_b h2 (digit_pl h1).1 (digit_pl h1).2.1 (digit_pl h1).2.2.2 (digit_pl h3).1 (digit_pl h3).2.1 (digit_pl h3).2.2.2).2) kx (by omega)
    have e0 : (fX7_sur_L T (qX7_digit_A (qX7_digit_A A T 0 1) T 0 0) (fX7_clear_P D (((10 * (qX7_digit_v A T 0 1)) + (qX7_digit_v (qX7_digit_A A T 0 1) T 0 0)).toNatClampNeg)) kx).2 0 = nI (((10 * (qX7_digit_v A T 0 1)) + (qX7_digit_v (qX7_digit_A A T 0 1) T 0 0)).toNatClampNeg) := (kp.2.2 0 (by decide)).trans (by rw [clear_at D _ 0 (by decide), if_pos rfl])
    refine lv_iload_n hx hb dX7_readRoad_65 rfl (lv_at hl 1 rfl) ?_
    refine lv_aload_n hx hb dX7_readRoad_66 rfl (lv_at hl 0 rfl) ?_
    refine gM_getr hx hb hts in_X7 hown hK hL hG 4 (by decide) rfl hL.2.2.1 k_1 (fun _ h => h) dX7_readRoad_67 ?_
    refine lv_iconst (v := 0) hx hb dX7_readRoad_70 (by decide) ?_
    refine gm_ald hx hb hK hG (hL.1 485 (by decide) (by decide)) (show gC 485 = (9, 26, 0) from rfl) (show gLen 485 = 131 from rfl) (by decide) (j := 0) rfl (by omega) (v := ((fX7_sur_L T (qX7_digit_A (qX7_digit_A A T 0 1) T 0 0) (fX7_clear_P D (((10 * (qX7_digit_v A T 0 1)) + (qX7_digit_v (qX7_digit_A A T 0 1) T 0 0)).toNatClampNeg)) kx).2) 0) (mS_a26 _ _ _ _ _ _ _ _ _ _) dX7_readRoad_71 ?_
    refine lv_icmp_ge (tgt := 109) hx hb dX7_readRoad_72 (by decide) (fun c_5 => absurd c_5 (by rw [e0]; exact i32_lt_nle (nI_lt (by omega) (by omega)))) (fun c_5 => ?_)
    refine lv_aload_n hx hb dX7_readRoad_75 rfl (lv_at hl 0 rfl) ?_
    refine lv_iconst (v := 0) hx hb dX7_readRoad_76 (by decide) ?_
    refine lv_iconst (v := 2) hx hb dX7_readRoad_77 (by decide) ?_
    refine g_callV (As := [.int 0, .int 2]) (rest := []) (st1 := [.int (qX7_digit_v ((fX7_sur_L T (qX7_digit_A (qX7_digit_A A T 0 1) T 0 0) (fX7_clear_P D (((10 * (qX7_digit_v A T 0 1)) + (qX7_digit_v (qX7_digit_A A T 0 1) T 0 0)).toNatClampNeg)) kx).1) T 0 2)]) hF (mX7_digit_q M R O hL ((fX7_sur_L T (qX7_digit_A (qX7_digit_A A T 0 1) T 0 0) (fX7_clear_P D (((10 * (qX7_digit_v A T 0 1)) + (qX7_digit_v (qX7_digit_A A T 0 1) T 0 0)).toNatClampNeg)) kx).1) T ((fX7_sur_L T (qX7_digit_A (qX7_digit_A A T 0 1) T 0 0) (fX7_clear_P D (((10 * (qX7_digit_v A T 0 1)) + (qX7_digit_v (qX7_digit_A A T 0 1) T 0 0)).toNatClampNeg)) kx).2) N V I K B 0 2 kp.1) (cwV 2 hts gX7_readRoad_X7_digit rfl rfl rfl (by decide +kernel) ⟨Nat.le_of_ble_eq_true rfl, Nat.le_of_ble_eq_true rfl⟩) hK hZ hG hS (hL.1 483 (by decide) (by decide)) (show gC 483 = (7, 24, 0) from rfl) (by decide) rfl rfl hl.1 (Nat.le_of_ble_eq_true rfl) dX7_readRoad_78 ⟨Nat.zero_le _, Nat.zero_le _⟩ rfl rfl (fun H locs hG hS => ?_)
    refine lv_istore (lv' := [(4, .int (qX7_digit_v ((fX7_sur_L T (qX7_digit_A (qX7_digit_A A T 0 1) T 0 0) (fX7_clear_P D (((10 * (qX7_digit_v A T 0 1)) + (qX7_digit_v (qX7_digit_A A T 0 1) T 0 0)).toNatClampNeg)) kx).1) T 0 2)), (0, .ref (gad Γ 483)), (3, .int (nI kx))]) hx hb dX7_readRoad_81 hl (by decide) rfl (fun ls hl => ?_)
    refine lv_iload hx hb dX7_readRoad_83 (lv_at hl 0 rfl) ?_
    refine lv_bipush (v := (-9)) hx hb dX7_readRoad_85 (by decide) ?_
    refine lv_icmp_ne (tgt := 92) hx hb dX7_readRoad_87 (by decide) (fun c_6 => absurd hyes c_6) (fun c_6 => ?_)
    refine lv_iconst (v := 0) hx hb dX7_readRoad_90 (by decide) ?_
    exact g_zret hx hb hrt hlocks hS hG (by decide) rfl rfl dX7_readRoad_91
  · rintro k hk_k ih_k H locs ls ⟨hG, hS, hl⟩
    have d0 := (sz_b h2 (digit_pl h1).1 (digit_pl h1).2.1 (digit_pl h1).2.2.2 (digit_pl h3).1 (digit_pl h3).2.1 (digit_pl h3).2.2.2).2
    have kp := (sur_keeps (T := T) (A := (qX7_digit_A (qX7_digit_A A T 0 1) T 0 0)) (D := (fX7_clear_P D (((10 * (qX7_digit_v A T 0 1)) + (qX7_digit_v (qX7_digit_A A T 0 1) T 0 0)).toNatClampNeg))) (RA_digit (RA_digit hA)) (WS_clear D (sz_b h2 (digit_pl h1).1 (digit_pl h1).2.1 (digit_pl h1).2.2.2 (digit_pl h3).1 (digit_pl h3).2.1 (digit_pl h3).2.2.2).2) k (by omega))
    have e0 : (fX7_sur_L T (qX7_digit_A (qX7_digit_A A T 0 1) T 0 0) (fX7_clear_P D (((10 * (qX7_digit_v A T 0 1)) + (qX7_digit_v (qX7_digit_A A T 0 1) T 0 0)).toNatClampNeg)) k).2 0 = nI (((10 * (qX7_digit_v A T 0 1)) + (qX7_digit_v (qX7_digit_A A T 0 1) T 0 0)).toNatClampNeg) := (kp.2.2 0 (by decide)).trans (by rw [clear_at D _ 0 (by decide), if_pos rfl])
    refine lv_iload_n hx hb dX7_readRoad_65 rfl (lv_at hl 1 rfl) ?_
    refine lv_aload_n hx hb dX7_readRoad_66 rfl (lv_at hl 0 rfl) ?_
    refine gM_getr hx hb hts in_X7 hown hK hL hG 4 (by decide) rfl hL.2.2.1 k_1 (fun _ h => h) dX7_readRoad_67 ?_
    refine lv_iconst (v := 0) hx hb dX7_readRoad_70 (by decide) ?_
    refine gm_ald hx hb hK hG (hL.1 485 (by decide) (by decide)) (show gC 485 = (9, 26, 0) from rfl) (show gLen 485 = 131 from rfl) (by decide) (j := 0) rfl (by omega) (v := ((fX7_sur_L T (qX7_digit_A (qX7_digit_A A T 0 1) T 0 0) (fX7_clear_P D (((10 * (qX7_digit_v A T 0 1)) + (qX7_digit_v (qX7_digit_A A T 0 1) T 0 0)).toNatClampNeg)) k).2) 0) (mS_a26 _ _ _ _ _ _ _ _ _ _) dX7_readRoad_71 ?_
    refine lv_icmp_ge (tgt := 109) hx hb dX7_readRoad_72 (by decide) (fun c_7 => absurd c_7 (by rw [e0]; exact i32_lt_nle (nI_lt (by omega) (by omega)))) (fun c_7 => ?_)
    refine lv_aload_n hx hb dX7_readRoad_75 rfl (lv_at hl 0 rfl) ?_
    refine lv_iconst (v := 0) hx hb dX7_readRoad_76 (by decide) ?_
    refine lv_iconst (v := 2) hx hb dX7_readRoad_77 (by decide) ?_
    refine g_callV (As := [.int 0, .int 2]) (rest := []) (st1 := [.int (qX7_digit_v ((fX7_sur_L T (qX7_digit_A (qX7_digit_A A T 0 1) T 0 0) (fX7_clear_P D (((10 * (qX7_digit_v A T 0 1)) + (qX7_digit_v (qX7_digit_A A T 0 1) T 0 0)).toNatClampNeg)) k).1) T 0 2)]) hF (mX7_digit_q M R O hL ((fX7_sur_L T (qX7_digit_A (qX7_digit_A A T 0 1) T 0 0) (fX7_clear_P D (((10 * (qX7_digit_v A T 0 1)) + (qX7_digit_v (qX7_digit_A A T 0 1) T 0 0)).toNatClampNeg)) k).1) T ((fX7_sur_L T (qX7_digit_A (qX7_digit_A A T 0 1) T 0 0) (fX7_clear_P D (((10 * (qX7_digit_v A T 0 1)) + (qX7_digit_v (qX7_digit_A A T 0 1) T 0 0)).toNatClampNeg)) k).2) N V I K B 0 2 kp.1) (cwV 2 hts gX7_readRoad_X7_digit rfl rfl rfl (by decide +kernel) ⟨Nat.le_of_ble_eq_true rfl, Nat.le_of_ble_eq_true rfl⟩) hK hZ hG hS (hL.1 483 (by decide) (by decide)) (show gC 483 = (7, 24, 0) from rfl) (by decide) rfl rfl hl.1 (Nat.le_of_ble_eq_true rfl) dX7_readRoad_78 ⟨Nat.zero_le _, Nat.zero_le _⟩ rfl rfl (fun H locs hG hS => ?_)
    refine lv_istore (lv' := [(4, .int (qX7_digit_v ((fX7_sur_L T (qX7_digit_A (qX7_digit_A A T 0 1) T 0 0) (fX7_clear_P D (((10 * (qX7_digit_v A T 0 1)) + (qX7_digit_v (qX7_digit_A A T 0 1) T 0 0)).toNatClampNeg)) k).1) T 0 2)), (0, .ref (gad Γ 483)), (3, .int (nI k))]) hx hb dX7_readRoad_81 hl (by decide) rfl (fun ls hl => ?_)
    refine lv_iload hx hb dX7_readRoad_83 (lv_at hl 0 rfl) ?_
    refine lv_bipush (v := (-9)) hx hb dX7_readRoad_85 (by decide) ?_
    refine lv_icmp_ne (tgt := 92) hx hb dX7_readRoad_87 (by decide) (fun c_8 => ?_) (fun c_8 => absurd c_8 (hno k hk_k))
    refine lv_aload_n hx hb dX7_readRoad_92 rfl (lv_at hl 1 rfl) ?_
    refine gM_getr hx hb hts in_X7 hown hK hL hG 4 (by decide) rfl hL.2.2.1 k_1 (fun _ h => h) dX7_readRoad_93 ?_
    refine lv_iload_n hx hb dX7_readRoad_96 rfl (lv_at hl 2 rfl) ?_
    refine g_callS (As := [.int (nI k)]) (rest := [.ref (gad Γ 485)]) (st1 := [.int (nI (12 + 7 * k)), .ref (gad Γ 485)]) hF (mX7_segmentAt _ R O k rfl) (va_cwS 1 hts gX7_readRoad_X7_segmentAt rfl rfl rfl (by decide +kernel) ⟨Nat.le_of_ble_eq_true rfl, Nat.le_of_ble_eq_true rfl⟩) hK hZ hG hS rfl hl.1 (Nat.le_of_ble_eq_true rfl) dX7_readRoad_97 ⟨Nat.zero_le _, Nat.zero_le _⟩ rfl rfl (fun H locs hG hS => ?_)
    refine lv_iload hx hb dX7_readRoad_100 (lv_at hl 0 rfl) ?_
    refine gm_ast (M2 := mS M (qX7_digit_A ((fX7_sur_L T (qX7_digit_A (qX7_digit_A A T 0 1) T 0 0) (fX7_clear_P D (((10 * (qX7_digit_v A T 0 1)) + (qX7_digit_v (qX7_digit_A A T 0 1) T 0 0)).toNatClampNeg)) k).1) T 0 2) T (upd ((fX7_sur_L T (qX7_digit_A (qX7_digit_A A T 0 1) T 0 0) (fX7_clear_P D (((10 * (qX7_digit_v A T 0 1)) + (qX7_digit_v (qX7_digit_A A T 0 1) T 0 0)).toNatClampNeg)) k).2) (12 + 7 * k) (qX7_digit_v ((fX7_sur_L T (qX7_digit_A (qX7_digit_A A T 0 1) T 0 0) (fX7_clear_P D (((10 * (qX7_digit_v A T 0 1)) + (qX7_digit_v (qX7_digit_A A T 0 1) T 0 0)).toNatClampNeg)) k).1) T 0 2)) N V I K B) hx hb hK hG hS (hL.1 485 (by decide) (by decide)) (show gC 485 = (9, 26, 0) from rfl) (show gLen 485 = 131 from rfl) (by decide) (j := 12 + 7 * k) rfl (by omega) (mS_p26 _ _ _ _ _ _ _ _ _ _ _) dX7_readRoad_102 (fun H locs hG hS => ?_)
    refine lv_iinc (v := nI (k + 1)) (lv' := [(3, .int (nI (k + 1))), (4, .int (qX7_digit_v ((fX7_sur_L T (qX7_digit_A (qX7_digit_A A T 0 1) T 0 0) (fX7_clear_P D (((10 * (qX7_digit_v A T 0 1)) + (qX7_digit_v (qX7_digit_A A T 0 1) T 0 0)).toNatClampNeg)) k).1) T 0 2)), (0, .ref (gad Γ 483))]) hx hb dX7_readRoad_103 hl (k := 2) rfl (nI_1 _) (by decide) rfl (fun ls hl => ?_)
    refine lv_goto (tgt := 65) hx hb dX7_readRoad_106 (by decide) ?_
    exact ih_k _ _ _ ⟨hG, hS, lv_sub hl [2, 0] rfl⟩

