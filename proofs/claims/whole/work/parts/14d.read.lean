/-! THE REFERENCE: a house, a wagon, a filling place are read. Laid by gen/p14.py. -/
def fX7_readHouse_v (A T D N V I K B : Nat → Int32)  : Int32 := if (qX7_digit_v A T 0 ((D 0) - 1)) = (-9) then 0 else if (qX7_digit_v (qX7_digit_A A T 0 ((D 0) - 1)) T 0 9) = (-9) then 0 else 1
def fX7_readHouse_A (A T D N V I K B : Nat → Int32)  : Nat → Int32 := if (qX7_digit_v A T 0 ((D 0) - 1)) = (-9) then qX7_digit_A A T 0 ((D 0) - 1) else if (qX7_digit_v (qX7_digit_A A T 0 ((D 0) - 1)) T 0 9) = (-9) then qX7_digit_A (qX7_digit_A A T 0 ((D 0) - 1)) T 0 9 else qX7_digit_A (qX7_digit_A A T 0 ((D 0) - 1)) T 0 9
def fX7_readHouse_D (A T D N V I K B : Nat → Int32)  : Nat → Int32 := if (qX7_digit_v A T 0 ((D 0) - 1)) = (-9) then D else if (qX7_digit_v (qX7_digit_A A T 0 ((D 0) - 1)) T 0 9) = (-9) then D else fX7_houseOn_P D (qX7_digit_v A T 0 ((D 0) - 1)) (qX7_digit_v (qX7_digit_A A T 0 ((D 0) - 1)) T 0 9)
set_option maxHeartbeats 4000000 in
set_option maxRecDepth 100000 in
theorem mX7_readHouse {l : Launch} {Γ : gX} (M : Nat → Nat → Int32) (R : Nat → Nat → Option Nat) (O : Int64) (hL : LM Γ R) (A T D N V I K B : Nat → Int32) (hA : RA A) (hD : WS D) (hD8 : (D 1).toNatClampNeg < 8) : gMet l Γ yX7_readHouse wsX7_readHouse 2 49 [.ref (gad Γ 483)] (mS M A T D N V I K B) R O (some (.int (fX7_readHouse_v A T D N V I K B ))) (mS M (fX7_readHouse_A A T D N V I K B ) T (fX7_readHouse_D A T D N V I K B ) N V I K B) R O := by
  refine g_start (cc := cX7_readHouse) (maxL := 3) (ret := (some .boolean)) (by decide) rfl (Nat.le_of_ble_eq_true rfl) ?_
  intro p e s m below meth c ls hx hb hml hrt hts hown hlocks hname hK hZ hG hS hl
  have hl : lv_has ls 3 [(0, .ref (gad Γ 483))] := hl
  have hown : s.vm.findClass RX7 = some m.cls := hown
  have hF : CallFix p m c cX7_readHouse 3 s _ wsX7_readHouse RX7 := ⟨hx, hb, hml, hown, hts⟩
  have k_1 : (Cond.fieldLink RX7 13 "RoadDustModel" "read" "[I").before _ s = true := hts _ (by decide +kernel)
  have in_X7 : ∀ w ∈ wsX70, w ∈ wsX7_readHouse := by decide +kernel
  refine lv_aload_n hx hb dX7_readHouse_0 rfl (lv_at hl 0 rfl) ?_
  refine lv_iconst (v := 0) hx hb dX7_readHouse_1 (by decide) ?_
  refine lv_aload_n hx hb dX7_readHouse_2 rfl (lv_at hl 0 rfl) ?_
  refine gM_getr hx hb hts in_X7 hown hK hL hG 4 (by decide) rfl hL.2.2.1 k_1 (fun _ h => h) dX7_readHouse_3 ?_
  refine lv_iconst (v := 0) hx hb dX7_readHouse_6 (by decide) ?_
  refine gm_ald hx hb hK hG (hL.1 485 (by decide) (by decide)) (show gC 485 = (9, 26, 0) from rfl) (show gLen 485 = 131 from rfl) (by decide) (j := 0) rfl (by omega) (v := D 0) (mS_a26 _ _ _ _ _ _ _ _ _ _) dX7_readHouse_7 ?_
  refine lv_iconst (v := 1) hx hb dX7_readHouse_8 (by decide) ?_
  refine lv_isub hx hb dX7_readHouse_9 ?_
  refine g_callV (As := [.int 0, .int ((D 0) - 1)]) (rest := []) (st1 := [.int (qX7_digit_v A T 0 ((D 0) - 1))]) hF (mX7_digit_q M R O hL A T D N V I K B 0 ((D 0) - 1) hA) (cwV 2 hts gX7_readHouse_X7_digit rfl rfl rfl (by decide +kernel) ⟨Nat.le_of_ble_eq_true rfl, Nat.le_of_ble_eq_true rfl⟩) hK hZ hG hS (hL.1 483 (by decide) (by decide)) (show gC 483 = (7, 24, 0) from rfl) (by decide) rfl rfl hl.1 (Nat.le_of_ble_eq_true rfl) dX7_readHouse_10 ⟨Nat.zero_le _, Nat.zero_le _⟩ rfl rfl (fun H locs hG hS => ?_)
  refine lv_istore_n (lv' := [(1, .int (qX7_digit_v A T 0 ((D 0) - 1))), (0, .ref (gad Γ 483))]) hx hb dX7_readHouse_13 rfl hl (by decide) rfl (fun ls hl => ?_)
  refine lv_iload_n hx hb dX7_readHouse_14 rfl (lv_at hl 0 rfl) ?_
  refine lv_bipush (v := (-9)) hx hb dX7_readHouse_15 (by decide) ?_
  refine lv_icmp_ne (tgt := 25) hx hb dX7_readHouse_17 (by decide) (fun c_1 => ?_) (fun c_1 => ?_)
  · --T
    refine lv_aload_n hx hb dX7_readHouse_25 rfl (lv_at hl 1 rfl) ?_
    refine lv_iconst (v := 0) hx hb dX7_readHouse_26 (by decide) ?_
    refine lv_bipush (v := 9) hx hb dX7_readHouse_27 (by decide) ?_
    refine g_callV (As := [.int 0, .int 9]) (rest := []) (st1 := [.int (qX7_digit_v (qX7_digit_A A T 0 ((D 0) - 1)) T 0 9)]) hF (mX7_digit_q M R O hL (qX7_digit_A A T 0 ((D 0) - 1)) T D N V I K B 0 9 (RA_digit hA)) (cwV 2 hts gX7_readHouse_X7_digit rfl rfl rfl (by decide +kernel) ⟨Nat.le_of_ble_eq_true rfl, Nat.le_of_ble_eq_true rfl⟩) hK hZ hG hS (hL.1 483 (by decide) (by decide)) (show gC 483 = (7, 24, 0) from rfl) (by decide) rfl rfl hl.1 (Nat.le_of_ble_eq_true rfl) dX7_readHouse_29 ⟨Nat.zero_le _, Nat.zero_le _⟩ rfl rfl (fun H locs hG hS => ?_)
    refine lv_istore_n (lv' := [(2, .int (qX7_digit_v (qX7_digit_A A T 0 ((D 0) - 1)) T 0 9)), (1, .int (qX7_digit_v A T 0 ((D 0) - 1))), (0, .ref (gad Γ 483))]) hx hb dX7_readHouse_32 rfl hl (by decide) rfl (fun ls hl => ?_)
    refine lv_iload_n hx hb dX7_readHouse_33 rfl (lv_at hl 0 rfl) ?_
    refine lv_bipush (v := (-9)) hx hb dX7_readHouse_34 (by decide) ?_
    refine lv_icmp_ne (tgt := 41) hx hb dX7_readHouse_36 (by decide) (fun c_2 => ?_) (fun c_2 => ?_)
    · --T
      refine lv_aload_n hx hb dX7_readHouse_41 rfl (lv_at hl 2 rfl) ?_
      refine gM_getr hx hb hts in_X7 hown hK hL hG 4 (by decide) rfl hL.2.2.1 k_1 (fun _ h => h) dX7_readHouse_42 ?_
      refine lv_iload_n hx hb dX7_readHouse_45 rfl (lv_at hl 1 rfl) ?_
      refine lv_iload_n hx hb dX7_readHouse_46 rfl (lv_at hl 0 rfl) ?_
      refine g_callS (As := [.ref (gad Γ 485), .int (qX7_digit_v A T 0 ((D 0) - 1)), .int (qX7_digit_v (qX7_digit_A A T 0 ((D 0) - 1)) T 0 9)]) (rest := []) (st1 := []) hF (mX7_houseOn (mS M (qX7_digit_A (qX7_digit_A A T 0 ((D 0) - 1)) T 0 9) T D N V I K B) R O (hL.1 485 (by decide) (by decide)) (show gC 485 = (9, 26, 0) from rfl) (show gLen 485 = 131 from rfl) D (qX7_digit_v A T 0 ((D 0) - 1)) (qX7_digit_v (qX7_digit_A A T 0 ((D 0) - 1)) T 0 9) hD hD8) (va_cwS 3 hts gX7_readHouse_X7_houseOn rfl rfl rfl (by decide +kernel) ⟨Nat.le_of_ble_eq_true rfl, Nat.le_of_ble_eq_true rfl⟩) hK hZ (g_st (show _ = va_up (mS M (qX7_digit_A (qX7_digit_A A T 0 ((D 0) - 1)) T 0 9) T D N V I K B) 26 D from (mS_u26 _ _ _ _ _ _ _ _ _ _).symm) hG) hS rfl hl.1 (Nat.le_of_ble_eq_true rfl) dX7_readHouse_47 ⟨Nat.zero_le _, Nat.zero_le _⟩ rfl rfl (fun H locs hG hS => ?_)
      replace hG : GH Γ (mS M (qX7_digit_A (qX7_digit_A A T 0 ((D 0) - 1)) T 0 9) T (fX7_houseOn_P D (qX7_digit_v A T 0 ((D 0) - 1)) (qX7_digit_v (qX7_digit_A A T 0 ((D 0) - 1)) T 0 9)) N V I K B) R O H := g_st (mS_u26 _ _ _ _ _ _ _ _ _ _) hG
      refine lv_iconst (v := 1) hx hb dX7_readHouse_50 (by decide) ?_
      exact g_zret hx hb hrt hlocks hS hG (by decide) (by unfold fX7_readHouse_v; rw [if_neg c_1, if_neg c_2]) (mS_c (by unfold fX7_readHouse_A; rw [if_neg c_1, if_neg c_2]) rfl (by unfold fX7_readHouse_D; rw [if_neg c_1, if_neg c_2]) rfl rfl rfl rfl rfl) dX7_readHouse_51
    · --F
      refine lv_iconst (v := 0) hx hb dX7_readHouse_39 (by decide) ?_
      exact g_zret hx hb hrt hlocks hS hG (by decide) (by unfold fX7_readHouse_v; rw [if_neg c_1, if_pos c_2]) (mS_c (by unfold fX7_readHouse_A; rw [if_neg c_1, if_pos c_2]) rfl (by unfold fX7_readHouse_D; rw [if_neg c_1, if_pos c_2]) rfl rfl rfl rfl rfl) dX7_readHouse_40
  · --F
    refine lv_bipush (v := (-9)) hx hb dX7_readHouse_20 (by decide) ?_
    refine lv_goto (tgt := 32) hx hb dX7_readHouse_22 (by decide) ?_
    refine lv_istore_n (lv' := [(2, .int (-9)), (1, .int (qX7_digit_v A T 0 ((D 0) - 1))), (0, .ref (gad Γ 483))]) hx hb dX7_readHouse_32 rfl hl (by decide) rfl (fun ls hl => ?_)
    refine lv_iload_n hx hb dX7_readHouse_33 rfl (lv_at hl 0 rfl) ?_
    refine lv_bipush (v := (-9)) hx hb dX7_readHouse_34 (by decide) ?_
    refine lv_icmp_ne (tgt := 41) hx hb dX7_readHouse_36 (by decide) (fun c_3 => absurd (by decide) c_3) (fun c_3 => ?_)
    refine lv_iconst (v := 0) hx hb dX7_readHouse_39 (by decide) ?_
    exact g_zret hx hb hrt hlocks hS hG (by decide) (by unfold fX7_readHouse_v; rw [if_pos c_1]) (mS_c (by unfold fX7_readHouse_A; rw [if_pos c_1]) rfl (by unfold fX7_readHouse_D; rw [if_pos c_1]) rfl rfl rfl rfl rfl) dX7_readHouse_40

def qX7_readHouse_v (A T D : Nat → Int32)  : Int32 := fX7_readHouse_v A T D A A A A A 
def qX7_readHouse_A (A T D : Nat → Int32)  : Nat → Int32 := fX7_readHouse_A A T D A A A A A 
def qX7_readHouse_D (A T D : Nat → Int32)  : Nat → Int32 := fX7_readHouse_D A T D A A A A A 
theorem mX7_readHouse_q {l : Launch} {Γ : gX} (M : Nat → Nat → Int32) (R : Nat → Nat → Option Nat) (O : Int64) (hL : LM Γ R) (A T D N V I K B : Nat → Int32) (hA : RA A) (hD : WS D) (hD8 : (D 1).toNatClampNeg < 8) : gMet l Γ yX7_readHouse wsX7_readHouse 2 49 [.ref (gad Γ 483)] (mS M A T D N V I K B) R O (some (.int (qX7_readHouse_v A T D ))) (mS M (qX7_readHouse_A A T D ) T (qX7_readHouse_D A T D ) N V I K B) R O := mX7_readHouse M R O hL A T D N V I K B hA hD hD8
def fX7_readWagon_v (A T D N V I K B : Nat → Int32)  : Int32 := if (qX7_digit_v A T 0 ((D 0) - 1)) = (-9) then 0 else 1
def fX7_readWagon_A (A T D N V I K B : Nat → Int32)  : Nat → Int32 := if (qX7_digit_v A T 0 ((D 0) - 1)) = (-9) then qX7_digit_A A T 0 ((D 0) - 1) else qX7_digit_A A T 0 ((D 0) - 1)
def fX7_readWagon_D (A T D N V I K B : Nat → Int32)  : Nat → Int32 := if (qX7_digit_v A T 0 ((D 0) - 1)) = (-9) then D else fX7_wagonOn_P D (qX7_digit_v A T 0 ((D 0) - 1))
set_option maxHeartbeats 4000000 in
set_option maxRecDepth 100000 in
theorem mX7_readWagon {l : Launch} {Γ : gX} (M : Nat → Nat → Int32) (R : Nat → Nat → Option Nat) (O : Int64) (hL : LM Γ R) (A T D N V I K B : Nat → Int32) (hA : RA A) (hD : WS D) (hD3 : (D 2).toNatClampNeg < 3) : gMet l Γ yX7_readWagon wsX7_readWagon 2 49 [.ref (gad Γ 483)] (mS M A T D N V I K B) R O (some (.int (fX7_readWagon_v A T D N V I K B ))) (mS M (fX7_readWagon_A A T D N V I K B ) T (fX7_readWagon_D A T D N V I K B ) N V I K B) R O := by
  refine g_start (cc := cX7_readWagon) (maxL := 2) (ret := (some .boolean)) (by decide) rfl (Nat.le_of_ble_eq_true rfl) ?_
  intro p e s m below meth c ls hx hb hml hrt hts hown hlocks hname hK hZ hG hS hl
  have hl : lv_has ls 2 [(0, .ref (gad Γ 483))] := hl
  have hown : s.vm.findClass RX7 = some m.cls := hown
  have hF : CallFix p m c cX7_readWagon 2 s _ wsX7_readWagon RX7 := ⟨hx, hb, hml, hown, hts⟩
  have k_1 : (Cond.fieldLink RX7 13 "RoadDustModel" "read" "[I").before _ s = true := hts _ (by decide +kernel)
  have in_X7 : ∀ w ∈ wsX70, w ∈ wsX7_readWagon := by decide +kernel
  refine lv_aload_n hx hb dX7_readWagon_0 rfl (lv_at hl 0 rfl) ?_
  refine lv_iconst (v := 0) hx hb dX7_readWagon_1 (by decide) ?_
  refine lv_aload_n hx hb dX7_readWagon_2 rfl (lv_at hl 0 rfl) ?_
  refine gM_getr hx hb hts in_X7 hown hK hL hG 4 (by decide) rfl hL.2.2.1 k_1 (fun _ h => h) dX7_readWagon_3 ?_
  refine lv_iconst (v := 0) hx hb dX7_readWagon_6 (by decide) ?_
  refine gm_ald hx hb hK hG (hL.1 485 (by decide) (by decide)) (show gC 485 = (9, 26, 0) from rfl) (show gLen 485 = 131 from rfl) (by decide) (j := 0) rfl (by omega) (v := D 0) (mS_a26 _ _ _ _ _ _ _ _ _ _) dX7_readWagon_7 ?_
  refine lv_iconst (v := 1) hx hb dX7_readWagon_8 (by decide) ?_
  refine lv_isub hx hb dX7_readWagon_9 ?_
  refine g_callV (As := [.int 0, .int ((D 0) - 1)]) (rest := []) (st1 := [.int (qX7_digit_v A T 0 ((D 0) - 1))]) hF (mX7_digit_q M R O hL A T D N V I K B 0 ((D 0) - 1) hA) (cwV 2 hts gX7_readWagon_X7_digit rfl rfl rfl (by decide +kernel) ⟨Nat.le_of_ble_eq_true rfl, Nat.le_of_ble_eq_true rfl⟩) hK hZ hG hS (hL.1 483 (by decide) (by decide)) (show gC 483 = (7, 24, 0) from rfl) (by decide) rfl rfl hl.1 (Nat.le_of_ble_eq_true rfl) dX7_readWagon_10 ⟨Nat.zero_le _, Nat.zero_le _⟩ rfl rfl (fun H locs hG hS => ?_)
  refine lv_istore_n (lv' := [(1, .int (qX7_digit_v A T 0 ((D 0) - 1))), (0, .ref (gad Γ 483))]) hx hb dX7_readWagon_13 rfl hl (by decide) rfl (fun ls hl => ?_)
  refine lv_iload_n hx hb dX7_readWagon_14 rfl (lv_at hl 0 rfl) ?_
  refine lv_bipush (v := (-9)) hx hb dX7_readWagon_15 (by decide) ?_
  refine lv_icmp_ne (tgt := 22) hx hb dX7_readWagon_17 (by decide) (fun c_1 => ?_) (fun c_1 => ?_)
  · --T
    refine lv_aload_n hx hb dX7_readWagon_22 rfl (lv_at hl 1 rfl) ?_
    refine gM_getr hx hb hts in_X7 hown hK hL hG 4 (by decide) rfl hL.2.2.1 k_1 (fun _ h => h) dX7_readWagon_23 ?_
    refine lv_iload_n hx hb dX7_readWagon_26 rfl (lv_at hl 0 rfl) ?_
    refine g_callS (As := [.ref (gad Γ 485), .int (qX7_digit_v A T 0 ((D 0) - 1))]) (rest := []) (st1 := []) hF (mX7_wagonOn (mS M (qX7_digit_A A T 0 ((D 0) - 1)) T D N V I K B) R O (hL.1 485 (by decide) (by decide)) (show gC 485 = (9, 26, 0) from rfl) (show gLen 485 = 131 from rfl) D (qX7_digit_v A T 0 ((D 0) - 1)) hD hD3) (va_cwS 2 hts gX7_readWagon_X7_wagonOn rfl rfl rfl (by decide +kernel) ⟨Nat.le_of_ble_eq_true rfl, Nat.le_of_ble_eq_true rfl⟩) hK hZ (g_st (show _ = va_up (mS M (qX7_digit_A A T 0 ((D 0) - 1)) T D N V I K B) 26 D from (mS_u26 _ _ _ _ _ _ _ _ _ _).symm) hG) hS rfl hl.1 (Nat.le_of_ble_eq_true rfl) dX7_readWagon_27 ⟨Nat.zero_le _, Nat.zero_le _⟩ rfl rfl (fun H locs hG hS => ?_)
    replace hG : GH Γ (mS M (qX7_digit_A A T 0 ((D 0) - 1)) T (fX7_wagonOn_P D (qX7_digit_v A T 0 ((D 0) - 1))) N V I K B) R O H := g_st (mS_u26 _ _ _ _ _ _ _ _ _ _) hG
    refine lv_iconst (v := 1) hx hb dX7_readWagon_30 (by decide) ?_
    exact g_zret hx hb hrt hlocks hS hG (by decide) (by unfold fX7_readWagon_v; rw [if_neg c_1]) (mS_c (by unfold fX7_readWagon_A; rw [if_neg c_1]) rfl (by unfold fX7_readWagon_D; rw [if_neg c_1]) rfl rfl rfl rfl rfl) dX7_readWagon_31
  · --F
    refine lv_iconst (v := 0) hx hb dX7_readWagon_20 (by decide) ?_
    exact g_zret hx hb hrt hlocks hS hG (by decide) (by unfold fX7_readWagon_v; rw [if_pos c_1]) (mS_c (by unfold fX7_readWagon_A; rw [if_pos c_1]) rfl (by unfold fX7_readWagon_D; rw [if_pos c_1]) rfl rfl rfl rfl rfl) dX7_readWagon_21

def qX7_readWagon_v (A T D : Nat → Int32)  : Int32 := fX7_readWagon_v A T D A A A A A 
def qX7_readWagon_A (A T D : Nat → Int32)  : Nat → Int32 := fX7_readWagon_A A T D A A A A A 
def qX7_readWagon_D (A T D : Nat → Int32)  : Nat → Int32 := fX7_readWagon_D A T D A A A A A 
theorem mX7_readWagon_q {l : Launch} {Γ : gX} (M : Nat → Nat → Int32) (R : Nat → Nat → Option Nat) (O : Int64) (hL : LM Γ R) (A T D N V I K B : Nat → Int32) (hA : RA A) (hD : WS D) (hD3 : (D 2).toNatClampNeg < 3) : gMet l Γ yX7_readWagon wsX7_readWagon 2 49 [.ref (gad Γ 483)] (mS M A T D N V I K B) R O (some (.int (qX7_readWagon_v A T D ))) (mS M (qX7_readWagon_A A T D ) T (qX7_readWagon_D A T D ) N V I K B) R O := mX7_readWagon M R O hL A T D N V I K B hA hD hD3
def fX7_readFilling_v (A T D N V I K B : Nat → Int32)  : Int32 := if (qX7_digit_v A T 0 ((D 0) - 1)) = (-9) then 0 else if (D ((12 + 7 * ((qX7_digit_v A T 0 ((D 0) - 1)).toNatClampNeg)) + 5)) = 1 then 0 else 1
def fX7_readFilling_A (A T D N V I K B : Nat → Int32)  : Nat → Int32 := if (qX7_digit_v A T 0 ((D 0) - 1)) = (-9) then qX7_digit_A A T 0 ((D 0) - 1) else if (D ((12 + 7 * ((qX7_digit_v A T 0 ((D 0) - 1)).toNatClampNeg)) + 5)) = 1 then upd (qX7_digit_A A T 0 ((D 0) - 1)) 3 (((qX7_digit_A A T 0 ((D 0) - 1)) 3) - 1) else qX7_digit_A A T 0 ((D 0) - 1)
def fX7_readFilling_D (A T D N V I K B : Nat → Int32)  : Nat → Int32 := if (qX7_digit_v A T 0 ((D 0) - 1)) = (-9) then D else if (D ((12 + 7 * ((qX7_digit_v A T 0 ((D 0) - 1)).toNatClampNeg)) + 5)) = 1 then D else upd D ((12 + 7 * ((qX7_digit_v A T 0 ((D 0) - 1)).toNatClampNeg)) + 5) 1
set_option maxHeartbeats 4000000 in
set_option maxRecDepth 100000 in
theorem mX7_readFilling {l : Launch} {Γ : gX} (M : Nat → Nat → Int32) (R : Nat → Nat → Option Nat) (O : Int64) (hL : LM Γ R) (A T D N V I K B : Nat → Int32) (hA : RA A) (hD : WS D) : gMet l Γ yX7_readFilling wsX7_readFilling 2 49 [.ref (gad Γ 483)] (mS M A T D N V I K B) R O (some (.int (fX7_readFilling_v A T D N V I K B ))) (mS M (fX7_readFilling_A A T D N V I K B ) T (fX7_readFilling_D A T D N V I K B ) N V I K B) R O := by
  refine g_start (cc := cX7_readFilling) (maxL := 2) (ret := (some .boolean)) (by decide) rfl (Nat.le_of_ble_eq_true rfl) ?_
  intro p e s m below meth c ls hx hb hml hrt hts hown hlocks hname hK hZ hG hS hl
  have hl : lv_has ls 2 [(0, .ref (gad Γ 483))] := hl
  have hown : s.vm.findClass RX7 = some m.cls := hown
  have hF : CallFix p m c cX7_readFilling 2 s _ wsX7_readFilling RX7 := ⟨hx, hb, hml, hown, hts⟩
  have k_1 : (Cond.fieldLink RX7 13 "RoadDustModel" "read" "[I").before _ s = true := hts _ (by decide +kernel)
  have in_X7 : ∀ w ∈ wsX70, w ∈ wsX7_readFilling := by decide +kernel
  have k_3 : (Cond.fieldLink RX7 99 "RoadDustModel" "spot" "I").before _ s = true := hts _ (by decide +kernel)
  have d0 := hD.1.2
  refine lv_aload_n hx hb dX7_readFilling_0 rfl (lv_at hl 0 rfl) ?_
  refine lv_iconst (v := 0) hx hb dX7_readFilling_1 (by decide) ?_
  refine lv_aload_n hx hb dX7_readFilling_2 rfl (lv_at hl 0 rfl) ?_
  refine gM_getr hx hb hts in_X7 hown hK hL hG 4 (by decide) rfl hL.2.2.1 k_1 (fun _ h => h) dX7_readFilling_3 ?_
  refine lv_iconst (v := 0) hx hb dX7_readFilling_6 (by decide) ?_
  refine gm_ald hx hb hK hG (hL.1 485 (by decide) (by decide)) (show gC 485 = (9, 26, 0) from rfl) (show gLen 485 = 131 from rfl) (by decide) (j := 0) rfl (by omega) (v := D 0) (mS_a26 _ _ _ _ _ _ _ _ _ _) dX7_readFilling_7 ?_
  refine lv_iconst (v := 1) hx hb dX7_readFilling_8 (by decide) ?_
  refine lv_isub hx hb dX7_readFilling_9 ?_
  refine g_callV (As := [.int 0, .int ((D 0) - 1)]) (rest := []) (st1 := [.int (qX7_digit_v A T 0 ((D 0) - 1))]) hF (mX7_digit_q M R O hL A T D N V I K B 0 ((D 0) - 1) hA) (cwV 2 hts gX7_readFilling_X7_digit rfl rfl rfl (by decide +kernel) ⟨Nat.le_of_ble_eq_true rfl, Nat.le_of_ble_eq_true rfl⟩) hK hZ hG hS (hL.1 483 (by decide) (by decide)) (show gC 483 = (7, 24, 0) from rfl) (by decide) rfl rfl hl.1 (Nat.le_of_ble_eq_true rfl) dX7_readFilling_10 ⟨Nat.zero_le _, Nat.zero_le _⟩ rfl rfl (fun H locs hG hS => ?_)
  refine lv_istore_n (lv' := [(1, .int (qX7_digit_v A T 0 ((D 0) - 1))), (0, .ref (gad Γ 483))]) hx hb dX7_readFilling_13 rfl hl (by decide) rfl (fun ls hl => ?_)
  refine lv_iload_n hx hb dX7_readFilling_14 rfl (lv_at hl 0 rfl) ?_
  refine lv_bipush (v := (-9)) hx hb dX7_readFilling_15 (by decide) ?_
  refine lv_icmp_ne (tgt := 22) hx hb dX7_readFilling_17 (by decide) (fun c_1 => ?_) (fun c_1 => ?_)
  · --T
    have q_1 := digit_lt hD.1.1 (by omega) c_1
    refine lv_aload_n hx hb dX7_readFilling_22 rfl (lv_at hl 1 rfl) ?_
    refine gM_getr hx hb hts in_X7 hown hK hL hG 4 (by decide) rfl hL.2.2.1 k_1 (fun _ h => h) dX7_readFilling_23 ?_
    refine lv_iload_n hx hb dX7_readFilling_26 rfl (lv_at hl 0 rfl) ?_
    refine g_callS (As := [.int (qX7_digit_v A T 0 ((D 0) - 1))]) (rest := [.ref (gad Γ 485)]) (st1 := [.int (nI (12 + 7 * ((qX7_digit_v A T 0 ((D 0) - 1)).toNatClampNeg))), .ref (gad Γ 485)]) hF (mX7_segmentAt _ R O ((qX7_digit_v A T 0 ((D 0) - 1)).toNatClampNeg) ((digit_pl c_1).1)) (va_cwS 1 hts gX7_readFilling_X7_segmentAt rfl rfl rfl (by decide +kernel) ⟨Nat.le_of_ble_eq_true rfl, Nat.le_of_ble_eq_true rfl⟩) hK hZ hG hS rfl hl.1 (Nat.le_of_ble_eq_true rfl) dX7_readFilling_27 ⟨Nat.zero_le _, Nat.zero_le _⟩ rfl rfl (fun H locs hG hS => ?_)
    refine lv_iconst (v := 5) hx hb dX7_readFilling_30 (by decide) ?_
    refine lv_iadd hx hb dX7_readFilling_31 ?_
    refine g_top (show _ = nI ((12 + 7 * ((qX7_digit_v A T 0 ((D 0) - 1)).toNatClampNeg)) + 5) from nI_add _ _) ?_
    refine gm_ald hx hb hK hG (hL.1 485 (by decide) (by decide)) (show gC 485 = (9, 26, 0) from rfl) (show gLen 485 = 131 from rfl) (by decide) (j := (12 + 7 * ((qX7_digit_v A T 0 ((D 0) - 1)).toNatClampNeg)) + 5) rfl (by omega) (v := D ((12 + 7 * ((qX7_digit_v A T 0 ((D 0) - 1)).toNatClampNeg)) + 5)) (mS_a26 _ _ _ _ _ _ _ _ _ _) dX7_readFilling_32 ?_
    refine lv_iconst (v := 1) hx hb dX7_readFilling_33 (by decide) ?_
    refine lv_icmp_ne (tgt := 49) hx hb dX7_readFilling_34 (by decide) (fun c_2 => ?_) (fun c_2 => ?_)
    · --T
      refine lv_aload_n hx hb dX7_readFilling_49 rfl (lv_at hl 1 rfl) ?_
      refine gM_getr hx hb hts in_X7 hown hK hL hG 4 (by decide) rfl hL.2.2.1 k_1 (fun _ h => h) dX7_readFilling_50 ?_
      refine lv_iload_n hx hb dX7_readFilling_53 rfl (lv_at hl 0 rfl) ?_
      refine g_callS (As := [.int (qX7_digit_v A T 0 ((D 0) - 1))]) (rest := [.ref (gad Γ 485)]) (st1 := [.int (nI (12 + 7 * ((qX7_digit_v A T 0 ((D 0) - 1)).toNatClampNeg))), .ref (gad Γ 485)]) hF (mX7_segmentAt _ R O ((qX7_digit_v A T 0 ((D 0) - 1)).toNatClampNeg) ((digit_pl c_1).1)) (va_cwS 1 hts gX7_readFilling_X7_segmentAt rfl rfl rfl (by decide +kernel) ⟨Nat.le_of_ble_eq_true rfl, Nat.le_of_ble_eq_true rfl⟩) hK hZ hG hS rfl hl.1 (Nat.le_of_ble_eq_true rfl) dX7_readFilling_54 ⟨Nat.zero_le _, Nat.zero_le _⟩ rfl rfl (fun H locs hG hS => ?_)
      refine lv_iconst (v := 5) hx hb dX7_readFilling_57 (by decide) ?_
      refine lv_iadd hx hb dX7_readFilling_58 ?_
      refine g_top (show _ = nI ((12 + 7 * ((qX7_digit_v A T 0 ((D 0) - 1)).toNatClampNeg)) + 5) from nI_add _ _) ?_
      refine lv_iconst (v := 1) hx hb dX7_readFilling_59 (by decide) ?_
      refine gm_ast (M2 := mS M (qX7_digit_A A T 0 ((D 0) - 1)) T (upd D ((12 + 7 * ((qX7_digit_v A T 0 ((D 0) - 1)).toNatClampNeg)) + 5) 1) N V I K B) hx hb hK hG hS (hL.1 485 (by decide) (by decide)) (show gC 485 = (9, 26, 0) from rfl) (show gLen 485 = 131 from rfl) (by decide) (j := (12 + 7 * ((qX7_digit_v A T 0 ((D 0) - 1)).toNatClampNeg)) + 5) rfl (by omega) (mS_p26 _ _ _ _ _ _ _ _ _ _ _) dX7_readFilling_60 (fun H locs hG hS => ?_)
      refine lv_iconst (v := 1) hx hb dX7_readFilling_61 (by decide) ?_
      exact g_zret hx hb hrt hlocks hS hG (by decide) (by unfold fX7_readFilling_v; rw [if_neg c_1, if_neg c_2]) (mS_c (by unfold fX7_readFilling_A; rw [if_neg c_1, if_neg c_2]) rfl (by unfold fX7_readFilling_D; rw [if_neg c_1, if_neg c_2]) rfl rfl rfl rfl rfl) dX7_readFilling_62
    · --F
      refine lv_aload_n hx hb dX7_readFilling_37 rfl (lv_at hl 1 rfl) ?_
      refine lv_dup hx hb dX7_readFilling_38 rfl ?_
      refine gM_get hx hb hts in_X7 hown hK hL hG 3 (by decide) rfl k_3 (fun _ h => h) dX7_readFilling_39 ?_
      refine lv_iconst (v := 1) hx hb dX7_readFilling_42 (by decide) ?_
      refine lv_isub hx hb dX7_readFilling_43 ?_
      refine gM_put hx hb hts in_X7 hown hK hL hG hS 3 (by decide) rfl k_3 (fun _ h => h) rfl (by decide +kernel) dX7_readFilling_44 (fun H locs hG hS => ?_)
      refine lv_iconst (v := 0) hx hb dX7_readFilling_47 (by decide) ?_
      exact g_zret hx hb hrt hlocks hS hG (by decide) (by unfold fX7_readFilling_v; rw [if_neg c_1, if_pos c_2]) (mS_c (by unfold fX7_readFilling_A; rw [if_neg c_1, if_pos c_2]) rfl (by unfold fX7_readFilling_D; rw [if_neg c_1, if_pos c_2]) rfl rfl rfl rfl rfl) dX7_readFilling_48
  · --F
    refine lv_iconst (v := 0) hx hb dX7_readFilling_20 (by decide) ?_
    exact g_zret hx hb hrt hlocks hS hG (by decide) (by unfold fX7_readFilling_v; rw [if_pos c_1]) (mS_c (by unfold fX7_readFilling_A; rw [if_pos c_1]) rfl (by unfold fX7_readFilling_D; rw [if_pos c_1]) rfl rfl rfl rfl rfl) dX7_readFilling_21

def qX7_readFilling_v (A T D : Nat → Int32)  : Int32 := fX7_readFilling_v A T D A A A A A 
def qX7_readFilling_A (A T D : Nat → Int32)  : Nat → Int32 := fX7_readFilling_A A T D A A A A A 
def qX7_readFilling_D (A T D : Nat → Int32)  : Nat → Int32 := fX7_readFilling_D A T D A A A A A 
theorem mX7_readFilling_q {l : Launch} {Γ : gX} (M : Nat → Nat → Int32) (R : Nat → Nat → Option Nat) (O : Int64) (hL : LM Γ R) (A T D N V I K B : Nat → Int32) (hA : RA A) (hD : WS D) : gMet l Γ yX7_readFilling wsX7_readFilling 2 49 [.ref (gad Γ 483)] (mS M A T D N V I K B) R O (some (.int (qX7_readFilling_v A T D ))) (mS M (qX7_readFilling_A A T D ) T (qX7_readFilling_D A T D ) N V I K B) R O := mX7_readFilling M R O hL A T D N V I K B hA hD
