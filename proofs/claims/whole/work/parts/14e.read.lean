/-! THE REFERENCE: a part is read. Laid by gen/p14.py. -/
def fX7_readPart_v (A T D N V I K B : Nat → Int32)  : Int32 := if 8 ≤ (D 1) then if 3 ≤ (D 2) then if (D 0) ≤ (qX7_filling_v D ) then 0 else if (qX7_eat_v A T 102) = 0 then 0 else if (qX7_readFilling_v (qX7_eat_A A T 102) T D ) = 0 then 0 else 1 else if (qX7_eat_v A T 119) = 0 then if (D 0) ≤ (qX7_filling_v D ) then 0 else if (qX7_eat_v (qX7_eat_A A T 119) T 102) = 0 then 0 else if (qX7_readFilling_v (qX7_eat_A (qX7_eat_A A T 119) T 102) T D ) = 0 then 0 else 1 else qX7_readWagon_v (qX7_eat_A A T 119) T D  else if (qX7_eat_v A T 104) = 0 then if 3 ≤ (D 2) then if (D 0) ≤ (qX7_filling_v D ) then 0 else if (qX7_eat_v (qX7_eat_A A T 104) T 102) = 0 then 0 else if (qX7_readFilling_v (qX7_eat_A (qX7_eat_A A T 104) T 102) T D ) = 0 then 0 else 1 else if (qX7_eat_v (qX7_eat_A A T 104) T 119) = 0 then if (D 0) ≤ (qX7_filling_v D ) then 0 else if (qX7_eat_v (qX7_eat_A (qX7_eat_A A T 104) T 119) T 102) = 0 then 0 else if (qX7_readFilling_v (qX7_eat_A (qX7_eat_A (qX7_eat_A A T 104) T 119) T 102) T D ) = 0 then 0 else 1 else qX7_readWagon_v (qX7_eat_A (qX7_eat_A A T 104) T 119) T D  else qX7_readHouse_v (qX7_eat_A A T 104) T D 
def fX7_readPart_A (A T D N V I K B : Nat → Int32)  : Nat → Int32 := if 8 ≤ (D 1) then if 3 ≤ (D 2) then if (D 0) ≤ (qX7_filling_v D ) then A else if (qX7_eat_v A T 102) = 0 then qX7_eat_A A T 102 else if (qX7_readFilling_v (qX7_eat_A A T 102) T D ) = 0 then qX7_readFilling_A (qX7_eat_A A T 102) T D  else qX7_readFilling_A (qX7_eat_A A T 102) T D  else if (qX7_eat_v A T 119) = 0 then if (D 0) ≤ (qX7_filling_v D ) then qX7_eat_A A T 119 else if (qX7_eat_v (qX7_eat_A A T 119) T 102) = 0 then qX7_eat_A (qX7_eat_A A T 119) T 102 else if (qX7_readFilling_v (qX7_eat_A (qX7_eat_A A T 119) T 102) T D ) = 0 then qX7_readFilling_A (qX7_eat_A (qX7_eat_A A T 119) T 102) T D  else qX7_readFilling_A (qX7_eat_A (qX7_eat_A A T 119) T 102) T D  else qX7_readWagon_A (qX7_eat_A A T 119) T D  else if (qX7_eat_v A T 104) = 0 then if 3 ≤ (D 2) then if (D 0) ≤ (qX7_filling_v D ) then qX7_eat_A A T 104 else if (qX7_eat_v (qX7_eat_A A T 104) T 102) = 0 then qX7_eat_A (qX7_eat_A A T 104) T 102 else if (qX7_readFilling_v (qX7_eat_A (qX7_eat_A A T 104) T 102) T D ) = 0 then qX7_readFilling_A (qX7_eat_A (qX7_eat_A A T 104) T 102) T D  else qX7_readFilling_A (qX7_eat_A (qX7_eat_A A T 104) T 102) T D  else if (qX7_eat_v (qX7_eat_A A T 104) T 119) = 0 then if (D 0) ≤ (qX7_filling_v D ) then qX7_eat_A (qX7_eat_A A T 104) T 119 else if (qX7_eat_v (qX7_eat_A (qX7_eat_A A T 104) T 119) T 102) = 0 then qX7_eat_A (qX7_eat_A (qX7_eat_A A T 104) T 119) T 102 else if (qX7_readFilling_v (qX7_eat_A (qX7_eat_A (qX7_eat_A A T 104) T 119) T 102) T D ) = 0 then qX7_readFilling_A (qX7_eat_A (qX7_eat_A (qX7_eat_A A T 104) T 119) T 102) T D  else qX7_readFilling_A (qX7_eat_A (qX7_eat_A (qX7_eat_A A T 104) T 119) T 102) T D  else qX7_readWagon_A (qX7_eat_A (qX7_eat_A A T 104) T 119) T D  else qX7_readHouse_A (qX7_eat_A A T 104) T D 
def fX7_readPart_D (A T D N V I K B : Nat → Int32)  : Nat → Int32 := if 8 ≤ (D 1) then if 3 ≤ (D 2) then if (D 0) ≤ (qX7_filling_v D ) then D else if (qX7_eat_v A T 102) = 0 then D else if (qX7_readFilling_v (qX7_eat_A A T 102) T D ) = 0 then qX7_readFilling_D (qX7_eat_A A T 102) T D  else qX7_readFilling_D (qX7_eat_A A T 102) T D  else if (qX7_eat_v A T 119) = 0 then if (D 0) ≤ (qX7_filling_v D ) then D else if (qX7_eat_v (qX7_eat_A A T 119) T 102) = 0 then D else if (qX7_readFilling_v (qX7_eat_A (qX7_eat_A A T 119) T 102) T D ) = 0 then qX7_readFilling_D (qX7_eat_A (qX7_eat_A A T 119) T 102) T D  else qX7_readFilling_D (qX7_eat_A (qX7_eat_A A T 119) T 102) T D  else qX7_readWagon_D (qX7_eat_A A T 119) T D  else if (qX7_eat_v A T 104) = 0 then if 3 ≤ (D 2) then if (D 0) ≤ (qX7_filling_v D ) then D else if (qX7_eat_v (qX7_eat_A A T 104) T 102) = 0 then D else if (qX7_readFilling_v (qX7_eat_A (qX7_eat_A A T 104) T 102) T D ) = 0 then qX7_readFilling_D (qX7_eat_A (qX7_eat_A A T 104) T 102) T D  else qX7_readFilling_D (qX7_eat_A (qX7_eat_A A T 104) T 102) T D  else if (qX7_eat_v (qX7_eat_A A T 104) T 119) = 0 then if (D 0) ≤ (qX7_filling_v D ) then D else if (qX7_eat_v (qX7_eat_A (qX7_eat_A A T 104) T 119) T 102) = 0 then D else if (qX7_readFilling_v (qX7_eat_A (qX7_eat_A (qX7_eat_A A T 104) T 119) T 102) T D ) = 0 then qX7_readFilling_D (qX7_eat_A (qX7_eat_A (qX7_eat_A A T 104) T 119) T 102) T D  else qX7_readFilling_D (qX7_eat_A (qX7_eat_A (qX7_eat_A A T 104) T 119) T 102) T D  else qX7_readWagon_D (qX7_eat_A (qX7_eat_A A T 104) T 119) T D  else qX7_readHouse_D (qX7_eat_A A T 104) T D 
set_option maxHeartbeats 4000000 in
set_option maxRecDepth 100000 in
theorem mX7_readPart {l : Launch} {Γ : gX} (M : Nat → Nat → Int32) (R : Nat → Nat → Option Nat) (O : Int64) (hL : LM Γ R) (A T D N V I K B : Nat → Int32) (hA : RA A) (hD : WS D) : gMet l Γ yX7_readPart wsX7_readPart 3 71 [.ref (gad Γ 483)] (mS M A T D N V I K B) R O (some (.int (fX7_readPart_v A T D N V I K B ))) (mS M (fX7_readPart_A A T D N V I K B ) T (fX7_readPart_D A T D N V I K B ) N V I K B) R O := by
  refine g_start (cc := cX7_readPart) (maxL := 1) (ret := (some .boolean)) (by decide) rfl (Nat.le_of_ble_eq_true rfl) ?_
  intro p e s m below meth c ls hx hb hml hrt hts hown hlocks hname hK hZ hG hS hl
  have hl : lv_has ls 1 [(0, .ref (gad Γ 483))] := hl
  have hown : s.vm.findClass RX7 = some m.cls := hown
  have hF : CallFix p m c cX7_readPart 1 s _ wsX7_readPart RX7 := ⟨hx, hb, hml, hown, hts⟩
  have k_1 : (Cond.fieldLink RX7 13 "RoadDustModel" "read" "[I").before _ s = true := hts _ (by decide +kernel)
  have in_X7 : ∀ w ∈ wsX70, w ∈ wsX7_readPart := by decide +kernel
  have d0 := hD.1.2
  have d1 := hD.2.1.2
  have d2 := hD.2.2.1.2
  refine lv_aload_n hx hb dX7_readPart_0 rfl (lv_at hl 0 rfl) ?_
  refine gM_getr hx hb hts in_X7 hown hK hL hG 4 (by decide) rfl hL.2.2.1 k_1 (fun _ h => h) dX7_readPart_1 ?_
  refine lv_iconst (v := 1) hx hb dX7_readPart_4 (by decide) ?_
  refine gm_ald hx hb hK hG (hL.1 485 (by decide) (by decide)) (show gC 485 = (9, 26, 0) from rfl) (show gLen 485 = 131 from rfl) (by decide) (j := 1) rfl (by omega) (v := D 1) (mS_a26 _ _ _ _ _ _ _ _ _ _) dX7_readPart_5 ?_
  refine lv_bipush (v := 8) hx hb dX7_readPart_6 (by decide) ?_
  refine lv_icmp_ge (tgt := 25) hx hb dX7_readPart_8 (by decide) (fun c_1 => ?_) (fun c_1 => ?_)
  · --T
    refine lv_aload_n hx hb dX7_readPart_25 rfl (lv_at hl 0 rfl) ?_
    refine gM_getr hx hb hts in_X7 hown hK hL hG 4 (by decide) rfl hL.2.2.1 k_1 (fun _ h => h) dX7_readPart_26 ?_
    refine lv_iconst (v := 2) hx hb dX7_readPart_29 (by decide) ?_
    refine gm_ald hx hb hK hG (hL.1 485 (by decide) (by decide)) (show gC 485 = (9, 26, 0) from rfl) (show gLen 485 = 131 from rfl) (by decide) (j := 2) rfl (by omega) (v := D 2) (mS_a26 _ _ _ _ _ _ _ _ _ _) dX7_readPart_30 ?_
    refine lv_iconst (v := 3) hx hb dX7_readPart_31 (by decide) ?_
    refine lv_icmp_ge (tgt := 49) hx hb dX7_readPart_32 (by decide) (fun c_2 => ?_) (fun c_2 => ?_)
    · --T
      refine lv_aload_n hx hb dX7_readPart_49 rfl (lv_at hl 0 rfl) ?_
      refine g_callV (As := []) (rest := []) (st1 := [.int (qX7_filling_v D )]) hF (mX7_filling_q M R O hL A T D N V I K B  hD) (cwV 0 hts gX7_readPart_X7_filling rfl rfl rfl (by decide +kernel) ⟨Nat.le_of_ble_eq_true rfl, Nat.le_of_ble_eq_true rfl⟩) hK hZ hG hS (hL.1 483 (by decide) (by decide)) (show gC 483 = (7, 24, 0) from rfl) (by decide) rfl rfl hl.1 (Nat.le_of_ble_eq_true rfl) dX7_readPart_50 ⟨Nat.zero_le _, Nat.zero_le _⟩ rfl rfl (fun H locs hG hS => ?_)
      refine lv_aload_n hx hb dX7_readPart_53 rfl (lv_at hl 0 rfl) ?_
      refine gM_getr hx hb hts in_X7 hown hK hL hG 4 (by decide) rfl hL.2.2.1 k_1 (fun _ h => h) dX7_readPart_54 ?_
      refine lv_iconst (v := 0) hx hb dX7_readPart_57 (by decide) ?_
      refine gm_ald hx hb hK hG (hL.1 485 (by decide) (by decide)) (show gC 485 = (9, 26, 0) from rfl) (show gLen 485 = 131 from rfl) (by decide) (j := 0) rfl (by omega) (v := D 0) (mS_a26 _ _ _ _ _ _ _ _ _ _) dX7_readPart_58 ?_
      refine lv_icmp_ge (tgt := 82) hx hb dX7_readPart_59 (by decide) (fun c_3 => ?_) (fun c_3 => ?_)
      · --T
        refine lv_iconst (v := 0) hx hb dX7_readPart_82 (by decide) ?_
        exact g_zret hx hb hrt hlocks hS hG (by decide) (by unfold fX7_readPart_v; rw [if_pos c_1, if_pos c_2, if_pos c_3]) (mS_c (by unfold fX7_readPart_A; rw [if_pos c_1, if_pos c_2, if_pos c_3]) rfl (by unfold fX7_readPart_D; rw [if_pos c_1, if_pos c_2, if_pos c_3]) rfl rfl rfl rfl rfl) dX7_readPart_83
      · --F
        refine lv_aload_n hx hb dX7_readPart_62 rfl (lv_at hl 0 rfl) ?_
        refine lv_bipush (v := 102) hx hb dX7_readPart_63 (by decide) ?_
        refine g_callV (As := [.int 102]) (rest := []) (st1 := [.int (qX7_eat_v A T 102)]) hF (mX7_eat_q M R O hL A T D N V I K B 102 hA) (cwV 1 hts gX7_readPart_X7_eat rfl rfl rfl (by decide +kernel) ⟨Nat.le_of_ble_eq_true rfl, Nat.le_of_ble_eq_true rfl⟩) hK hZ hG hS (hL.1 483 (by decide) (by decide)) (show gC 483 = (7, 24, 0) from rfl) (by decide) rfl rfl hl.1 (Nat.le_of_ble_eq_true rfl) dX7_readPart_65 ⟨Nat.zero_le _, Nat.zero_le _⟩ rfl rfl (fun H locs hG hS => ?_)
        refine lv_if_eq (tgt := 82) hx hb dX7_readPart_68 (by decide) (fun c_4 => ?_) (fun c_4 => ?_)
        · --T
          refine lv_iconst (v := 0) hx hb dX7_readPart_82 (by decide) ?_
          exact g_zret hx hb hrt hlocks hS hG (by decide) (by unfold fX7_readPart_v; rw [if_pos c_1, if_pos c_2, if_neg c_3, if_pos c_4]) (mS_c (by unfold fX7_readPart_A; rw [if_pos c_1, if_pos c_2, if_neg c_3, if_pos c_4]) rfl (by unfold fX7_readPart_D; rw [if_pos c_1, if_pos c_2, if_neg c_3, if_pos c_4]) rfl rfl rfl rfl rfl) dX7_readPart_83
        · --F
          refine lv_aload_n hx hb dX7_readPart_71 rfl (lv_at hl 0 rfl) ?_
          refine g_callV (As := []) (rest := []) (st1 := [.int (qX7_readFilling_v (qX7_eat_A A T 102) T D )]) hF (mX7_readFilling_q M R O hL (qX7_eat_A A T 102) T D N V I K B  (RA_eat hA) hD) (cwV 0 hts gX7_readPart_X7_readFilling rfl rfl rfl (by decide +kernel) ⟨Nat.le_of_ble_eq_true rfl, Nat.le_of_ble_eq_true rfl⟩) hK hZ hG hS (hL.1 483 (by decide) (by decide)) (show gC 483 = (7, 24, 0) from rfl) (by decide) rfl rfl hl.1 (Nat.le_of_ble_eq_true rfl) dX7_readPart_72 ⟨Nat.zero_le _, Nat.zero_le _⟩ rfl rfl (fun H locs hG hS => ?_)
          refine lv_if_eq (tgt := 82) hx hb dX7_readPart_75 (by decide) (fun c_5 => ?_) (fun c_5 => ?_)
          · --T
            refine lv_iconst (v := 0) hx hb dX7_readPart_82 (by decide) ?_
            exact g_zret hx hb hrt hlocks hS hG (by decide) (by unfold fX7_readPart_v; rw [if_pos c_1, if_pos c_2, if_neg c_3, if_neg c_4, if_pos c_5]) (mS_c (by unfold fX7_readPart_A; rw [if_pos c_1, if_pos c_2, if_neg c_3, if_neg c_4, if_pos c_5]) rfl (by unfold fX7_readPart_D; rw [if_pos c_1, if_pos c_2, if_neg c_3, if_neg c_4, if_pos c_5]) rfl rfl rfl rfl rfl) dX7_readPart_83
          · --F
            refine lv_iconst (v := 1) hx hb dX7_readPart_78 (by decide) ?_
            refine lv_goto (tgt := 83) hx hb dX7_readPart_79 (by decide) ?_
            exact g_zret hx hb hrt hlocks hS hG (by decide) (by unfold fX7_readPart_v; rw [if_pos c_1, if_pos c_2, if_neg c_3, if_neg c_4, if_neg c_5]) (mS_c (by unfold fX7_readPart_A; rw [if_pos c_1, if_pos c_2, if_neg c_3, if_neg c_4, if_neg c_5]) rfl (by unfold fX7_readPart_D; rw [if_pos c_1, if_pos c_2, if_neg c_3, if_neg c_4, if_neg c_5]) rfl rfl rfl rfl rfl) dX7_readPart_83
    · --F
      refine lv_aload_n hx hb dX7_readPart_35 rfl (lv_at hl 0 rfl) ?_
      refine lv_bipush (v := 119) hx hb dX7_readPart_36 (by decide) ?_
      refine g_callV (As := [.int 119]) (rest := []) (st1 := [.int (qX7_eat_v A T 119)]) hF (mX7_eat_q M R O hL A T D N V I K B 119 hA) (cwV 1 hts gX7_readPart_X7_eat rfl rfl rfl (by decide +kernel) ⟨Nat.le_of_ble_eq_true rfl, Nat.le_of_ble_eq_true rfl⟩) hK hZ hG hS (hL.1 483 (by decide) (by decide)) (show gC 483 = (7, 24, 0) from rfl) (by decide) rfl rfl hl.1 (Nat.le_of_ble_eq_true rfl) dX7_readPart_38 ⟨Nat.zero_le _, Nat.zero_le _⟩ rfl rfl (fun H locs hG hS => ?_)
      refine lv_if_eq (tgt := 49) hx hb dX7_readPart_41 (by decide) (fun c_6 => ?_) (fun c_6 => ?_)
      · --T
        refine lv_aload_n hx hb dX7_readPart_49 rfl (lv_at hl 0 rfl) ?_
        refine g_callV (As := []) (rest := []) (st1 := [.int (qX7_filling_v D )]) hF (mX7_filling_q M R O hL (qX7_eat_A A T 119) T D N V I K B  hD) (cwV 0 hts gX7_readPart_X7_filling rfl rfl rfl (by decide +kernel) ⟨Nat.le_of_ble_eq_true rfl, Nat.le_of_ble_eq_true rfl⟩) hK hZ hG hS (hL.1 483 (by decide) (by decide)) (show gC 483 = (7, 24, 0) from rfl) (by decide) rfl rfl hl.1 (Nat.le_of_ble_eq_true rfl) dX7_readPart_50 ⟨Nat.zero_le _, Nat.zero_le _⟩ rfl rfl (fun H locs hG hS => ?_)
        refine lv_aload_n hx hb dX7_readPart_53 rfl (lv_at hl 0 rfl) ?_
        refine gM_getr hx hb hts in_X7 hown hK hL hG 4 (by decide) rfl hL.2.2.1 k_1 (fun _ h => h) dX7_readPart_54 ?_
        refine lv_iconst (v := 0) hx hb dX7_readPart_57 (by decide) ?_
        refine gm_ald hx hb hK hG (hL.1 485 (by decide) (by decide)) (show gC 485 = (9, 26, 0) from rfl) (show gLen 485 = 131 from rfl) (by decide) (j := 0) rfl (by omega) (v := D 0) (mS_a26 _ _ _ _ _ _ _ _ _ _) dX7_readPart_58 ?_
        refine lv_icmp_ge (tgt := 82) hx hb dX7_readPart_59 (by decide) (fun c_7 => ?_) (fun c_7 => ?_)
        · --T
          refine lv_iconst (v := 0) hx hb dX7_readPart_82 (by decide) ?_
          exact g_zret hx hb hrt hlocks hS hG (by decide) (by unfold fX7_readPart_v; rw [if_pos c_1, if_neg c_2, if_pos c_6, if_pos c_7]) (mS_c (by unfold fX7_readPart_A; rw [if_pos c_1, if_neg c_2, if_pos c_6, if_pos c_7]) rfl (by unfold fX7_readPart_D; rw [if_pos c_1, if_neg c_2, if_pos c_6, if_pos c_7]) rfl rfl rfl rfl rfl) dX7_readPart_83
        · --F
          refine lv_aload_n hx hb dX7_readPart_62 rfl (lv_at hl 0 rfl) ?_
          refine lv_bipush (v := 102) hx hb dX7_readPart_63 (by decide) ?_
          refine g_callV (As := [.int 102]) (rest := []) (st1 := [.int (qX7_eat_v (qX7_eat_A A T 119) T 102)]) hF (mX7_eat_q M R O hL (qX7_eat_A A T 119) T D N V I K B 102 (RA_eat hA)) (cwV 1 hts gX7_readPart_X7_eat rfl rfl rfl (by decide +kernel) ⟨Nat.le_of_ble_eq_true rfl, Nat.le_of_ble_eq_true rfl⟩) hK hZ hG hS (hL.1 483 (by decide) (by decide)) (show gC 483 = (7, 24, 0) from rfl) (by decide) rfl rfl hl.1 (Nat.le_of_ble_eq_true rfl) dX7_readPart_65 ⟨Nat.zero_le _, Nat.zero_le _⟩ rfl rfl (fun H locs hG hS => ?_)
          refine lv_if_eq (tgt := 82) hx hb dX7_readPart_68 (by decide) (fun c_8 => ?_) (fun c_8 => ?_)
          · --T
            refine lv_iconst (v := 0) hx hb dX7_readPart_82 (by decide) ?_
            exact g_zret hx hb hrt hlocks hS hG (by decide) (by unfold fX7_readPart_v; rw [if_pos c_1, if_neg c_2, if_pos c_6, if_neg c_7, if_pos c_8]) (mS_c (by unfold fX7_readPart_A; rw [if_pos c_1, if_neg c_2, if_pos c_6, if_neg c_7, if_pos c_8]) rfl (by unfold fX7_readPart_D; rw [if_pos c_1, if_neg c_2, if_pos c_6, if_neg c_7, if_pos c_8]) rfl rfl rfl rfl rfl) dX7_readPart_83
          · --F
            refine lv_aload_n hx hb dX7_readPart_71 rfl (lv_at hl 0 rfl) ?_
            refine g_callV (As := []) (rest := []) (st1 := [.int (qX7_readFilling_v (qX7_eat_A (qX7_eat_A A T 119) T 102) T D )]) hF (mX7_readFilling_q M R O hL (qX7_eat_A (qX7_eat_A A T 119) T 102) T D N V I K B  (RA_eat (RA_eat hA)) hD) (cwV 0 hts gX7_readPart_X7_readFilling rfl rfl rfl (by decide +kernel) ⟨Nat.le_of_ble_eq_true rfl, Nat.le_of_ble_eq_true rfl⟩) hK hZ hG hS (hL.1 483 (by decide) (by decide)) (show gC 483 = (7, 24, 0) from rfl) (by decide) rfl rfl hl.1 (Nat.le_of_ble_eq_true rfl) dX7_readPart_72 ⟨Nat.zero_le _, Nat.zero_le _⟩ rfl rfl (fun H locs hG hS => ?_)
            refine lv_if_eq (tgt := 82) hx hb dX7_readPart_75 (by decide) (fun c_9 => ?_) (fun c_9 => ?_)
            · --T
              refine lv_iconst (v := 0) hx hb dX7_readPart_82 (by decide) ?_
              exact g_zret hx hb hrt hlocks hS hG (by decide) (by unfold fX7_readPart_v; rw [if_pos c_1, if_neg c_2, if_pos c_6, if_neg c_7, if_neg c_8, if_pos c_9]) (mS_c (by unfold fX7_readPart_A; rw [if_pos c_1, if_neg c_2, if_pos c_6, if_neg c_7, if_neg c_8, if_pos c_9]) rfl (by unfold fX7_readPart_D; rw [if_pos c_1, if_neg c_2, if_pos c_6, if_neg c_7, if_neg c_8, if_pos c_9]) rfl rfl rfl rfl rfl) dX7_readPart_83
            · --F
              refine lv_iconst (v := 1) hx hb dX7_readPart_78 (by decide) ?_
              refine lv_goto (tgt := 83) hx hb dX7_readPart_79 (by decide) ?_
              exact g_zret hx hb hrt hlocks hS hG (by decide) (by unfold fX7_readPart_v; rw [if_pos c_1, if_neg c_2, if_pos c_6, if_neg c_7, if_neg c_8, if_neg c_9]) (mS_c (by unfold fX7_readPart_A; rw [if_pos c_1, if_neg c_2, if_pos c_6, if_neg c_7, if_neg c_8, if_neg c_9]) rfl (by unfold fX7_readPart_D; rw [if_pos c_1, if_neg c_2, if_pos c_6, if_neg c_7, if_neg c_8, if_neg c_9]) rfl rfl rfl rfl rfl) dX7_readPart_83
      · --F
        refine lv_aload_n hx hb dX7_readPart_44 rfl (lv_at hl 0 rfl) ?_
        refine g_callV (As := []) (rest := []) (st1 := [.int (qX7_readWagon_v (qX7_eat_A A T 119) T D )]) hF (mX7_readWagon_q M R O hL (qX7_eat_A A T 119) T D N V I K B  (RA_eat hA) hD (by have := lt_pl (x := 3) (n := 3) rfl hD.2.2.1.1 (by omega) (by decide) c_2; omega)) (cwV 0 hts gX7_readPart_X7_readWagon rfl rfl rfl (by decide +kernel) ⟨Nat.le_of_ble_eq_true rfl, Nat.le_of_ble_eq_true rfl⟩) hK hZ hG hS (hL.1 483 (by decide) (by decide)) (show gC 483 = (7, 24, 0) from rfl) (by decide) rfl rfl hl.1 (Nat.le_of_ble_eq_true rfl) dX7_readPart_45 ⟨Nat.zero_le _, Nat.zero_le _⟩ rfl rfl (fun H locs hG hS => ?_)
        exact g_zret hx hb hrt hlocks hS hG (by first | (unfold qX7_readHouse_v fX7_readHouse_v; (repeat' split) <;> decide) | (unfold qX7_readWagon_v fX7_readWagon_v; (repeat' split) <;> decide) | (unfold qX7_readFilling_v fX7_readFilling_v; (repeat' split) <;> decide)) (by unfold fX7_readPart_v; rw [if_pos c_1, if_neg c_2, if_neg c_6]) (mS_c (by unfold fX7_readPart_A; rw [if_pos c_1, if_neg c_2, if_neg c_6]) rfl (by unfold fX7_readPart_D; rw [if_pos c_1, if_neg c_2, if_neg c_6]) rfl rfl rfl rfl rfl) dX7_readPart_48
  · --F
    refine lv_aload_n hx hb dX7_readPart_11 rfl (lv_at hl 0 rfl) ?_
    refine lv_bipush (v := 104) hx hb dX7_readPart_12 (by decide) ?_
    refine g_callV (As := [.int 104]) (rest := []) (st1 := [.int (qX7_eat_v A T 104)]) hF (mX7_eat_q M R O hL A T D N V I K B 104 hA) (cwV 1 hts gX7_readPart_X7_eat rfl rfl rfl (by decide +kernel) ⟨Nat.le_of_ble_eq_true rfl, Nat.le_of_ble_eq_true rfl⟩) hK hZ hG hS (hL.1 483 (by decide) (by decide)) (show gC 483 = (7, 24, 0) from rfl) (by decide) rfl rfl hl.1 (Nat.le_of_ble_eq_true rfl) dX7_readPart_14 ⟨Nat.zero_le _, Nat.zero_le _⟩ rfl rfl (fun H locs hG hS => ?_)
    refine lv_if_eq (tgt := 25) hx hb dX7_readPart_17 (by decide) (fun c_10 => ?_) (fun c_10 => ?_)
    · --T
      refine lv_aload_n hx hb dX7_readPart_25 rfl (lv_at hl 0 rfl) ?_
      refine gM_getr hx hb hts in_X7 hown hK hL hG 4 (by decide) rfl hL.2.2.1 k_1 (fun _ h => h) dX7_readPart_26 ?_
      refine lv_iconst (v := 2) hx hb dX7_readPart_29 (by decide) ?_
      refine gm_ald hx hb hK hG (hL.1 485 (by decide) (by decide)) (show gC 485 = (9, 26, 0) from rfl) (show gLen 485 = 131 from rfl) (by decide) (j := 2) rfl (by omega) (v := D 2) (mS_a26 _ _ _ _ _ _ _ _ _ _) dX7_readPart_30 ?_
      refine lv_iconst (v := 3) hx hb dX7_readPart_31 (by decide) ?_
      refine lv_icmp_ge (tgt := 49) hx hb dX7_readPart_32 (by decide) (fun c_11 => ?_) (fun c_11 => ?_)
      · --T
        refine lv_aload_n hx hb dX7_readPart_49 rfl (lv_at hl 0 rfl) ?_
        refine g_callV (As := []) (rest := []) (st1 := [.int (qX7_filling_v D )]) hF (mX7_filling_q M R O hL (qX7_eat_A A T 104) T D N V I K B  hD) (cwV 0 hts gX7_readPart_X7_filling rfl rfl rfl (by decide +kernel) ⟨Nat.le_of_ble_eq_true rfl, Nat.le_of_ble_eq_true rfl⟩) hK hZ hG hS (hL.1 483 (by decide) (by decide)) (show gC 483 = (7, 24, 0) from rfl) (by decide) rfl rfl hl.1 (Nat.le_of_ble_eq_true rfl) dX7_readPart_50 ⟨Nat.zero_le _, Nat.zero_le _⟩ rfl rfl (fun H locs hG hS => ?_)
        refine lv_aload_n hx hb dX7_readPart_53 rfl (lv_at hl 0 rfl) ?_
        refine gM_getr hx hb hts in_X7 hown hK hL hG 4 (by decide) rfl hL.2.2.1 k_1 (fun _ h => h) dX7_readPart_54 ?_
        refine lv_iconst (v := 0) hx hb dX7_readPart_57 (by decide) ?_
        refine gm_ald hx hb hK hG (hL.1 485 (by decide) (by decide)) (show gC 485 = (9, 26, 0) from rfl) (show gLen 485 = 131 from rfl) (by decide) (j := 0) rfl (by omega) (v := D 0) (mS_a26 _ _ _ _ _ _ _ _ _ _) dX7_readPart_58 ?_
        refine lv_icmp_ge (tgt := 82) hx hb dX7_readPart_59 (by decide) (fun c_12 => ?_) (fun c_12 => ?_)
        · --T
          refine lv_iconst (v := 0) hx hb dX7_readPart_82 (by decide) ?_
          exact g_zret hx hb hrt hlocks hS hG (by decide) (by unfold fX7_readPart_v; rw [if_neg c_1, if_pos c_10, if_pos c_11, if_pos c_12]) (mS_c (by unfold fX7_readPart_A; rw [if_neg c_1, if_pos c_10, if_pos c_11, if_pos c_12]) rfl (by unfold fX7_readPart_D; rw [if_neg c_1, if_pos c_10, if_pos c_11, if_pos c_12]) rfl rfl rfl rfl rfl) dX7_readPart_83
        · --F
          refine lv_aload_n hx hb dX7_readPart_62 rfl (lv_at hl 0 rfl) ?_
          refine lv_bipush (v := 102) hx hb dX7_readPart_63 (by decide) ?_
          refine g_callV (As := [.int 102]) (rest := []) (st1 := [.int (qX7_eat_v (qX7_eat_A A T 104) T 102)]) hF (mX7_eat_q M R O hL (qX7_eat_A A T 104) T D N V I K B 102 (RA_eat hA)) (cwV 1 hts gX7_readPart_X7_eat rfl rfl rfl (by decide +kernel) ⟨Nat.le_of_ble_eq_true rfl, Nat.le_of_ble_eq_true rfl⟩) hK hZ hG hS (hL.1 483 (by decide) (by decide)) (show gC 483 = (7, 24, 0) from rfl) (by decide) rfl rfl hl.1 (Nat.le_of_ble_eq_true rfl) dX7_readPart_65 ⟨Nat.zero_le _, Nat.zero_le _⟩ rfl rfl (fun H locs hG hS => ?_)
          refine lv_if_eq (tgt := 82) hx hb dX7_readPart_68 (by decide) (fun c_13 => ?_) (fun c_13 => ?_)
          · --T
            refine lv_iconst (v := 0) hx hb dX7_readPart_82 (by decide) ?_
            exact g_zret hx hb hrt hlocks hS hG (by decide) (by unfold fX7_readPart_v; rw [if_neg c_1, if_pos c_10, if_pos c_11, if_neg c_12, if_pos c_13]) (mS_c (by unfold fX7_readPart_A; rw [if_neg c_1, if_pos c_10, if_pos c_11, if_neg c_12, if_pos c_13]) rfl (by unfold fX7_readPart_D; rw [if_neg c_1, if_pos c_10, if_pos c_11, if_neg c_12, if_pos c_13]) rfl rfl rfl rfl rfl) dX7_readPart_83
          · --F
            refine lv_aload_n hx hb dX7_readPart_71 rfl (lv_at hl 0 rfl) ?_
            refine g_callV (As := []) (rest := []) (st1 := [.int (qX7_readFilling_v (qX7_eat_A (qX7_eat_A A T 104) T 102) T D )]) hF (mX7_readFilling_q M R O hL (qX7_eat_A (qX7_eat_A A T 104) T 102) T D N V I K B  (RA_eat (RA_eat hA)) hD) (cwV 0 hts gX7_readPart_X7_readFilling rfl rfl rfl (by decide +kernel) ⟨Nat.le_of_ble_eq_true rfl, Nat.le_of_ble_eq_true rfl⟩) hK hZ hG hS (hL.1 483 (by decide) (by decide)) (show gC 483 = (7, 24, 0) from rfl) (by decide) rfl rfl hl.1 (Nat.le_of_ble_eq_true rfl) dX7_readPart_72 ⟨Nat.zero_le _, Nat.zero_le _⟩ rfl rfl (fun H locs hG hS => ?_)
            refine lv_if_eq (tgt := 82) hx hb dX7_readPart_75 (by decide) (fun c_14 => ?_) (fun c_14 => ?_)
            · --T
              refine lv_iconst (v := 0) hx hb dX7_readPart_82 (by decide) ?_
              exact g_zret hx hb hrt hlocks hS hG (by decide) (by unfold fX7_readPart_v; rw [if_neg c_1, if_pos c_10, if_pos c_11, if_neg c_12, if_neg c_13, if_pos c_14]) (mS_c (by unfold fX7_readPart_A; rw [if_neg c_1, if_pos c_10, if_pos c_11, if_neg c_12, if_neg c_13, if_pos c_14]) rfl (by unfold fX7_readPart_D; rw [if_neg c_1, if_pos c_10, if_pos c_11, if_neg c_12, if_neg c_13, if_pos c_14]) rfl rfl rfl rfl rfl) dX7_readPart_83
            · --F
              refine lv_iconst (v := 1) hx hb dX7_readPart_78 (by decide) ?_
              refine lv_goto (tgt := 83) hx hb dX7_readPart_79 (by decide) ?_
              exact g_zret hx hb hrt hlocks hS hG (by decide) (by unfold fX7_readPart_v; rw [if_neg c_1, if_pos c_10, if_pos c_11, if_neg c_12, if_neg c_13, if_neg c_14]) (mS_c (by unfold fX7_readPart_A; rw [if_neg c_1, if_pos c_10, if_pos c_11, if_neg c_12, if_neg c_13, if_neg c_14]) rfl (by unfold fX7_readPart_D; rw [if_neg c_1, if_pos c_10, if_pos c_11, if_neg c_12, if_neg c_13, if_neg c_14]) rfl rfl rfl rfl rfl) dX7_readPart_83
      · --F
        refine lv_aload_n hx hb dX7_readPart_35 rfl (lv_at hl 0 rfl) ?_
        refine lv_bipush (v := 119) hx hb dX7_readPart_36 (by decide) ?_
        refine g_callV (As := [.int 119]) (rest := []) (st1 := [.int (qX7_eat_v (qX7_eat_A A T 104) T 119)]) hF (mX7_eat_q M R O hL (qX7_eat_A A T 104) T D N V I K B 119 (RA_eat hA)) (cwV 1 hts gX7_readPart_X7_eat rfl rfl rfl (by decide +kernel) ⟨Nat.le_of_ble_eq_true rfl, Nat.le_of_ble_eq_true rfl⟩) hK hZ hG hS (hL.1 483 (by decide) (by decide)) (show gC 483 = (7, 24, 0) from rfl) (by decide) rfl rfl hl.1 (Nat.le_of_ble_eq_true rfl) dX7_readPart_38 ⟨Nat.zero_le _, Nat.zero_le _⟩ rfl rfl (fun H locs hG hS => ?_)
        refine lv_if_eq (tgt := 49) hx hb dX7_readPart_41 (by decide) (fun c_15 => ?_) (fun c_15 => ?_)
        · --T
          refine lv_aload_n hx hb dX7_readPart_49 rfl (lv_at hl 0 rfl) ?_
          refine g_callV (As := []) (rest := []) (st1 := [.int (qX7_filling_v D )]) hF (mX7_filling_q M R O hL (qX7_eat_A (qX7_eat_A A T 104) T 119) T D N V I K B  hD) (cwV 0 hts gX7_readPart_X7_filling rfl rfl rfl (by decide +kernel) ⟨Nat.le_of_ble_eq_true rfl, Nat.le_of_ble_eq_true rfl⟩) hK hZ hG hS (hL.1 483 (by decide) (by decide)) (show gC 483 = (7, 24, 0) from rfl) (by decide) rfl rfl hl.1 (Nat.le_of_ble_eq_true rfl) dX7_readPart_50 ⟨Nat.zero_le _, Nat.zero_le _⟩ rfl rfl (fun H locs hG hS => ?_)
          refine lv_aload_n hx hb dX7_readPart_53 rfl (lv_at hl 0 rfl) ?_
          refine gM_getr hx hb hts in_X7 hown hK hL hG 4 (by decide) rfl hL.2.2.1 k_1 (fun _ h => h) dX7_readPart_54 ?_
          refine lv_iconst (v := 0) hx hb dX7_readPart_57 (by decide) ?_
          refine gm_ald hx hb hK hG (hL.1 485 (by decide) (by decide)) (show gC 485 = (9, 26, 0) from rfl) (show gLen 485 = 131 from rfl) (by decide) (j := 0) rfl (by omega) (v := D 0) (mS_a26 _ _ _ _ _ _ _ _ _ _) dX7_readPart_58 ?_
          refine lv_icmp_ge (tgt := 82) hx hb dX7_readPart_59 (by decide) (fun c_16 => ?_) (fun c_16 => ?_)
          · --T
            refine lv_iconst (v := 0) hx hb dX7_readPart_82 (by decide) ?_
            exact g_zret hx hb hrt hlocks hS hG (by decide) (by unfold fX7_readPart_v; rw [if_neg c_1, if_pos c_10, if_neg c_11, if_pos c_15, if_pos c_16]) (mS_c (by unfold fX7_readPart_A; rw [if_neg c_1, if_pos c_10, if_neg c_11, if_pos c_15, if_pos c_16]) rfl (by unfold fX7_readPart_D; rw [if_neg c_1, if_pos c_10, if_neg c_11, if_pos c_15, if_pos c_16]) rfl rfl rfl rfl rfl) dX7_readPart_83
          · --F
            refine lv_aload_n hx hb dX7_readPart_62 rfl (lv_at hl 0 rfl) ?_
            refine lv_bipush (v := 102) hx hb dX7_readPart_63 (by decide) ?_
            refine g_callV (As := [.int 102]) (rest := []) (st1 := [.int (qX7_eat_v (qX7_eat_A (qX7_eat_A A T 104) T 119) T 102)]) hF (mX7_eat_q M R O hL (qX7_eat_A (qX7_eat_A A T 104) T 119) T D N V I K B 102 (RA_eat (RA_eat hA))) (cwV 1 hts gX7_readPart_X7_eat rfl rfl rfl (by decide +kernel) ⟨Nat.le_of_ble_eq_true rfl, Nat.le_of_ble_eq_true rfl⟩) hK hZ hG hS (hL.1 483 (by decide) (by decide)) (show gC 483 = (7, 24, 0) from rfl) (by decide) rfl rfl hl.1 (Nat.le_of_ble_eq_true rfl) dX7_readPart_65 ⟨Nat.zero_le _, Nat.zero_le _⟩ rfl rfl (fun H locs hG hS => ?_)
            refine lv_if_eq (tgt := 82) hx hb dX7_readPart_68 (by decide) (fun c_17 => ?_) (fun c_17 => ?_)
            · --T
              refine lv_iconst (v := 0) hx hb dX7_readPart_82 (by decide) ?_
              exact g_zret hx hb hrt hlocks hS hG (by decide) (by unfold fX7_readPart_v; rw [if_neg c_1, if_pos c_10, if_neg c_11, if_pos c_15, if_neg c_16, if_pos c_17]) (mS_c (by unfold fX7_readPart_A; rw [if_neg c_1, if_pos c_10, if_neg c_11, if_pos c_15, if_neg c_16, if_pos c_17]) rfl (by unfold fX7_readPart_D; rw [if_neg c_1, if_pos c_10, if_neg c_11, if_pos c_15, if_neg c_16, if_pos c_17]) rfl rfl rfl rfl rfl) dX7_readPart_83
            · --F
              refine lv_aload_n hx hb dX7_readPart_71 rfl (lv_at hl 0 rfl) ?_
              refine g_callV (As := []) (rest := []) (st1 := [.int (qX7_readFilling_v (qX7_eat_A (qX7_eat_A (qX7_eat_A A T 104) T 119) T 102) T D )]) hF (mX7_readFilling_q M R O hL (qX7_eat_A (qX7_eat_A (qX7_eat_A A T 104) T 119) T 102) T D N V I K B  (RA_eat (RA_eat (RA_eat hA))) hD) (cwV 0 hts gX7_readPart_X7_readFilling rfl rfl rfl (by decide +kernel) ⟨Nat.le_of_ble_eq_true rfl, Nat.le_of_ble_eq_true rfl⟩) hK hZ hG hS (hL.1 483 (by decide) (by decide)) (show gC 483 = (7, 24, 0) from rfl) (by decide) rfl rfl hl.1 (Nat.le_of_ble_eq_true rfl) dX7_readPart_72 ⟨Nat.zero_le _, Nat.zero_le _⟩ rfl rfl (fun H locs hG hS => ?_)
              refine lv_if_eq (tgt := 82) hx hb dX7_readPart_75 (by decide) (fun c_18 => ?_) (fun c_18 => ?_)
              · --T
                refine lv_iconst (v := 0) hx hb dX7_readPart_82 (by decide) ?_
                exact g_zret hx hb hrt hlocks hS hG (by decide) (by unfold fX7_readPart_v; rw [if_neg c_1, if_pos c_10, if_neg c_11, if_pos c_15, if_neg c_16, if_neg c_17, if_pos c_18]) (mS_c (by unfold fX7_readPart_A; rw [if_neg c_1, if_pos c_10, if_neg c_11, if_pos c_15, if_neg c_16, if_neg c_17, if_pos c_18]) rfl (by unfold fX7_readPart_D; rw [if_neg c_1, if_pos c_10, if_neg c_11, if_pos c_15, if_neg c_16, if_neg c_17, if_pos c_18]) rfl rfl rfl rfl rfl) dX7_readPart_83
              · --F
                refine lv_iconst (v := 1) hx hb dX7_readPart_78 (by decide) ?_
                refine lv_goto (tgt := 83) hx hb dX7_readPart_79 (by decide) ?_
                exact g_zret hx hb hrt hlocks hS hG (by decide) (by unfold fX7_readPart_v; rw [if_neg c_1, if_pos c_10, if_neg c_11, if_pos c_15, if_neg c_16, if_neg c_17, if_neg c_18]) (mS_c (by unfold fX7_readPart_A; rw [if_neg c_1, if_pos c_10, if_neg c_11, if_pos c_15, if_neg c_16, if_neg c_17, if_neg c_18]) rfl (by unfold fX7_readPart_D; rw [if_neg c_1, if_pos c_10, if_neg c_11, if_pos c_15, if_neg c_16, if_neg c_17, if_neg c_18]) rfl rfl rfl rfl rfl) dX7_readPart_83
        · --F
          refine lv_aload_n hx hb dX7_readPart_44 rfl (lv_at hl 0 rfl) ?_
          refine g_callV (As := []) (rest := []) (st1 := [.int (qX7_readWagon_v (qX7_eat_A (qX7_eat_A A T 104) T 119) T D )]) hF (mX7_readWagon_q M R O hL (qX7_eat_A (qX7_eat_A A T 104) T 119) T D N V I K B  (RA_eat (RA_eat hA)) hD (by have := lt_pl (x := 3) (n := 3) rfl hD.2.2.1.1 (by omega) (by decide) c_11; omega)) (cwV 0 hts gX7_readPart_X7_readWagon rfl rfl rfl (by decide +kernel) ⟨Nat.le_of_ble_eq_true rfl, Nat.le_of_ble_eq_true rfl⟩) hK hZ hG hS (hL.1 483 (by decide) (by decide)) (show gC 483 = (7, 24, 0) from rfl) (by decide) rfl rfl hl.1 (Nat.le_of_ble_eq_true rfl) dX7_readPart_45 ⟨Nat.zero_le _, Nat.zero_le _⟩ rfl rfl (fun H locs hG hS => ?_)
          exact g_zret hx hb hrt hlocks hS hG (by first | (unfold qX7_readHouse_v fX7_readHouse_v; (repeat' split) <;> decide) | (unfold qX7_readWagon_v fX7_readWagon_v; (repeat' split) <;> decide) | (unfold qX7_readFilling_v fX7_readFilling_v; (repeat' split) <;> decide)) (by unfold fX7_readPart_v; rw [if_neg c_1, if_pos c_10, if_neg c_11, if_neg c_15]) (mS_c (by unfold fX7_readPart_A; rw [if_neg c_1, if_pos c_10, if_neg c_11, if_neg c_15]) rfl (by unfold fX7_readPart_D; rw [if_neg c_1, if_pos c_10, if_neg c_11, if_neg c_15]) rfl rfl rfl rfl rfl) dX7_readPart_48
    · --F
      refine lv_aload_n hx hb dX7_readPart_20 rfl (lv_at hl 0 rfl) ?_
      refine g_callV (As := []) (rest := []) (st1 := [.int (qX7_readHouse_v (qX7_eat_A A T 104) T D )]) hF (mX7_readHouse_q M R O hL (qX7_eat_A A T 104) T D N V I K B  (RA_eat hA) hD (by have := lt_pl (x := 8) (n := 8) rfl hD.2.1.1 (by omega) (by decide) c_1; omega)) (cwV 0 hts gX7_readPart_X7_readHouse rfl rfl rfl (by decide +kernel) ⟨Nat.le_of_ble_eq_true rfl, Nat.le_of_ble_eq_true rfl⟩) hK hZ hG hS (hL.1 483 (by decide) (by decide)) (show gC 483 = (7, 24, 0) from rfl) (by decide) rfl rfl hl.1 (Nat.le_of_ble_eq_true rfl) dX7_readPart_21 ⟨Nat.zero_le _, Nat.zero_le _⟩ rfl rfl (fun H locs hG hS => ?_)
      exact g_zret hx hb hrt hlocks hS hG (by first | (unfold qX7_readHouse_v fX7_readHouse_v; (repeat' split) <;> decide) | (unfold qX7_readWagon_v fX7_readWagon_v; (repeat' split) <;> decide) | (unfold qX7_readFilling_v fX7_readFilling_v; (repeat' split) <;> decide)) (by unfold fX7_readPart_v; rw [if_neg c_1, if_neg c_10]) (mS_c (by unfold fX7_readPart_A; rw [if_neg c_1, if_neg c_10]) rfl (by unfold fX7_readPart_D; rw [if_neg c_1, if_neg c_10]) rfl rfl rfl rfl rfl) dX7_readPart_24

def qX7_readPart_v (A T D : Nat → Int32)  : Int32 := fX7_readPart_v A T D A A A A A 
def qX7_readPart_A (A T D : Nat → Int32)  : Nat → Int32 := fX7_readPart_A A T D A A A A A 
def qX7_readPart_D (A T D : Nat → Int32)  : Nat → Int32 := fX7_readPart_D A T D A A A A A 
theorem mX7_readPart_q {l : Launch} {Γ : gX} (M : Nat → Nat → Int32) (R : Nat → Nat → Option Nat) (O : Int64) (hL : LM Γ R) (A T D N V I K B : Nat → Int32) (hA : RA A) (hD : WS D) : gMet l Γ yX7_readPart wsX7_readPart 3 71 [.ref (gad Γ 483)] (mS M A T D N V I K B) R O (some (.int (qX7_readPart_v A T D ))) (mS M (qX7_readPart_A A T D ) T (qX7_readPart_D A T D ) N V I K B) R O := mX7_readPart M R O hL A T D N V I K B hA hD
