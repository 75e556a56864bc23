/-! THE CLASS: its reader, part by part. Laid by gen/p17.py. -/
def fX4_takeHouse_v (X G Q : Nat → Int32)  : Int32 := if (fX4_takeDigit_v X G (fX4_below_v (Q 0))) = (-1) then 0 else if (fX4_takeDigit_v (fX4_takeDigit_X X G (fX4_below_v (Q 0))) G (fX4_below_v 10)) = (-1) then 0 else if (fX2_buildHouse_v Q (fX4_takeDigit_v X G (fX4_below_v (Q 0))) (fX4_takeDigit_v (fX4_takeDigit_X X G (fX4_below_v (Q 0))) G (fX4_below_v 10))) < 0 then 0 else 1
def fX4_takeHouse_X (X G Q : Nat → Int32)  : Nat → Int32 := if (fX4_takeDigit_v X G (fX4_below_v (Q 0))) = (-1) then fX4_takeDigit_X X G (fX4_below_v (Q 0)) else if (fX4_takeDigit_v (fX4_takeDigit_X X G (fX4_below_v (Q 0))) G (fX4_below_v 10)) = (-1) then fX4_takeDigit_X (fX4_takeDigit_X X G (fX4_below_v (Q 0))) G (fX4_below_v 10) else if (fX2_buildHouse_v Q (fX4_takeDigit_v X G (fX4_below_v (Q 0))) (fX4_takeDigit_v (fX4_takeDigit_X X G (fX4_below_v (Q 0))) G (fX4_below_v 10))) < 0 then fX4_takeDigit_X (fX4_takeDigit_X X G (fX4_below_v (Q 0))) G (fX4_below_v 10) else fX4_takeDigit_X (fX4_takeDigit_X X G (fX4_below_v (Q 0))) G (fX4_below_v 10)
def fX4_takeHouse_Q (X G Q : Nat → Int32)  : Nat → Int32 := if (fX4_takeDigit_v X G (fX4_below_v (Q 0))) = (-1) then Q else if (fX4_takeDigit_v (fX4_takeDigit_X X G (fX4_below_v (Q 0))) G (fX4_below_v 10)) = (-1) then Q else if (fX2_buildHouse_v Q (fX4_takeDigit_v X G (fX4_below_v (Q 0))) (fX4_takeDigit_v (fX4_takeDigit_X X G (fX4_below_v (Q 0))) G (fX4_below_v 10))) < 0 then fX2_buildHouse_P Q (fX4_takeDigit_v X G (fX4_below_v (Q 0))) (fX4_takeDigit_v (fX4_takeDigit_X X G (fX4_below_v (Q 0))) G (fX4_below_v 10)) else fX2_buildHouse_P Q (fX4_takeDigit_v X G (fX4_below_v (Q 0))) (fX4_takeDigit_v (fX4_takeDigit_X X G (fX4_below_v (Q 0))) G (fX4_below_v 10))
set_option maxHeartbeats 4000000 in
set_option maxRecDepth 100000 in
theorem mX4_takeHouse {l : Launch} {Γ : gX} (M : Nat → Nat → Int32) (R : Nat → Nat → Option Nat) (O : Int64) (hC : LC Γ R) (X G J S C P Q : Nat → Int32)  : gMet l Γ yX4_takeHouse wsX4_takeHouse 2 44 [.ref (gad Γ 476), .ref (gad Γ (25 * 1))] (cS M X G J S C P Q) R O (some (.int (fX4_takeHouse_v X G Q ))) (cS M (fX4_takeHouse_X X G Q ) G J S C P (fX4_takeHouse_Q X G Q )) R O := by
  refine g_start (cc := cX4_takeHouse) (maxL := 4) (ret := (some .boolean)) (by decide) rfl (Nat.le_of_ble_eq_true rfl) ?_
  intro p e s m below meth c ls hx hb hml hrt hts hown hlocks hname hK hZ hG hS hl
  have hl : lv_has ls 4 [(0, .ref (gad Γ 476)), (1, .ref (gad Γ (25 * 1)))] := hl
  have hown : s.vm.findClass RX4 = some m.cls := hown
  have hF : CallFix p m c cX4_takeHouse 4 s _ wsX4_takeHouse RX4 := ⟨hx, hb, hml, hown, hts⟩
  have k_1 : (Cond.fieldLink RX4 59 "RoadDust$Road" "segments" "I").before _ s = true := hts _ (by decide +kernel)
  have in_X2 : ∀ w ∈ wsX20, w ∈ wsX4_takeHouse := by decide +kernel
  have hV0 := hC.2.1 0 (by decide)
  have hV1 := hC.2.1 1 (by decide)
  refine lv_aload_n hx hb dX4_takeHouse_0 rfl (lv_at hl 0 rfl) ?_
  refine lv_aload_n hx hb dX4_takeHouse_1 rfl (lv_at hl 1 rfl) ?_
  replace hG := g_st (show _ = va_up (cS M X G J S C P Q) 1 Q from (cS_u1 _ _ _ _ _ _ _ _ _).symm) hG
  refine gRd_get hx hb hts in_X2 hown hK hG hV1.1 hV1.c0 0 (by decide) k_1 (fun _ h => h) (j := 0) rfl dX4_takeHouse_2 ?_
  replace hG : GH Γ (cS M X G J S C P Q) R O _ := g_st (cS_u1 _ _ _ _ _ _ _ _ _) hG
  refine g_callS (As := [.int (Q 0)]) (rest := [.ref (gad Γ 476)]) (st1 := [.int (fX4_below_v (Q 0)), .ref (gad Γ 476)]) hF (mX4_below _ R O (Q 0)) (va_cwS 1 hts gX4_takeHouse_X4_below rfl rfl rfl (by decide +kernel) ⟨Nat.le_of_ble_eq_true rfl, Nat.le_of_ble_eq_true rfl⟩) hK hZ hG hS rfl hl.1 (Nat.le_of_ble_eq_true rfl) dX4_takeHouse_5 ⟨Nat.zero_le _, Nat.zero_le _⟩ rfl rfl (fun H locs hG hS => ?_)
  refine g_callV (As := [.int (fX4_below_v (Q 0))]) (rest := []) (st1 := [.int (fX4_takeDigit_v X G (fX4_below_v (Q 0)))]) hF (mX4_takeDigit M R O hC X G J S C P Q (fX4_below_v (Q 0)) ) (cwV 1 hts gX4_takeHouse_X4_takeDigit rfl rfl rfl (by decide +kernel) ⟨Nat.le_of_ble_eq_true rfl, Nat.le_of_ble_eq_true rfl⟩) hK hZ hG hS (hC.1 476 (by decide) (by decide)) (show gC 476 = (4, 19, 0) from rfl) (by decide) rfl rfl hl.1 (Nat.le_of_ble_eq_true rfl) dX4_takeHouse_8 ⟨Nat.zero_le _, Nat.zero_le _⟩ rfl rfl (fun H locs hG hS => ?_)
  refine lv_istore_n (lv' := [(2, .int (fX4_takeDigit_v X G (fX4_below_v (Q 0)))), (0, .ref (gad Γ 476)), (1, .ref (gad Γ (25 * 1)))]) hx hb dX4_takeHouse_11 rfl hl (by decide) rfl (fun ls hl => ?_)
  refine lv_iload_n hx hb dX4_takeHouse_12 rfl (lv_at hl 0 rfl) ?_
  refine lv_iconst (v := (-1)) hx hb dX4_takeHouse_13 (by decide) ?_
  refine lv_icmp_ne (tgt := 19) hx hb dX4_takeHouse_14 (by decide) (fun c_1 => ?_) (fun c_1 => ?_)
  · --T
    refine lv_aload_n hx hb dX4_takeHouse_19 rfl (lv_at hl 1 rfl) ?_
    refine lv_bipush (v := 10) hx hb dX4_takeHouse_20 (by decide) ?_
    refine g_callS (As := [.int 10]) (rest := [.ref (gad Γ 476)]) (st1 := [.int (fX4_below_v 10), .ref (gad Γ 476)]) hF (mX4_below _ R O 10) (va_cwS 1 hts gX4_takeHouse_X4_below rfl rfl rfl (by decide +kernel) ⟨Nat.le_of_ble_eq_true rfl, Nat.le_of_ble_eq_true rfl⟩) hK hZ hG hS rfl hl.1 (Nat.le_of_ble_eq_true rfl) dX4_takeHouse_22 ⟨Nat.zero_le _, Nat.zero_le _⟩ rfl rfl (fun H locs hG hS => ?_)
    refine g_callV (As := [.int (fX4_below_v 10)]) (rest := []) (st1 := [.int (fX4_takeDigit_v (fX4_takeDigit_X X G (fX4_below_v (Q 0))) G (fX4_below_v 10))]) hF (mX4_takeDigit M R O hC (fX4_takeDigit_X X G (fX4_below_v (Q 0))) G J S C P Q (fX4_below_v 10) ) (cwV 1 hts gX4_takeHouse_X4_takeDigit rfl rfl rfl (by decide +kernel) ⟨Nat.le_of_ble_eq_true rfl, Nat.le_of_ble_eq_true rfl⟩) hK hZ hG hS (hC.1 476 (by decide) (by decide)) (show gC 476 = (4, 19, 0) from rfl) (by decide) rfl rfl hl.1 (Nat.le_of_ble_eq_true rfl) dX4_takeHouse_25 ⟨Nat.zero_le _, Nat.zero_le _⟩ rfl rfl (fun H locs hG hS => ?_)
    refine lv_istore_n (lv' := [(3, .int (fX4_takeDigit_v (fX4_takeDigit_X X G (fX4_below_v (Q 0))) G (fX4_below_v 10))), (2, .int (fX4_takeDigit_v X G (fX4_below_v (Q 0)))), (0, .ref (gad Γ 476)), (1, .ref (gad Γ (25 * 1)))]) hx hb dX4_takeHouse_28 rfl hl (by decide) rfl (fun ls hl => ?_)
    refine lv_iload_n hx hb dX4_takeHouse_29 rfl (lv_at hl 0 rfl) ?_
    refine lv_iconst (v := (-1)) hx hb dX4_takeHouse_30 (by decide) ?_
    refine lv_icmp_eq (tgt := 47) hx hb dX4_takeHouse_31 (by decide) (fun c_2 => ?_) (fun c_2 => ?_)
    · --T
      refine lv_iconst (v := 0) hx hb dX4_takeHouse_47 (by decide) ?_
      exact g_zret hx hb hrt hlocks hS hG (by decide) (by unfold fX4_takeHouse_v; rw [if_neg c_1, if_pos c_2]) (cS_c (by unfold fX4_takeHouse_X; rw [if_neg c_1, if_pos c_2]) rfl rfl rfl rfl rfl (by unfold fX4_takeHouse_Q; rw [if_neg c_1, if_pos c_2])) dX4_takeHouse_48
    · --F
      refine lv_aload_n hx hb dX4_takeHouse_34 rfl (lv_at hl 3 rfl) ?_
      refine lv_iload_n hx hb dX4_takeHouse_35 rfl (lv_at hl 1 rfl) ?_
      refine lv_iload_n hx hb dX4_takeHouse_36 rfl (lv_at hl 0 rfl) ?_
      replace hG := g_st (show _ = va_up (cS M (fX4_takeDigit_X (fX4_takeDigit_X X G (fX4_below_v (Q 0))) G (fX4_below_v 10)) G J S C P Q) 1 Q from (cS_u1 _ _ _ _ _ _ _ _ _).symm) hG
      refine g_callV (As := [.int (fX4_takeDigit_v X G (fX4_below_v (Q 0))), .int (fX4_takeDigit_v (fX4_takeDigit_X X G (fX4_below_v (Q 0))) G (fX4_below_v 10))]) (rest := []) (st1 := [.int (fX2_buildHouse_v Q (fX4_takeDigit_v X G (fX4_below_v (Q 0))) (fX4_takeDigit_v (fX4_takeDigit_X X G (fX4_below_v (Q 0))) G (fX4_below_v 10)))]) hF (mX2_buildHouse (cS M (fX4_takeDigit_X (fX4_takeDigit_X X G (fX4_below_v (Q 0))) G (fX4_below_v 10)) G J S C P Q) R O hV1 Q (fX4_takeDigit_v X G (fX4_below_v (Q 0))) (fX4_takeDigit_v (fX4_takeDigit_X X G (fX4_below_v (Q 0))) G (fX4_below_v 10))) (cwV 2 hts gX4_takeHouse_X2_buildHouse rfl rfl rfl (by decide +kernel) ⟨Nat.le_of_ble_eq_true rfl, Nat.le_of_ble_eq_true rfl⟩) hK hZ hG hS hV1.c0 (gC_Rd hV1.1) (by decide) rfl rfl hl.1 (Nat.le_of_ble_eq_true rfl) dX4_takeHouse_37 ⟨Nat.zero_le _, Nat.zero_le _⟩ rfl rfl (fun H locs hG hS => ?_)
      replace hG : GH Γ (cS M (fX4_takeDigit_X (fX4_takeDigit_X X G (fX4_below_v (Q 0))) G (fX4_below_v 10)) G J S C P (fX2_buildHouse_P Q (fX4_takeDigit_v X G (fX4_below_v (Q 0))) (fX4_takeDigit_v (fX4_takeDigit_X X G (fX4_below_v (Q 0))) G (fX4_below_v 10)))) R O _ := g_st (cS_u1 _ _ _ _ _ _ _ _ _) hG
      refine lv_if_lt (tgt := 47) hx hb dX4_takeHouse_40 (by decide) (fun c_3 => ?_) (fun c_3 => ?_)
      · --T
        refine lv_iconst (v := 0) hx hb dX4_takeHouse_47 (by decide) ?_
        exact g_zret hx hb hrt hlocks hS hG (by decide) (by unfold fX4_takeHouse_v; rw [if_neg c_1, if_neg c_2, if_pos c_3]) (cS_c (by unfold fX4_takeHouse_X; rw [if_neg c_1, if_neg c_2, if_pos c_3]) rfl rfl rfl rfl rfl (by unfold fX4_takeHouse_Q; rw [if_neg c_1, if_neg c_2, if_pos c_3])) dX4_takeHouse_48
      · --F
        refine lv_iconst (v := 1) hx hb dX4_takeHouse_43 (by decide) ?_
        refine lv_goto (tgt := 48) hx hb dX4_takeHouse_44 (by decide) ?_
        exact g_zret hx hb hrt hlocks hS hG (by decide) (by unfold fX4_takeHouse_v; rw [if_neg c_1, if_neg c_2, if_neg c_3]) (cS_c (by unfold fX4_takeHouse_X; rw [if_neg c_1, if_neg c_2, if_neg c_3]) rfl rfl rfl rfl rfl (by unfold fX4_takeHouse_Q; rw [if_neg c_1, if_neg c_2, if_neg c_3])) dX4_takeHouse_48
  · --F
    refine lv_iconst (v := 0) hx hb dX4_takeHouse_17 (by decide) ?_
    exact g_zret hx hb hrt hlocks hS hG (by decide) (by unfold fX4_takeHouse_v; rw [if_pos c_1]) (cS_c (by unfold fX4_takeHouse_X; rw [if_pos c_1]) rfl rfl rfl rfl rfl (by unfold fX4_takeHouse_Q; rw [if_pos c_1])) dX4_takeHouse_18

def fX4_takePart_v (X G Q : Nat → Int32)  : Int32 := if 8 ≤ (Q 1) then if 3 ≤ (Q 2) then if ((fX4_below_v (Q 0)) &&& ((X 3) ^^^ (-1))) = 0 then 0 else if (fX4_takeSign_v X G 102) = 0 then 0 else if (fX4_takeFillingPlace_v (fX4_takeSign_X X G 102) G ((fX4_below_v (Q 0)) &&& ((X 3) ^^^ (-1)))) = 0 then 0 else 1 else if (fX4_takeSign_v X G 119) = 0 then if ((fX4_below_v (Q 0)) &&& (((fX4_takeSign_X X G 119) 3) ^^^ (-1))) = 0 then 0 else if (fX4_takeSign_v (fX4_takeSign_X X G 119) G 102) = 0 then 0 else if (fX4_takeFillingPlace_v (fX4_takeSign_X (fX4_takeSign_X X G 119) G 102) G ((fX4_below_v (Q 0)) &&& (((fX4_takeSign_X X G 119) 3) ^^^ (-1)))) = 0 then 0 else 1 else if (fX2_bringWagon_v Q (fX4_takeDigit_v (fX4_takeSign_X X G 119) G (fX4_below_v (Q 0)))) < 0 then 0 else 1 else if (fX4_takeSign_v X G 104) = 0 then if 3 ≤ (Q 2) then if ((fX4_below_v (Q 0)) &&& (((fX4_takeSign_X X G 104) 3) ^^^ (-1))) = 0 then 0 else if (fX4_takeSign_v (fX4_takeSign_X X G 104) G 102) = 0 then 0 else if (fX4_takeFillingPlace_v (fX4_takeSign_X (fX4_takeSign_X X G 104) G 102) G ((fX4_below_v (Q 0)) &&& (((fX4_takeSign_X X G 104) 3) ^^^ (-1)))) = 0 then 0 else 1 else if (fX4_takeSign_v (fX4_takeSign_X X G 104) G 119) = 0 then if ((fX4_below_v (Q 0)) &&& (((fX4_takeSign_X (fX4_takeSign_X X G 104) G 119) 3) ^^^ (-1))) = 0 then 0 else if (fX4_takeSign_v (fX4_takeSign_X (fX4_takeSign_X X G 104) G 119) G 102) = 0 then 0 else if (fX4_takeFillingPlace_v (fX4_takeSign_X (fX4_takeSign_X (fX4_takeSign_X X G 104) G 119) G 102) G ((fX4_below_v (Q 0)) &&& (((fX4_takeSign_X (fX4_takeSign_X X G 104) G 119) 3) ^^^ (-1)))) = 0 then 0 else 1 else if (fX2_bringWagon_v Q (fX4_takeDigit_v (fX4_takeSign_X (fX4_takeSign_X X G 104) G 119) G (fX4_below_v (Q 0)))) < 0 then 0 else 1 else fX4_takeHouse_v (fX4_takeSign_X X G 104) G Q 
def fX4_takePart_X (X G Q : Nat → Int32)  : Nat → Int32 := if 8 ≤ (Q 1) then if 3 ≤ (Q 2) then if ((fX4_below_v (Q 0)) &&& ((X 3) ^^^ (-1))) = 0 then X else if (fX4_takeSign_v X G 102) = 0 then fX4_takeSign_X X G 102 else if (fX4_takeFillingPlace_v (fX4_takeSign_X X G 102) G ((fX4_below_v (Q 0)) &&& ((X 3) ^^^ (-1)))) = 0 then fX4_takeFillingPlace_X (fX4_takeSign_X X G 102) G ((fX4_below_v (Q 0)) &&& ((X 3) ^^^ (-1))) else fX4_takeFillingPlace_X (fX4_takeSign_X X G 102) G ((fX4_below_v (Q 0)) &&& ((X 3) ^^^ (-1))) else if (fX4_takeSign_v X G 119) = 0 then if ((fX4_below_v (Q 0)) &&& (((fX4_takeSign_X X G 119) 3) ^^^ (-1))) = 0 then fX4_takeSign_X X G 119 else if (fX4_takeSign_v (fX4_takeSign_X X G 119) G 102) = 0 then fX4_takeSign_X (fX4_takeSign_X X G 119) G 102 else if (fX4_takeFillingPlace_v (fX4_takeSign_X (fX4_takeSign_X X G 119) G 102) G ((fX4_below_v (Q 0)) &&& (((fX4_takeSign_X X G 119) 3) ^^^ (-1)))) = 0 then fX4_takeFillingPlace_X (fX4_takeSign_X (fX4_takeSign_X X G 119) G 102) G ((fX4_below_v (Q 0)) &&& (((fX4_takeSign_X X G 119) 3) ^^^ (-1))) else fX4_takeFillingPlace_X (fX4_takeSign_X (fX4_takeSign_X X G 119) G 102) G ((fX4_below_v (Q 0)) &&& (((fX4_takeSign_X X G 119) 3) ^^^ (-1))) else if (fX2_bringWagon_v Q (fX4_takeDigit_v (fX4_takeSign_X X G 119) G (fX4_below_v (Q 0)))) < 0 then fX4_takeDigit_X (fX4_takeSign_X X G 119) G (fX4_below_v (Q 0)) else fX4_takeDigit_X (fX4_takeSign_X X G 119) G (fX4_below_v (Q 0)) else if (fX4_takeSign_v X G 104) = 0 then if 3 ≤ (Q 2) then if ((fX4_below_v (Q 0)) &&& (((fX4_takeSign_X X G 104) 3) ^^^ (-1))) = 0 then fX4_takeSign_X X G 104 else if (fX4_takeSign_v (fX4_takeSign_X X G 104) G 102) = 0 then fX4_takeSign_X (fX4_takeSign_X X G 104) G 102 else if (fX4_takeFillingPlace_v (fX4_takeSign_X (fX4_takeSign_X X G 104) G 102) G ((fX4_below_v (Q 0)) &&& (((fX4_takeSign_X X G 104) 3) ^^^ (-1)))) = 0 then fX4_takeFillingPlace_X (fX4_takeSign_X (fX4_takeSign_X X G 104) G 102) G ((fX4_below_v (Q 0)) &&& (((fX4_takeSign_X X G 104) 3) ^^^ (-1))) else fX4_takeFillingPlace_X (fX4_takeSign_X (fX4_takeSign_X X G 104) G 102) G ((fX4_below_v (Q 0)) &&& (((fX4_takeSign_X X G 104) 3) ^^^ (-1))) else if (fX4_takeSign_v (fX4_takeSign_X X G 104) G 119) = 0 then if ((fX4_below_v (Q 0)) &&& (((fX4_takeSign_X (fX4_takeSign_X X G 104) G 119) 3) ^^^ (-1))) = 0 then fX4_takeSign_X (fX4_takeSign_X X G 104) G 119 else if (fX4_takeSign_v (fX4_takeSign_X (fX4_takeSign_X X G 104) G 119) G 102) = 0 then fX4_takeSign_X (fX4_takeSign_X (fX4_takeSign_X X G 104) G 119) G 102 else if (fX4_takeFillingPlace_v (fX4_takeSign_X (fX4_takeSign_X (fX4_takeSign_X X G 104) G 119) G 102) G ((fX4_below_v (Q 0)) &&& (((fX4_takeSign_X (fX4_takeSign_X X G 104) G 119) 3) ^^^ (-1)))) = 0 then fX4_takeFillingPlace_X (fX4_takeSign_X (fX4_takeSign_X (fX4_takeSign_X X G 104) G 119) G 102) G ((fX4_below_v (Q 0)) &&& (((fX4_takeSign_X (fX4_takeSign_X X G 104) G 119) 3) ^^^ (-1))) else fX4_takeFillingPlace_X (fX4_takeSign_X (fX4_takeSign_X (fX4_takeSign_X X G 104) G 119) G 102) G ((fX4_below_v (Q 0)) &&& (((fX4_takeSign_X (fX4_takeSign_X X G 104) G 119) 3) ^^^ (-1))) else if (fX2_bringWagon_v Q (fX4_takeDigit_v (fX4_takeSign_X (fX4_takeSign_X X G 104) G 119) G (fX4_below_v (Q 0)))) < 0 then fX4_takeDigit_X (fX4_takeSign_X (fX4_takeSign_X X G 104) G 119) G (fX4_below_v (Q 0)) else fX4_takeDigit_X (fX4_takeSign_X (fX4_takeSign_X X G 104) G 119) G (fX4_below_v (Q 0)) else fX4_takeHouse_X (fX4_takeSign_X X G 104) G Q 
def fX4_takePart_Q (X G Q : Nat → Int32)  : Nat → Int32 := if 8 ≤ (Q 1) then if 3 ≤ (Q 2) then if ((fX4_below_v (Q 0)) &&& ((X 3) ^^^ (-1))) = 0 then Q else if (fX4_takeSign_v X G 102) = 0 then Q else if (fX4_takeFillingPlace_v (fX4_takeSign_X X G 102) G ((fX4_below_v (Q 0)) &&& ((X 3) ^^^ (-1)))) = 0 then Q else Q else if (fX4_takeSign_v X G 119) = 0 then if ((fX4_below_v (Q 0)) &&& (((fX4_takeSign_X X G 119) 3) ^^^ (-1))) = 0 then Q else if (fX4_takeSign_v (fX4_takeSign_X X G 119) G 102) = 0 then Q else if (fX4_takeFillingPlace_v (fX4_takeSign_X (fX4_takeSign_X X G 119) G 102) G ((fX4_below_v (Q 0)) &&& (((fX4_takeSign_X X G 119) 3) ^^^ (-1)))) = 0 then Q else Q else if (fX2_bringWagon_v Q (fX4_takeDigit_v (fX4_takeSign_X X G 119) G (fX4_below_v (Q 0)))) < 0 then fX2_bringWagon_P Q (fX4_takeDigit_v (fX4_takeSign_X X G 119) G (fX4_below_v (Q 0))) else fX2_bringWagon_P Q (fX4_takeDigit_v (fX4_takeSign_X X G 119) G (fX4_below_v (Q 0))) else if (fX4_takeSign_v X G 104) = 0 then if 3 ≤ (Q 2) then if ((fX4_below_v (Q 0)) &&& (((fX4_takeSign_X X G 104) 3) ^^^ (-1))) = 0 then Q else if (fX4_takeSign_v (fX4_takeSign_X X G 104) G 102) = 0 then Q else if (fX4_takeFillingPlace_v (fX4_takeSign_X (fX4_takeSign_X X G 104) G 102) G ((fX4_below_v (Q 0)) &&& (((fX4_takeSign_X X G 104) 3) ^^^ (-1)))) = 0 then Q else Q else if (fX4_takeSign_v (fX4_takeSign_X X G 104) G 119) = 0 then if ((fX4_below_v (Q 0)) &&& (((fX4_takeSign_X (fX4_takeSign_X X G 104) G 119) 3) ^^^ (-1))) = 0 then Q else if (fX4_takeSign_v (fX4_takeSign_X (fX4_takeSign_X X G 104) G 119) G 102) = 0 then Q else if (fX4_takeFillingPlace_v (fX4_takeSign_X (fX4_takeSign_X (fX4_takeSign_X X G 104) G 119) G 102) G ((fX4_below_v (Q 0)) &&& (((fX4_takeSign_X (fX4_takeSign_X X G 104) G 119) 3) ^^^ (-1)))) = 0 then Q else Q else if (fX2_bringWagon_v Q (fX4_takeDigit_v (fX4_takeSign_X (fX4_takeSign_X X G 104) G 119) G (fX4_below_v (Q 0)))) < 0 then fX2_bringWagon_P Q (fX4_takeDigit_v (fX4_takeSign_X (fX4_takeSign_X X G 104) G 119) G (fX4_below_v (Q 0))) else fX2_bringWagon_P Q (fX4_takeDigit_v (fX4_takeSign_X (fX4_takeSign_X X G 104) G 119) G (fX4_below_v (Q 0))) else fX4_takeHouse_Q (fX4_takeSign_X X G 104) G Q 
set_option maxHeartbeats 4000000 in
set_option maxRecDepth 100000 in
theorem mX4_takePart {l : Launch} {Γ : gX} (M : Nat → Nat → Int32) (R : Nat → Nat → Option Nat) (O : Int64) (hC : LC Γ R) (X G J S C P Q : Nat → Int32)  : gMet l Γ yX4_takePart wsX4_takePart 3 67 [.ref (gad Γ 476), .ref (gad Γ (25 * 1))] (cS M X G J S C P Q) R O (some (.int (fX4_takePart_v X G Q ))) (cS M (fX4_takePart_X X G Q ) G J S C P (fX4_takePart_Q X G Q )) R O := by
  refine g_start (cc := cX4_takePart) (maxL := 3) (ret := (some .boolean)) (by decide) rfl (Nat.le_of_ble_eq_true rfl) ?_
  intro p e s m below meth c ls hx hb hml hrt hts hown hlocks hname hK hZ hG hS hl
  have hl : lv_has ls 3 [(0, .ref (gad Γ 476)), (1, .ref (gad Γ (25 * 1)))] := hl
  have hown : s.vm.findClass RX4 = some m.cls := hown
  have hF : CallFix p m c cX4_takePart 3 s _ wsX4_takePart RX4 := ⟨hx, hb, hml, hown, hts⟩
  have k_1 : (Cond.fieldLink RX4 69 "RoadDust$Road" "houses" "I").before _ s = true := hts _ (by decide +kernel)
  have in_X2 : ∀ w ∈ wsX20, w ∈ wsX4_takePart := by decide +kernel
  have k_3 : (Cond.fieldLink RX4 75 "RoadDust$Road" "wagons" "I").before _ s = true := hts _ (by decide +kernel)
  have k_4 : (Cond.fieldLink RX4 59 "RoadDust$Road" "segments" "I").before _ s = true := hts _ (by decide +kernel)
  have k_5 : (Cond.fieldLink RX4 26 "RoadDust$Text" "told" "I").before _ s = true := hts _ (by decide +kernel)
  have in_X4 : ∀ w ∈ wsX40, w ∈ wsX4_takePart := by decide +kernel
  have hV0 := hC.2.1 0 (by decide)
  have hV1 := hC.2.1 1 (by decide)
  refine lv_aload_n hx hb dX4_takePart_0 rfl (lv_at hl 1 rfl) ?_
  replace hG := g_st (show _ = va_up (cS M X G J S C P Q) 1 Q from (cS_u1 _ _ _ _ _ _ _ _ _).symm) hG
  refine gRd_get hx hb hts in_X2 hown hK hG hV1.1 hV1.c0 1 (by decide) k_1 (fun _ h => h) (j := 1) rfl dX4_takePart_1 ?_
  replace hG : GH Γ (cS M X G J S C P Q) R O _ := g_st (cS_u1 _ _ _ _ _ _ _ _ _) hG
  refine lv_bipush (v := 8) hx hb dX4_takePart_4 (by decide) ?_
  refine lv_icmp_ge (tgt := 24) hx hb dX4_takePart_6 (by decide) (fun c_1 => ?_) (fun c_1 => ?_)
  · --T
    refine lv_aload_n hx hb dX4_takePart_24 rfl (lv_at hl 1 rfl) ?_
    replace hG := g_st (show _ = va_up (cS M X G J S C P Q) 1 Q from (cS_u1 _ _ _ _ _ _ _ _ _).symm) hG
    refine gRd_get hx hb hts in_X2 hown hK hG hV1.1 hV1.c0 2 (by decide) k_3 (fun _ h => h) (j := 2) rfl dX4_takePart_25 ?_
    replace hG : GH Γ (cS M X G J S C P Q) R O _ := g_st (cS_u1 _ _ _ _ _ _ _ _ _) hG
    refine lv_iconst (v := 3) hx hb dX4_takePart_28 (by decide) ?_
    refine lv_icmp_ge (tgt := 65) hx hb dX4_takePart_29 (by decide) (fun c_2 => ?_) (fun c_2 => ?_)
    · --T
      refine lv_aload_n hx hb dX4_takePart_65 rfl (lv_at hl 1 rfl) ?_
      replace hG := g_st (show _ = va_up (cS M X G J S C P Q) 1 Q from (cS_u1 _ _ _ _ _ _ _ _ _).symm) hG
      refine gRd_get hx hb hts in_X2 hown hK hG hV1.1 hV1.c0 0 (by decide) k_4 (fun _ h => h) (j := 0) rfl dX4_takePart_66 ?_
      replace hG : GH Γ (cS M X G J S C P Q) R O _ := g_st (cS_u1 _ _ _ _ _ _ _ _ _) hG
      refine g_callS (As := [.int (Q 0)]) (rest := []) (st1 := [.int (fX4_below_v (Q 0))]) hF (mX4_below _ R O (Q 0)) (va_cwS 1 hts gX4_takePart_X4_below rfl rfl rfl (by decide +kernel) ⟨Nat.le_of_ble_eq_true rfl, Nat.le_of_ble_eq_true rfl⟩) hK hZ hG hS rfl hl.1 (Nat.le_of_ble_eq_true rfl) dX4_takePart_69 ⟨Nat.zero_le _, Nat.zero_le _⟩ rfl rfl (fun H locs hG hS => ?_)
      refine lv_aload_n hx hb dX4_takePart_72 rfl (lv_at hl 0 rfl) ?_
      refine go_get (C := RX4) (T := TX4) (ci := 4) hx hb hts in_X4 hown hK hG (hC.1 476 (by decide) (by decide)) (show gC 476 = (4, 19, 0) from rfl) (by decide) rfl 3 (by decide) rfl k_5 (fun _ h => h) (v := X 3) (cS_a19 _ _ _ _ _ _ _ _ _) dX4_takePart_73 ?_
      refine lv_iconst (v := (-1)) hx hb dX4_takePart_76 (by decide) ?_
      refine lv_ixor hx hb dX4_takePart_77 ?_
      refine lv_iand hx hb dX4_takePart_78 ?_
      refine lv_istore_n (lv' := [(2, .int ((fX4_below_v (Q 0)) &&& ((X 3) ^^^ (-1)))), (0, .ref (gad Γ 476)), (1, .ref (gad Γ (25 * 1)))]) hx hb dX4_takePart_79 rfl hl (by decide) rfl (fun ls hl => ?_)
      refine lv_iload_n hx hb dX4_takePart_80 rfl (lv_at hl 0 rfl) ?_
      refine lv_if_eq (tgt := 105) hx hb dX4_takePart_81 (by decide) (fun c_3 => ?_) (fun c_3 => ?_)
      · --T
        refine lv_iconst (v := 0) hx hb dX4_takePart_105 (by decide) ?_
        exact g_zret hx hb hrt hlocks hS hG (by decide) (by unfold fX4_takePart_v; rw [if_pos c_1, if_pos c_2, if_pos c_3]) (cS_c (by unfold fX4_takePart_X; rw [if_pos c_1, if_pos c_2, if_pos c_3]) rfl rfl rfl rfl rfl (by unfold fX4_takePart_Q; rw [if_pos c_1, if_pos c_2, if_pos c_3])) dX4_takePart_106
      · --F
        refine lv_aload_n hx hb dX4_takePart_84 rfl (lv_at hl 1 rfl) ?_
        refine lv_bipush (v := 102) hx hb dX4_takePart_85 (by decide) ?_
        refine g_callV (As := [.int 102]) (rest := []) (st1 := [.int (fX4_takeSign_v X G 102)]) hF (mX4_takeSign M R O hC X G J S C P Q 102 ) (cwV 1 hts gX4_takePart_X4_takeSign rfl rfl rfl (by decide +kernel) ⟨Nat.le_of_ble_eq_true rfl, Nat.le_of_ble_eq_true rfl⟩) hK hZ hG hS (hC.1 476 (by decide) (by decide)) (show gC 476 = (4, 19, 0) from rfl) (by decide) rfl rfl hl.1 (Nat.le_of_ble_eq_true rfl) dX4_takePart_87 ⟨Nat.zero_le _, Nat.zero_le _⟩ rfl rfl (fun H locs hG hS => ?_)
        refine lv_if_eq (tgt := 105) hx hb dX4_takePart_90 (by decide) (fun c_4 => ?_) (fun c_4 => ?_)
        · --T
          refine lv_iconst (v := 0) hx hb dX4_takePart_105 (by decide) ?_
          exact g_zret hx hb hrt hlocks hS hG (by decide) (by unfold fX4_takePart_v; rw [if_pos c_1, if_pos c_2, if_neg c_3, if_pos c_4]) (cS_c (by unfold fX4_takePart_X; rw [if_pos c_1, if_pos c_2, if_neg c_3, if_pos c_4]) rfl rfl rfl rfl rfl (by unfold fX4_takePart_Q; rw [if_pos c_1, if_pos c_2, if_neg c_3, if_pos c_4])) dX4_takePart_106
        · --F
          refine lv_aload_n hx hb dX4_takePart_93 rfl (lv_at hl 1 rfl) ?_
          refine lv_iload_n hx hb dX4_takePart_94 rfl (lv_at hl 0 rfl) ?_
          refine g_callV (As := [.int ((fX4_below_v (Q 0)) &&& ((X 3) ^^^ (-1)))]) (rest := []) (st1 := [.int (fX4_takeFillingPlace_v (fX4_takeSign_X X G 102) G ((fX4_below_v (Q 0)) &&& ((X 3) ^^^ (-1))))]) hF (mX4_takeFillingPlace M R O hC (fX4_takeSign_X X G 102) G J S C P Q ((fX4_below_v (Q 0)) &&& ((X 3) ^^^ (-1))) ) (cwV 1 hts gX4_takePart_X4_takeFillingPlace rfl rfl rfl (by decide +kernel) ⟨Nat.le_of_ble_eq_true rfl, Nat.le_of_ble_eq_true rfl⟩) hK hZ hG hS (hC.1 476 (by decide) (by decide)) (show gC 476 = (4, 19, 0) from rfl) (by decide) rfl rfl hl.1 (Nat.le_of_ble_eq_true rfl) dX4_takePart_95 ⟨Nat.zero_le _, Nat.zero_le _⟩ rfl rfl (fun H locs hG hS => ?_)
          refine lv_if_eq (tgt := 105) hx hb dX4_takePart_98 (by decide) (fun c_5 => ?_) (fun c_5 => ?_)
          · --T
            refine lv_iconst (v := 0) hx hb dX4_takePart_105 (by decide) ?_
            exact g_zret hx hb hrt hlocks hS hG (by decide) (by unfold fX4_takePart_v; rw [if_pos c_1, if_pos c_2, if_neg c_3, if_neg c_4, if_pos c_5]) (cS_c (by unfold fX4_takePart_X; rw [if_pos c_1, if_pos c_2, if_neg c_3, if_neg c_4, if_pos c_5]) rfl rfl rfl rfl rfl (by unfold fX4_takePart_Q; rw [if_pos c_1, if_pos c_2, if_neg c_3, if_neg c_4, if_pos c_5])) dX4_takePart_106
          · --F
            refine lv_iconst (v := 1) hx hb dX4_takePart_101 (by decide) ?_
            refine lv_goto (tgt := 106) hx hb dX4_takePart_102 (by decide) ?_
            exact g_zret hx hb hrt hlocks hS hG (by decide) (by unfold fX4_takePart_v; rw [if_pos c_1, if_pos c_2, if_neg c_3, if_neg c_4, if_neg c_5]) (cS_c (by unfold fX4_takePart_X; rw [if_pos c_1, if_pos c_2, if_neg c_3, if_neg c_4, if_neg c_5]) rfl rfl rfl rfl rfl (by unfold fX4_takePart_Q; rw [if_pos c_1, if_pos c_2, if_neg c_3, if_neg c_4, if_neg c_5])) dX4_takePart_106
    · --F
      refine lv_aload_n hx hb dX4_takePart_32 rfl (lv_at hl 0 rfl) ?_
      refine lv_bipush (v := 119) hx hb dX4_takePart_33 (by decide) ?_
      refine g_callV (As := [.int 119]) (rest := []) (st1 := [.int (fX4_takeSign_v X G 119)]) hF (mX4_takeSign M R O hC X G J S C P Q 119 ) (cwV 1 hts gX4_takePart_X4_takeSign rfl rfl rfl (by decide +kernel) ⟨Nat.le_of_ble_eq_true rfl, Nat.le_of_ble_eq_true rfl⟩) hK hZ hG hS (hC.1 476 (by decide) (by decide)) (show gC 476 = (4, 19, 0) from rfl) (by decide) rfl rfl hl.1 (Nat.le_of_ble_eq_true rfl) dX4_takePart_35 ⟨Nat.zero_le _, Nat.zero_le _⟩ rfl rfl (fun H locs hG hS => ?_)
      refine lv_if_eq (tgt := 65) hx hb dX4_takePart_38 (by decide) (fun c_6 => ?_) (fun c_6 => ?_)
      · --T
        refine lv_aload_n hx hb dX4_takePart_65 rfl (lv_at hl 1 rfl) ?_
        replace hG := g_st (show _ = va_up (cS M (fX4_takeSign_X X G 119) G J S C P Q) 1 Q from (cS_u1 _ _ _ _ _ _ _ _ _).symm) hG
        refine gRd_get hx hb hts in_X2 hown hK hG hV1.1 hV1.c0 0 (by decide) k_4 (fun _ h => h) (j := 0) rfl dX4_takePart_66 ?_
        replace hG : GH Γ (cS M (fX4_takeSign_X X G 119) G J S C P Q) R O _ := g_st (cS_u1 _ _ _ _ _ _ _ _ _) hG
        refine g_callS (As := [.int (Q 0)]) (rest := []) (st1 := [.int (fX4_below_v (Q 0))]) hF (mX4_below _ R O (Q 0)) (va_cwS 1 hts gX4_takePart_X4_below rfl rfl rfl (by decide +kernel) ⟨Nat.le_of_ble_eq_true rfl, Nat.le_of_ble_eq_true rfl⟩) hK hZ hG hS rfl hl.1 (Nat.le_of_ble_eq_true rfl) dX4_takePart_69 ⟨Nat.zero_le _, Nat.zero_le _⟩ rfl rfl (fun H locs hG hS => ?_)
        refine lv_aload_n hx hb dX4_takePart_72 rfl (lv_at hl 0 rfl) ?_
        refine go_get (C := RX4) (T := TX4) (ci := 4) hx hb hts in_X4 hown hK hG (hC.1 476 (by decide) (by decide)) (show gC 476 = (4, 19, 0) from rfl) (by decide) rfl 3 (by decide) rfl k_5 (fun _ h => h) (v := (fX4_takeSign_X X G 119) 3) (cS_a19 _ _ _ _ _ _ _ _ _) dX4_takePart_73 ?_
        refine lv_iconst (v := (-1)) hx hb dX4_takePart_76 (by decide) ?_
        refine lv_ixor hx hb dX4_takePart_77 ?_
        refine lv_iand hx hb dX4_takePart_78 ?_
        refine lv_istore_n (lv' := [(2, .int ((fX4_below_v (Q 0)) &&& (((fX4_takeSign_X X G 119) 3) ^^^ (-1)))), (0, .ref (gad Γ 476)), (1, .ref (gad Γ (25 * 1)))]) hx hb dX4_takePart_79 rfl hl (by decide) rfl (fun ls hl => ?_)
        refine lv_iload_n hx hb dX4_takePart_80 rfl (lv_at hl 0 rfl) ?_
        refine lv_if_eq (tgt := 105) hx hb dX4_takePart_81 (by decide) (fun c_7 => ?_) (fun c_7 => ?_)
        · --T
          refine lv_iconst (v := 0) hx hb dX4_takePart_105 (by decide) ?_
          exact g_zret hx hb hrt hlocks hS hG (by decide) (by unfold fX4_takePart_v; rw [if_pos c_1, if_neg c_2, if_pos c_6, if_pos c_7]) (cS_c (by unfold fX4_takePart_X; rw [if_pos c_1, if_neg c_2, if_pos c_6, if_pos c_7]) rfl rfl rfl rfl rfl (by unfold fX4_takePart_Q; rw [if_pos c_1, if_neg c_2, if_pos c_6, if_pos c_7])) dX4_takePart_106
        · --F
          refine lv_aload_n hx hb dX4_takePart_84 rfl (lv_at hl 1 rfl) ?_
          refine lv_bipush (v := 102) hx hb dX4_takePart_85 (by decide) ?_
          refine g_callV (As := [.int 102]) (rest := []) (st1 := [.int (fX4_takeSign_v (fX4_takeSign_X X G 119) G 102)]) hF (mX4_takeSign M R O hC (fX4_takeSign_X X G 119) G J S C P Q 102 ) (cwV 1 hts gX4_takePart_X4_takeSign rfl rfl rfl (by decide +kernel) ⟨Nat.le_of_ble_eq_true rfl, Nat.le_of_ble_eq_true rfl⟩) hK hZ hG hS (hC.1 476 (by decide) (by decide)) (show gC 476 = (4, 19, 0) from rfl) (by decide) rfl rfl hl.1 (Nat.le_of_ble_eq_true rfl) dX4_takePart_87 ⟨Nat.zero_le _, Nat.zero_le _⟩ rfl rfl (fun H locs hG hS => ?_)
          refine lv_if_eq (tgt := 105) hx hb dX4_takePart_90 (by decide) (fun c_8 => ?_) (fun c_8 => ?_)
          · --T
            refine lv_iconst (v := 0) hx hb dX4_takePart_105 (by decide) ?_
            exact g_zret hx hb hrt hlocks hS hG (by decide) (by unfold fX4_takePart_v; rw [if_pos c_1, if_neg c_2, if_pos c_6, if_neg c_7, if_pos c_8]) (cS_c (by unfold fX4_takePart_X; rw [if_pos c_1, if_neg c_2, if_pos c_6, if_neg c_7, if_pos c_8]) rfl rfl rfl rfl rfl (by unfold fX4_takePart_Q; rw [if_pos c_1, if_neg c_2, if_pos c_6, if_neg c_7, if_pos c_8])) dX4_takePart_106
          · --F
            refine lv_aload_n hx hb dX4_takePart_93 rfl (lv_at hl 1 rfl) ?_
            refine lv_iload_n hx hb dX4_takePart_94 rfl (lv_at hl 0 rfl) ?_
            refine g_callV (As := [.int ((fX4_below_v (Q 0)) &&& (((fX4_takeSign_X X G 119) 3) ^^^ (-1)))]) (rest := []) (st1 := [.int (fX4_takeFillingPlace_v (fX4_takeSign_X (fX4_takeSign_X X G 119) G 102) G ((fX4_below_v (Q 0)) &&& (((fX4_takeSign_X X G 119) 3) ^^^ (-1))))]) hF (mX4_takeFillingPlace M R O hC (fX4_takeSign_X (fX4_takeSign_X X G 119) G 102) G J S C P Q ((fX4_below_v (Q 0)) &&& (((fX4_takeSign_X X G 119) 3) ^^^ (-1))) ) (cwV 1 hts gX4_takePart_X4_takeFillingPlace rfl rfl rfl (by decide +kernel) ⟨Nat.le_of_ble_eq_true rfl, Nat.le_of_ble_eq_true rfl⟩) hK hZ hG hS (hC.1 476 (by decide) (by decide)) (show gC 476 = (4, 19, 0) from rfl) (by decide) rfl rfl hl.1 (Nat.le_of_ble_eq_true rfl) dX4_takePart_95 ⟨Nat.zero_le _, Nat.zero_le _⟩ rfl rfl (fun H locs hG hS => ?_)
            refine lv_if_eq (tgt := 105) hx hb dX4_takePart_98 (by decide) (fun c_9 => ?_) (fun c_9 => ?_)
            · --T
              refine lv_iconst (v := 0) hx hb dX4_takePart_105 (by decide) ?_
              exact g_zret hx hb hrt hlocks hS hG (by decide) (by unfold fX4_takePart_v; rw [if_pos c_1, if_neg c_2, if_pos c_6, if_neg c_7, if_neg c_8, if_pos c_9]) (cS_c (by unfold fX4_takePart_X; rw [if_pos c_1, if_neg c_2, if_pos c_6, if_neg c_7, if_neg c_8, if_pos c_9]) rfl rfl rfl rfl rfl (by unfold fX4_takePart_Q; rw [if_pos c_1, if_neg c_2, if_pos c_6, if_neg c_7, if_neg c_8, if_pos c_9])) dX4_takePart_106
            · --F
              refine lv_iconst (v := 1) hx hb dX4_takePart_101 (by decide) ?_
              refine lv_goto (tgt := 106) hx hb dX4_takePart_102 (by decide) ?_
              exact g_zret hx hb hrt hlocks hS hG (by decide) (by unfold fX4_takePart_v; rw [if_pos c_1, if_neg c_2, if_pos c_6, if_neg c_7, if_neg c_8, if_neg c_9]) (cS_c (by unfold fX4_takePart_X; rw [if_pos c_1, if_neg c_2, if_pos c_6, if_neg c_7, if_neg c_8, if_neg c_9]) rfl rfl rfl rfl rfl (by unfold fX4_takePart_Q; rw [if_pos c_1, if_neg c_2, if_pos c_6, if_neg c_7, if_neg c_8, if_neg c_9])) dX4_takePart_106
      · --F
        refine lv_aload_n hx hb dX4_takePart_41 rfl (lv_at hl 1 rfl) ?_
        refine lv_aload_n hx hb dX4_takePart_42 rfl (lv_at hl 0 rfl) ?_
        refine lv_aload_n hx hb dX4_takePart_43 rfl (lv_at hl 1 rfl) ?_
        replace hG := g_st (show _ = va_up (cS M (fX4_takeSign_X X G 119) G J S C P Q) 1 Q from (cS_u1 _ _ _ _ _ _ _ _ _).symm) hG
        refine gRd_get hx hb hts in_X2 hown hK hG hV1.1 hV1.c0 0 (by decide) k_4 (fun _ h => h) (j := 0) rfl dX4_takePart_44 ?_
        replace hG : GH Γ (cS M (fX4_takeSign_X X G 119) G J S C P Q) R O _ := g_st (cS_u1 _ _ _ _ _ _ _ _ _) hG
        refine g_callS (As := [.int (Q 0)]) (rest := [.ref (gad Γ 476), .ref (gad Γ (25 * 1))]) (st1 := [.int (fX4_below_v (Q 0)), .ref (gad Γ 476), .ref (gad Γ (25 * 1))]) hF (mX4_below _ R O (Q 0)) (va_cwS 1 hts gX4_takePart_X4_below rfl rfl rfl (by decide +kernel) ⟨Nat.le_of_ble_eq_true rfl, Nat.le_of_ble_eq_true rfl⟩) hK hZ hG hS rfl hl.1 (Nat.le_of_ble_eq_true rfl) dX4_takePart_47 ⟨Nat.zero_le _, Nat.zero_le _⟩ rfl rfl (fun H locs hG hS => ?_)
        refine g_callV (As := [.int (fX4_below_v (Q 0))]) (rest := [.ref (gad Γ (25 * 1))]) (st1 := [.int (fX4_takeDigit_v (fX4_takeSign_X X G 119) G (fX4_below_v (Q 0))), .ref (gad Γ (25 * 1))]) hF (mX4_takeDigit M R O hC (fX4_takeSign_X X G 119) G J S C P Q (fX4_below_v (Q 0)) ) (cwV 1 hts gX4_takePart_X4_takeDigit rfl rfl rfl (by decide +kernel) ⟨Nat.le_of_ble_eq_true rfl, Nat.le_of_ble_eq_true rfl⟩) hK hZ hG hS (hC.1 476 (by decide) (by decide)) (show gC 476 = (4, 19, 0) from rfl) (by decide) rfl rfl hl.1 (Nat.le_of_ble_eq_true rfl) dX4_takePart_50 ⟨Nat.zero_le _, Nat.zero_le _⟩ rfl rfl (fun H locs hG hS => ?_)
        replace hG := g_st (show _ = va_up (cS M (fX4_takeDigit_X (fX4_takeSign_X X G 119) G (fX4_below_v (Q 0))) G J S C P Q) 1 Q from (cS_u1 _ _ _ _ _ _ _ _ _).symm) hG
        refine g_callV (As := [.int (fX4_takeDigit_v (fX4_takeSign_X X G 119) G (fX4_below_v (Q 0)))]) (rest := []) (st1 := [.int (fX2_bringWagon_v Q (fX4_takeDigit_v (fX4_takeSign_X X G 119) G (fX4_below_v (Q 0))))]) hF (mX2_bringWagon (cS M (fX4_takeDigit_X (fX4_takeSign_X X G 119) G (fX4_below_v (Q 0))) G J S C P Q) R O hV1 Q (fX4_takeDigit_v (fX4_takeSign_X X G 119) G (fX4_below_v (Q 0)))) (cwV 1 hts gX4_takePart_X2_bringWagon rfl rfl rfl (by decide +kernel) ⟨Nat.le_of_ble_eq_true rfl, Nat.le_of_ble_eq_true rfl⟩) hK hZ hG hS hV1.c0 (gC_Rd hV1.1) (by decide) rfl rfl hl.1 (Nat.le_of_ble_eq_true rfl) dX4_takePart_53 ⟨Nat.zero_le _, Nat.zero_le _⟩ rfl rfl (fun H locs hG hS => ?_)
        replace hG : GH Γ (cS M (fX4_takeDigit_X (fX4_takeSign_X X G 119) G (fX4_below_v (Q 0))) G J S C P (fX2_bringWagon_P Q (fX4_takeDigit_v (fX4_takeSign_X X G 119) G (fX4_below_v (Q 0))))) R O _ := g_st (cS_u1 _ _ _ _ _ _ _ _ _) hG
        refine lv_if_lt (tgt := 63) hx hb dX4_takePart_56 (by decide) (fun c_10 => ?_) (fun c_10 => ?_)
        · --T
          refine lv_iconst (v := 0) hx hb dX4_takePart_63 (by decide) ?_
          exact g_zret hx hb hrt hlocks hS hG (by decide) (by unfold fX4_takePart_v; rw [if_pos c_1, if_neg c_2, if_neg c_6, if_pos c_10]) (cS_c (by unfold fX4_takePart_X; rw [if_pos c_1, if_neg c_2, if_neg c_6, if_pos c_10]) rfl rfl rfl rfl rfl (by unfold fX4_takePart_Q; rw [if_pos c_1, if_neg c_2, if_neg c_6, if_pos c_10])) dX4_takePart_64
        · --F
          refine lv_iconst (v := 1) hx hb dX4_takePart_59 (by decide) ?_
          refine lv_goto (tgt := 64) hx hb dX4_takePart_60 (by decide) ?_
          exact g_zret hx hb hrt hlocks hS hG (by decide) (by unfold fX4_takePart_v; rw [if_pos c_1, if_neg c_2, if_neg c_6, if_neg c_10]) (cS_c (by unfold fX4_takePart_X; rw [if_pos c_1, if_neg c_2, if_neg c_6, if_neg c_10]) rfl rfl rfl rfl rfl (by unfold fX4_takePart_Q; rw [if_pos c_1, if_neg c_2, if_neg c_6, if_neg c_10])) dX4_takePart_64
  · --F
    refine lv_aload_n hx hb dX4_takePart_9 rfl (lv_at hl 0 rfl) ?_
    refine lv_bipush (v := 104) hx hb dX4_takePart_10 (by decide) ?_
    refine g_callV (As := [.int 104]) (rest := []) (st1 := [.int (fX4_takeSign_v X G 104)]) hF (mX4_takeSign M R O hC X G J S C P Q 104 ) (cwV 1 hts gX4_takePart_X4_takeSign rfl rfl rfl (by decide +kernel) ⟨Nat.le_of_ble_eq_true rfl, Nat.le_of_ble_eq_true rfl⟩) hK hZ hG hS (hC.1 476 (by decide) (by decide)) (show gC 476 = (4, 19, 0) from rfl) (by decide) rfl rfl hl.1 (Nat.le_of_ble_eq_true rfl) dX4_takePart_12 ⟨Nat.zero_le _, Nat.zero_le _⟩ rfl rfl (fun H locs hG hS => ?_)
    refine lv_if_eq (tgt := 24) hx hb dX4_takePart_15 (by decide) (fun c_11 => ?_) (fun c_11 => ?_)
    · --T
      refine lv_aload_n hx hb dX4_takePart_24 rfl (lv_at hl 1 rfl) ?_
      replace hG := g_st (show _ = va_up (cS M (fX4_takeSign_X X G 104) G J S C P Q) 1 Q from (cS_u1 _ _ _ _ _ _ _ _ _).symm) hG
      refine gRd_get hx hb hts in_X2 hown hK hG hV1.1 hV1.c0 2 (by decide) k_3 (fun _ h => h) (j := 2) rfl dX4_takePart_25 ?_
      replace hG : GH Γ (cS M (fX4_takeSign_X X G 104) G J S C P Q) R O _ := g_st (cS_u1 _ _ _ _ _ _ _ _ _) hG
      refine lv_iconst (v := 3) hx hb dX4_takePart_28 (by decide) ?_
      refine lv_icmp_ge (tgt := 65) hx hb dX4_takePart_29 (by decide) (fun c_12 => ?_) (fun c_12 => ?_)
      · --T
        refine lv_aload_n hx hb dX4_takePart_65 rfl (lv_at hl 1 rfl) ?_
        replace hG := g_st (show _ = va_up (cS M (fX4_takeSign_X X G 104) G J S C P Q) 1 Q from (cS_u1 _ _ _ _ _ _ _ _ _).symm) hG
        refine gRd_get hx hb hts in_X2 hown hK hG hV1.1 hV1.c0 0 (by decide) k_4 (fun _ h => h) (j := 0) rfl dX4_takePart_66 ?_
        replace hG : GH Γ (cS M (fX4_takeSign_X X G 104) G J S C P Q) R O _ := g_st (cS_u1 _ _ _ _ _ _ _ _ _) hG
        refine g_callS (As := [.int (Q 0)]) (rest := []) (st1 := [.int (fX4_below_v (Q 0))]) hF (mX4_below _ R O (Q 0)) (va_cwS 1 hts gX4_takePart_X4_below rfl rfl rfl (by decide +kernel) ⟨Nat.le_of_ble_eq_true rfl, Nat.le_of_ble_eq_true rfl⟩) hK hZ hG hS rfl hl.1 (Nat.le_of_ble_eq_true rfl) dX4_takePart_69 ⟨Nat.zero_le _, Nat.zero_le _⟩ rfl rfl (fun H locs hG hS => ?_)
        refine lv_aload_n hx hb dX4_takePart_72 rfl (lv_at hl 0 rfl) ?_
        refine go_get (C := RX4) (T := TX4) (ci := 4) hx hb hts in_X4 hown hK hG (hC.1 476 (by decide) (by decide)) (show gC 476 = (4, 19, 0) from rfl) (by decide) rfl 3 (by decide) rfl k_5 (fun _ h => h) (v := (fX4_takeSign_X X G 104) 3) (cS_a19 _ _ _ _ _ _ _ _ _) dX4_takePart_73 ?_
        refine lv_iconst (v := (-1)) hx hb dX4_takePart_76 (by decide) ?_
        refine lv_ixor hx hb dX4_takePart_77 ?_
        refine lv_iand hx hb dX4_takePart_78 ?_
        refine lv_istore_n (lv' := [(2, .int ((fX4_below_v (Q 0)) &&& (((fX4_takeSign_X X G 104) 3) ^^^ (-1)))), (0, .ref (gad Γ 476)), (1, .ref (gad Γ (25 * 1)))]) hx hb dX4_takePart_79 rfl hl (by decide) rfl (fun ls hl => ?_)
        refine lv_iload_n hx hb dX4_takePart_80 rfl (lv_at hl 0 rfl) ?_
        refine lv_if_eq (tgt := 105) hx hb dX4_takePart_81 (by decide) (fun c_13 => ?_) (fun c_13 => ?_)
        · --T
          refine lv_iconst (v := 0) hx hb dX4_takePart_105 (by decide) ?_
          exact g_zret hx hb hrt hlocks hS hG (by decide) (by unfold fX4_takePart_v; rw [if_neg c_1, if_pos c_11, if_pos c_12, if_pos c_13]) (cS_c (by unfold fX4_takePart_X; rw [if_neg c_1, if_pos c_11, if_pos c_12, if_pos c_13]) rfl rfl rfl rfl rfl (by unfold fX4_takePart_Q; rw [if_neg c_1, if_pos c_11, if_pos c_12, if_pos c_13])) dX4_takePart_106
        · --F
          refine lv_aload_n hx hb dX4_takePart_84 rfl (lv_at hl 1 rfl) ?_
          refine lv_bipush (v := 102) hx hb dX4_takePart_85 (by decide) ?_
          refine g_callV (As := [.int 102]) (rest := []) (st1 := [.int (fX4_takeSign_v (fX4_takeSign_X X G 104) G 102)]) hF (mX4_takeSign M R O hC (fX4_takeSign_X X G 104) G J S C P Q 102 ) (cwV 1 hts gX4_takePart_X4_takeSign rfl rfl rfl (by decide +kernel) ⟨Nat.le_of_ble_eq_true rfl, Nat.le_of_ble_eq_true rfl⟩) hK hZ hG hS (hC.1 476 (by decide) (by decide)) (show gC 476 = (4, 19, 0) from rfl) (by decide) rfl rfl hl.1 (Nat.le_of_ble_eq_true rfl) dX4_takePart_87 ⟨Nat.zero_le _, Nat.zero_le _⟩ rfl rfl (fun H locs hG hS => ?_)
          refine lv_if_eq (tgt := 105) hx hb dX4_takePart_90 (by decide) (fun c_14 => ?_) (fun c_14 => ?_)
          · --T
            refine lv_iconst (v := 0) hx hb dX4_takePart_105 (by decide) ?_
            exact g_zret hx hb hrt hlocks hS hG (by decide) (by unfold fX4_takePart_v; rw [if_neg c_1, if_pos c_11, if_pos c_12, if_neg c_13, if_pos c_14]) (cS_c (by unfold fX4_takePart_X; rw [if_neg c_1, if_pos c_11, if_pos c_12, if_neg c_13, if_pos c_14]) rfl rfl rfl rfl rfl (by unfold fX4_takePart_Q; rw [if_neg c_1, if_pos c_11, if_pos c_12, if_neg c_13, if_pos c_14])) dX4_takePart_106
          · --F
            refine lv_aload_n hx hb dX4_takePart_93 rfl (lv_at hl 1 rfl) ?_
            refine lv_iload_n hx hb dX4_takePart_94 rfl (lv_at hl 0 rfl) ?_
            refine g_callV (As := [.int ((fX4_below_v (Q 0)) &&& (((fX4_takeSign_X X G 104) 3) ^^^ (-1)))]) (rest := []) (st1 := [.int (fX4_takeFillingPlace_v (fX4_takeSign_X (fX4_takeSign_X X G 104) G 102) G ((fX4_below_v (Q 0)) &&& (((fX4_takeSign_X X G 104) 3) ^^^ (-1))))]) hF (mX4_takeFillingPlace M R O hC (fX4_takeSign_X (fX4_takeSign_X X G 104) G 102) G J S C P Q ((fX4_below_v (Q 0)) &&& (((fX4_takeSign_X X G 104) 3) ^^^ (-1))) ) (cwV 1 hts gX4_takePart_X4_takeFillingPlace rfl rfl rfl (by decide +kernel) ⟨Nat.le_of_ble_eq_true rfl, Nat.le_of_ble_eq_true rfl⟩) hK hZ hG hS (hC.1 476 (by decide) (by decide)) (show gC 476 = (4, 19, 0) from rfl) (by decide) rfl rfl hl.1 (Nat.le_of_ble_eq_true rfl) dX4_takePart_95 ⟨Nat.zero_le _, Nat.zero_le _⟩ rfl rfl (fun H locs hG hS => ?_)
            refine lv_if_eq (tgt := 105) hx hb dX4_takePart_98 (by decide) (fun c_15 => ?_) (fun c_15 => ?_)
            · --T
              refine lv_iconst (v := 0) hx hb dX4_takePart_105 (by decide) ?_
              exact g_zret hx hb hrt hlocks hS hG (by decide) (by unfold fX4_takePart_v; rw [if_neg c_1, if_pos c_11, if_pos c_12, if_neg c_13, if_neg c_14, if_pos c_15]) (cS_c (by unfold fX4_takePart_X; rw [if_neg c_1, if_pos c_11, if_pos c_12, if_neg c_13, if_neg c_14, if_pos c_15]) rfl rfl rfl rfl rfl (by unfold fX4_takePart_Q; rw [if_neg c_1, if_pos c_11, if_pos c_12, if_neg c_13, if_neg c_14, if_pos c_15])) dX4_takePart_106
            · --F
              refine lv_iconst (v := 1) hx hb dX4_takePart_101 (by decide) ?_
              refine lv_goto (tgt := 106) hx hb dX4_takePart_102 (by decide) ?_
              exact g_zret hx hb hrt hlocks hS hG (by decide) (by unfold fX4_takePart_v; rw [if_neg c_1, if_pos c_11, if_pos c_12, if_neg c_13, if_neg c_14, if_neg c_15]) (cS_c (by unfold fX4_takePart_X; rw [if_neg c_1, if_pos c_11, if_pos c_12, if_neg c_13, if_neg c_14, if_neg c_15]) rfl rfl rfl rfl rfl (by unfold fX4_takePart_Q; rw [if_neg c_1, if_pos c_11, if_pos c_12, if_neg c_13, if_neg c_14, if_neg c_15])) dX4_takePart_106
      · --F
        refine lv_aload_n hx hb dX4_takePart_32 rfl (lv_at hl 0 rfl) ?_
        refine lv_bipush (v := 119) hx hb dX4_takePart_33 (by decide) ?_
        refine g_callV (As := [.int 119]) (rest := []) (st1 := [.int (fX4_takeSign_v (fX4_takeSign_X X G 104) G 119)]) hF (mX4_takeSign M R O hC (fX4_takeSign_X X G 104) G J S C P Q 119 ) (cwV 1 hts gX4_takePart_X4_takeSign rfl rfl rfl (by decide +kernel) ⟨Nat.le_of_ble_eq_true rfl, Nat.le_of_ble_eq_true rfl⟩) hK hZ hG hS (hC.1 476 (by decide) (by decide)) (show gC 476 = (4, 19, 0) from rfl) (by decide) rfl rfl hl.1 (Nat.le_of_ble_eq_true rfl) dX4_takePart_35 ⟨Nat.zero_le _, Nat.zero_le _⟩ rfl rfl (fun H locs hG hS => ?_)
        refine lv_if_eq (tgt := 65) hx hb dX4_takePart_38 (by decide) (fun c_16 => ?_) (fun c_16 => ?_)
        · --T
          refine lv_aload_n hx hb dX4_takePart_65 rfl (lv_at hl 1 rfl) ?_
          replace hG := g_st (show _ = va_up (cS M (fX4_takeSign_X (fX4_takeSign_X X G 104) G 119) G J S C P Q) 1 Q from (cS_u1 _ _ _ _ _ _ _ _ _).symm) hG
          refine gRd_get hx hb hts in_X2 hown hK hG hV1.1 hV1.c0 0 (by decide) k_4 (fun _ h => h) (j := 0) rfl dX4_takePart_66 ?_
          replace hG : GH Γ (cS M (fX4_takeSign_X (fX4_takeSign_X X G 104) G 119) G J S C P Q) R O _ := g_st (cS_u1 _ _ _ _ _ _ _ _ _) hG
          refine g_callS (As := [.int (Q 0)]) (rest := []) (st1 := [.int (fX4_below_v (Q 0))]) hF (mX4_below _ R O (Q 0)) (va_cwS 1 hts gX4_takePart_X4_below rfl rfl rfl (by decide +kernel) ⟨Nat.le_of_ble_eq_true rfl, Nat.le_of_ble_eq_true rfl⟩) hK hZ hG hS rfl hl.1 (Nat.le_of_ble_eq_true rfl) dX4_takePart_69 ⟨Nat.zero_le _, Nat.zero_le _⟩ rfl rfl (fun H locs hG hS => ?_)
          refine lv_aload_n hx hb dX4_takePart_72 rfl (lv_at hl 0 rfl) ?_
          refine go_get (C := RX4) (T := TX4) (ci := 4) hx hb hts in_X4 hown hK hG (hC.1 476 (by decide) (by decide)) (show gC 476 = (4, 19, 0) from rfl) (by decide) rfl 3 (by decide) rfl k_5 (fun _ h => h) (v := (fX4_takeSign_X (fX4_takeSign_X X G 104) G 119) 3) (cS_a19 _ _ _ _ _ _ _ _ _) dX4_takePart_73 ?_
          refine lv_iconst (v := (-1)) hx hb dX4_takePart_76 (by decide) ?_
          refine lv_ixor hx hb dX4_takePart_77 ?_
          refine lv_iand hx hb dX4_takePart_78 ?_
          refine lv_istore_n (lv' := [(2, .int ((fX4_below_v (Q 0)) &&& (((fX4_takeSign_X (fX4_takeSign_X X G 104) G 119) 3) ^^^ (-1)))), (0, .ref (gad Γ 476)), (1, .ref (gad Γ (25 * 1)))]) hx hb dX4_takePart_79 rfl hl (by decide) rfl (fun ls hl => ?_)
          refine lv_iload_n hx hb dX4_takePart_80 rfl (lv_at hl 0 rfl) ?_
          refine lv_if_eq (tgt := 105) hx hb dX4_takePart_81 (by decide) (fun c_17 => ?_) (fun c_17 => ?_)
          · --T
            refine lv_iconst (v := 0) hx hb dX4_takePart_105 (by decide) ?_
            exact g_zret hx hb hrt hlocks hS hG (by decide) (by unfold fX4_takePart_v; rw [if_neg c_1, if_pos c_11, if_neg c_12, if_pos c_16, if_pos c_17]) (cS_c (by unfold fX4_takePart_X; rw [if_neg c_1, if_pos c_11, if_neg c_12, if_pos c_16, if_pos c_17]) rfl rfl rfl rfl rfl (by unfold fX4_takePart_Q; rw [if_neg c_1, if_pos c_11, if_neg c_12, if_pos c_16, if_pos c_17])) dX4_takePart_106
          · --F
            refine lv_aload_n hx hb dX4_takePart_84 rfl (lv_at hl 1 rfl) ?_
            refine lv_bipush (v := 102) hx hb dX4_takePart_85 (by decide) ?_
            refine g_callV (As := [.int 102]) (rest := []) (st1 := [.int (fX4_takeSign_v (fX4_takeSign_X (fX4_takeSign_X X G 104) G 119) G 102)]) hF (mX4_takeSign M R O hC (fX4_takeSign_X (fX4_takeSign_X X G 104) G 119) G J S C P Q 102 ) (cwV 1 hts gX4_takePart_X4_takeSign rfl rfl rfl (by decide +kernel) ⟨Nat.le_of_ble_eq_true rfl, Nat.le_of_ble_eq_true rfl⟩) hK hZ hG hS (hC.1 476 (by decide) (by decide)) (show gC 476 = (4, 19, 0) from rfl) (by decide) rfl rfl hl.1 (Nat.le_of_ble_eq_true rfl) dX4_takePart_87 ⟨Nat.zero_le _, Nat.zero_le _⟩ rfl rfl (fun H locs hG hS => ?_)
            refine lv_if_eq (tgt := 105) hx hb dX4_takePart_90 (by decide) (fun c_18 => ?_) (fun c_18 => ?_)
            · --T
              refine lv_iconst (v := 0) hx hb dX4_takePart_105 (by decide) ?_
              exact g_zret hx hb hrt hlocks hS hG (by decide) (by unfold fX4_takePart_v; rw [if_neg c_1, if_pos c_11, if_neg c_12, if_pos c_16, if_neg c_17, if_pos c_18]) (cS_c (by unfold fX4_takePart_X; rw [if_neg c_1, if_pos c_11, if_neg c_12, if_pos c_16, if_neg c_17, if_pos c_18]) rfl rfl rfl rfl rfl (by unfold fX4_takePart_Q; rw [if_neg c_1, if_pos c_11, if_neg c_12, if_pos c_16, if_neg c_17, if_pos c_18])) dX4_takePart_106
            · --F
              refine lv_aload_n hx hb dX4_takePart_93 rfl (lv_at hl 1 rfl) ?_
              refine lv_iload_n hx hb dX4_takePart_94 rfl (lv_at hl 0 rfl) ?_
              refine g_callV (As := [.int ((fX4_below_v (Q 0)) &&& (((fX4_takeSign_X (fX4_takeSign_X X G 104) G 119) 3) ^^^ (-1)))]) (rest := []) (st1 := [.int (fX4_takeFillingPlace_v (fX4_takeSign_X (fX4_takeSign_X (fX4_takeSign_X X G 104) G 119) G 102) G ((fX4_below_v (Q 0)) &&& (((fX4_takeSign_X (fX4_takeSign_X X G 104) G 119) 3) ^^^ (-1))))]) hF (mX4_takeFillingPlace M R O hC (fX4_takeSign_X (fX4_takeSign_X (fX4_takeSign_X X G 104) G 119) G 102) G J S C P Q ((fX4_below_v (Q 0)) &&& (((fX4_takeSign_X (fX4_takeSign_X X G 104) G 119) 3) ^^^ (-1))) ) (cwV 1 hts gX4_takePart_X4_takeFillingPlace rfl rfl rfl (by decide +kernel) ⟨Nat.le_of_ble_eq_true rfl, Nat.le_of_ble_eq_true rfl⟩) hK hZ hG hS (hC.1 476 (by decide) (by decide)) (show gC 476 = (4, 19, 0) from rfl) (by decide) rfl rfl hl.1 (Nat.le_of_ble_eq_true rfl) dX4_takePart_95 ⟨Nat.zero_le _, Nat.zero_le _⟩ rfl rfl (fun H locs hG hS => ?_)
              refine lv_if_eq (tgt := 105) hx hb dX4_takePart_98 (by decide) (fun c_19 => ?_) (fun c_19 => ?_)
              · --T
                refine lv_iconst (v := 0) hx hb dX4_takePart_105 (by decide) ?_
                exact g_zret hx hb hrt hlocks hS hG (by decide) (by unfold fX4_takePart_v; rw [if_neg c_1, if_pos c_11, if_neg c_12, if_pos c_16, if_neg c_17, if_neg c_18, if_pos c_19]) (cS_c (by unfold fX4_takePart_X; rw [if_neg c_1, if_pos c_11, if_neg c_12, if_pos c_16, if_neg c_17, if_neg c_18, if_pos c_19]) rfl rfl rfl rfl rfl (by unfold fX4_takePart_Q; rw [if_neg c_1, if_pos c_11, if_neg c_12, if_pos c_16, if_neg c_17, if_neg c_18, if_pos c_19])) dX4_takePart_106
              · --F
                refine lv_iconst (v := 1) hx hb dX4_takePart_101 (by decide) ?_
                refine lv_goto (tgt := 106) hx hb dX4_takePart_102 (by decide) ?_
                exact g_zret hx hb hrt hlocks hS hG (by decide) (by unfold fX4_takePart_v; rw [if_neg c_1, if_pos c_11, if_neg c_12, if_pos c_16, if_neg c_17, if_neg c_18, if_neg c_19]) (cS_c (by unfold fX4_takePart_X; rw [if_neg c_1, if_pos c_11, if_neg c_12, if_pos c_16, if_neg c_17, if_neg c_18, if_neg c_19]) rfl rfl rfl rfl rfl (by unfold fX4_takePart_Q; rw [if_neg c_1, if_pos c_11, if_neg c_12, if_pos c_16, if_neg c_17, if_neg c_18, if_neg c_19])) dX4_takePart_106
        · --F
          refine lv_aload_n hx hb dX4_takePart_41 rfl (lv_at hl 1 rfl) ?_
          refine lv_aload_n hx hb dX4_takePart_42 rfl (lv_at hl 0 rfl) ?_
          refine lv_aload_n hx hb dX4_takePart_43 rfl (lv_at hl 1 rfl) ?_
          replace hG := g_st (show _ = va_up (cS M (fX4_takeSign_X (fX4_takeSign_X X G 104) G 119) G J S C P Q) 1 Q from (cS_u1 _ _ _ _ _ _ _ _ _).symm) hG
          refine gRd_get hx hb hts in_X2 hown hK hG hV1.1 hV1.c0 0 (by decide) k_4 (fun _ h => h) (j := 0) rfl dX4_takePart_44 ?_
          replace hG : GH Γ (cS M (fX4_takeSign_X (fX4_takeSign_X X G 104) G 119) G J S C P Q) R O _ := g_st (cS_u1 _ _ _ _ _ _ _ _ _) hG
          refine g_callS (As := [.int (Q 0)]) (rest := [.ref (gad Γ 476), .ref (gad Γ (25 * 1))]) (st1 := [.int (fX4_below_v (Q 0)), .ref (gad Γ 476), .ref (gad Γ (25 * 1))]) hF (mX4_below _ R O (Q 0)) (va_cwS 1 hts gX4_takePart_X4_below rfl rfl rfl (by decide +kernel) ⟨Nat.le_of_ble_eq_true rfl, Nat.le_of_ble_eq_true rfl⟩) hK hZ hG hS rfl hl.1 (Nat.le_of_ble_eq_true rfl) dX4_takePart_47 ⟨Nat.zero_le _, Nat.zero_le _⟩ rfl rfl (fun H locs hG hS => ?_)
          refine g_callV (As := [.int (fX4_below_v (Q 0))]) (rest := [.ref (gad Γ (25 * 1))]) (st1 := [.int (fX4_takeDigit_v (fX4_takeSign_X (fX4_takeSign_X X G 104) G 119) G (fX4_below_v (Q 0))), .ref (gad Γ (25 * 1))]) hF (mX4_takeDigit M R O hC (fX4_takeSign_X (fX4_takeSign_X X G 104) G 119) G J S C P Q (fX4_below_v (Q 0)) ) (cwV 1 hts gX4_takePart_X4_takeDigit rfl rfl rfl (by decide +kernel) ⟨Nat.le_of_ble_eq_true rfl, Nat.le_of_ble_eq_true rfl⟩) hK hZ hG hS (hC.1 476 (by decide) (by decide)) (show gC 476 = (4, 19, 0) from rfl) (by decide) rfl rfl hl.1 (Nat.le_of_ble_eq_true rfl) dX4_takePart_50 ⟨Nat.zero_le _, Nat.zero_le _⟩ rfl rfl (fun H locs hG hS => ?_)
          replace hG := g_st (show _ = va_up (cS M (fX4_takeDigit_X (fX4_takeSign_X (fX4_takeSign_X X G 104) G 119) G (fX4_below_v (Q 0))) G J S C P Q) 1 Q from (cS_u1 _ _ _ _ _ _ _ _ _).symm) hG
          refine g_callV (As := [.int (fX4_takeDigit_v (fX4_takeSign_X (fX4_takeSign_X X G 104) G 119) G (fX4_below_v (Q 0)))]) (rest := []) (st1 := [.int (fX2_bringWagon_v Q (fX4_takeDigit_v (fX4_takeSign_X (fX4_takeSign_X X G 104) G 119) G (fX4_below_v (Q 0))))]) hF (mX2_bringWagon (cS M (fX4_takeDigit_X (fX4_takeSign_X (fX4_takeSign_X X G 104) G 119) G (fX4_below_v (Q 0))) G J S C P Q) R O hV1 Q (fX4_takeDigit_v (fX4_takeSign_X (fX4_takeSign_X X G 104) G 119) G (fX4_below_v (Q 0)))) (cwV 1 hts gX4_takePart_X2_bringWagon rfl rfl rfl (by decide +kernel) ⟨Nat.le_of_ble_eq_true rfl, Nat.le_of_ble_eq_true rfl⟩) hK hZ hG hS hV1.c0 (gC_Rd hV1.1) (by decide) rfl rfl hl.1 (Nat.le_of_ble_eq_true rfl) dX4_takePart_53 ⟨Nat.zero_le _, Nat.zero_le _⟩ rfl rfl (fun H locs hG hS => ?_)
          replace hG : GH Γ (cS M (fX4_takeDigit_X (fX4_takeSign_X (fX4_takeSign_X X G 104) G 119) G (fX4_below_v (Q 0))) G J S C P (fX2_bringWagon_P Q (fX4_takeDigit_v (fX4_takeSign_X (fX4_takeSign_X X G 104) G 119) G (fX4_below_v (Q 0))))) R O _ := g_st (cS_u1 _ _ _ _ _ _ _ _ _) hG
          refine lv_if_lt (tgt := 63) hx hb dX4_takePart_56 (by decide) (fun c_20 => ?_) (fun c_20 => ?_)
          · --T
            refine lv_iconst (v := 0) hx hb dX4_takePart_63 (by decide) ?_
            exact g_zret hx hb hrt hlocks hS hG (by decide) (by unfold fX4_takePart_v; rw [if_neg c_1, if_pos c_11, if_neg c_12, if_neg c_16, if_pos c_20]) (cS_c (by unfold fX4_takePart_X; rw [if_neg c_1, if_pos c_11, if_neg c_12, if_neg c_16, if_pos c_20]) rfl rfl rfl rfl rfl (by unfold fX4_takePart_Q; rw [if_neg c_1, if_pos c_11, if_neg c_12, if_neg c_16, if_pos c_20])) dX4_takePart_64
          · --F
            refine lv_iconst (v := 1) hx hb dX4_takePart_59 (by decide) ?_
            refine lv_goto (tgt := 64) hx hb dX4_takePart_60 (by decide) ?_
            exact g_zret hx hb hrt hlocks hS hG (by decide) (by unfold fX4_takePart_v; rw [if_neg c_1, if_pos c_11, if_neg c_12, if_neg c_16, if_neg c_20]) (cS_c (by unfold fX4_takePart_X; rw [if_neg c_1, if_pos c_11, if_neg c_12, if_neg c_16, if_neg c_20]) rfl rfl rfl rfl rfl (by unfold fX4_takePart_Q; rw [if_neg c_1, if_pos c_11, if_neg c_12, if_neg c_16, if_neg c_20])) dX4_takePart_64
    · --F
      refine lv_aload_n hx hb dX4_takePart_18 rfl (lv_at hl 0 rfl) ?_
      refine lv_aload_n hx hb dX4_takePart_19 rfl (lv_at hl 1 rfl) ?_
      refine g_callV (As := [.ref (gad Γ (25 * 1))]) (rest := []) (st1 := [.int (fX4_takeHouse_v (fX4_takeSign_X X G 104) G Q )]) hF (mX4_takeHouse M R O hC (fX4_takeSign_X X G 104) G J S C P Q  ) (cwV 1 hts gX4_takePart_X4_takeHouse rfl rfl rfl (by decide +kernel) ⟨Nat.le_of_ble_eq_true rfl, Nat.le_of_ble_eq_true rfl⟩) hK hZ hG hS (hC.1 476 (by decide) (by decide)) (show gC 476 = (4, 19, 0) from rfl) (by decide) rfl rfl hl.1 (Nat.le_of_ble_eq_true rfl) dX4_takePart_20 ⟨Nat.zero_le _, Nat.zero_le _⟩ rfl rfl (fun H locs hG hS => ?_)
      exact g_zret hx hb hrt hlocks hS hG (by first | (unfold fX4_takeHouse_v; (repeat' split) <;> decide)) (by unfold fX4_takePart_v; rw [if_neg c_1, if_neg c_11]) (cS_c (by unfold fX4_takePart_X; rw [if_neg c_1, if_neg c_11]) rfl rfl rfl rfl rfl (by unfold fX4_takePart_Q; rw [if_neg c_1, if_neg c_11])) dX4_takePart_23

def fX4_takeSize_v (X G Q : Nat → Int32)  : Int32 := if (fX4_takeDigit_v X G (fX4_below_v 2)) = (-1) then 0 else if (fX4_takeDigit_v X G (fX4_below_v 2)) = 0 then if (fX4_takeDigit_v (fX4_takeDigit_X X G (fX4_below_v 2)) G ((fX4_below_v 10) &&& ((fX4_below_v 1) ^^^ (-1)))) = (-1) then 0 else 1 else if (fX4_takeDigit_v (fX4_takeDigit_X X G (fX4_below_v 2)) G (fX4_below_v 1)) = (-1) then 0 else 1
def fX4_takeSize_X (X G Q : Nat → Int32)  : Nat → Int32 := if (fX4_takeDigit_v X G (fX4_below_v 2)) = (-1) then fX4_takeDigit_X X G (fX4_below_v 2) else if (fX4_takeDigit_v X G (fX4_below_v 2)) = 0 then if (fX4_takeDigit_v (fX4_takeDigit_X X G (fX4_below_v 2)) G ((fX4_below_v 10) &&& ((fX4_below_v 1) ^^^ (-1)))) = (-1) then fX4_takeDigit_X (fX4_takeDigit_X X G (fX4_below_v 2)) G ((fX4_below_v 10) &&& ((fX4_below_v 1) ^^^ (-1))) else fX4_takeDigit_X (fX4_takeDigit_X X G (fX4_below_v 2)) G ((fX4_below_v 10) &&& ((fX4_below_v 1) ^^^ (-1))) else if (fX4_takeDigit_v (fX4_takeDigit_X X G (fX4_below_v 2)) G (fX4_below_v 1)) = (-1) then fX4_takeDigit_X (fX4_takeDigit_X X G (fX4_below_v 2)) G (fX4_below_v 1) else fX4_takeDigit_X (fX4_takeDigit_X X G (fX4_below_v 2)) G (fX4_below_v 1)
def fX4_takeSize_Q (X G Q : Nat → Int32)  : Nat → Int32 := if (fX4_takeDigit_v X G (fX4_below_v 2)) = (-1) then Q else if (fX4_takeDigit_v X G (fX4_below_v 2)) = 0 then if (fX4_takeDigit_v (fX4_takeDigit_X X G (fX4_below_v 2)) G ((fX4_below_v 10) &&& ((fX4_below_v 1) ^^^ (-1)))) = (-1) then Q else upd Q 0 ((10 * (fX4_takeDigit_v X G (fX4_below_v 2))) + (fX4_takeDigit_v (fX4_takeDigit_X X G (fX4_below_v 2)) G ((fX4_below_v 10) &&& ((fX4_below_v 1) ^^^ (-1))))) else if (fX4_takeDigit_v (fX4_takeDigit_X X G (fX4_below_v 2)) G (fX4_below_v 1)) = (-1) then Q else upd Q 0 ((10 * (fX4_takeDigit_v X G (fX4_below_v 2))) + (fX4_takeDigit_v (fX4_takeDigit_X X G (fX4_below_v 2)) G (fX4_below_v 1)))
set_option maxHeartbeats 4000000 in
set_option maxRecDepth 100000 in
theorem mX4_takeSize {l : Launch} {Γ : gX} (M : Nat → Nat → Int32) (R : Nat → Nat → Option Nat) (O : Int64) (hC : LC Γ R) (X G J S C P Q : Nat → Int32)  : gMet l Γ yX4_takeSize wsX4_takeSize 2 44 [.ref (gad Γ 476), .ref (gad Γ (25 * 1))] (cS M X G J S C P Q) R O (some (.int (fX4_takeSize_v X G Q ))) (cS M (fX4_takeSize_X X G Q ) G J S C P (fX4_takeSize_Q X G Q )) R O := by
  refine g_start (cc := cX4_takeSize) (maxL := 4) (ret := (some .boolean)) (by decide) rfl (Nat.le_of_ble_eq_true rfl) ?_
  intro p e s m below meth c ls hx hb hml hrt hts hown hlocks hname hK hZ hG hS hl
  have hl : lv_has ls 4 [(0, .ref (gad Γ 476)), (1, .ref (gad Γ (25 * 1)))] := hl
  have hown : s.vm.findClass RX4 = some m.cls := hown
  have hF : CallFix p m c cX4_takeSize 4 s _ wsX4_takeSize RX4 := ⟨hx, hb, hml, hown, hts⟩
  have k_1 : (Cond.fieldLink RX4 59 "RoadDust$Road" "segments" "I").before _ s = true := hts _ (by decide +kernel)
  have in_X2 : ∀ w ∈ wsX20, w ∈ wsX4_takeSize := by decide +kernel
  have hV0 := hC.2.1 0 (by decide)
  have hV1 := hC.2.1 1 (by decide)
  refine lv_aload_n hx hb dX4_takeSize_0 rfl (lv_at hl 0 rfl) ?_
  refine lv_iconst (v := 2) hx hb dX4_takeSize_1 (by decide) ?_
  refine g_callS (As := [.int 2]) (rest := [.ref (gad Γ 476)]) (st1 := [.int (fX4_below_v 2), .ref (gad Γ 476)]) hF (mX4_below _ R O 2) (va_cwS 1 hts gX4_takeSize_X4_below rfl rfl rfl (by decide +kernel) ⟨Nat.le_of_ble_eq_true rfl, Nat.le_of_ble_eq_true rfl⟩) hK hZ hG hS rfl hl.1 (Nat.le_of_ble_eq_true rfl) dX4_takeSize_2 ⟨Nat.zero_le _, Nat.zero_le _⟩ rfl rfl (fun H locs hG hS => ?_)
  refine g_callV (As := [.int (fX4_below_v 2)]) (rest := []) (st1 := [.int (fX4_takeDigit_v X G (fX4_below_v 2))]) hF (mX4_takeDigit M R O hC X G J S C P Q (fX4_below_v 2) ) (cwV 1 hts gX4_takeSize_X4_takeDigit rfl rfl rfl (by decide +kernel) ⟨Nat.le_of_ble_eq_true rfl, Nat.le_of_ble_eq_true rfl⟩) hK hZ hG hS (hC.1 476 (by decide) (by decide)) (show gC 476 = (4, 19, 0) from rfl) (by decide) rfl rfl hl.1 (Nat.le_of_ble_eq_true rfl) dX4_takeSize_5 ⟨Nat.zero_le _, Nat.zero_le _⟩ rfl rfl (fun H locs hG hS => ?_)
  refine lv_istore_n (lv' := [(2, .int (fX4_takeDigit_v X G (fX4_below_v 2))), (0, .ref (gad Γ 476)), (1, .ref (gad Γ (25 * 1)))]) hx hb dX4_takeSize_8 rfl hl (by decide) rfl (fun ls hl => ?_)
  refine lv_iload_n hx hb dX4_takeSize_9 rfl (lv_at hl 0 rfl) ?_
  refine lv_iconst (v := (-1)) hx hb dX4_takeSize_10 (by decide) ?_
  refine lv_icmp_ne (tgt := 16) hx hb dX4_takeSize_11 (by decide) (fun c_1 => ?_) (fun c_1 => ?_)
  · --T
    refine lv_aload_n hx hb dX4_takeSize_16 rfl (lv_at hl 1 rfl) ?_
    refine lv_iload_n hx hb dX4_takeSize_17 rfl (lv_at hl 0 rfl) ?_
    refine lv_if_ne (tgt := 36) hx hb dX4_takeSize_18 (by decide) (fun c_2 => ?_) (fun c_2 => ?_)
    · --T
      refine lv_iconst (v := 1) hx hb dX4_takeSize_36 (by decide) ?_
      refine g_callS (As := [.int 1]) (rest := [.ref (gad Γ 476)]) (st1 := [.int (fX4_below_v 1), .ref (gad Γ 476)]) hF (mX4_below _ R O 1) (va_cwS 1 hts gX4_takeSize_X4_below rfl rfl rfl (by decide +kernel) ⟨Nat.le_of_ble_eq_true rfl, Nat.le_of_ble_eq_true rfl⟩) hK hZ hG hS rfl hl.1 (Nat.le_of_ble_eq_true rfl) dX4_takeSize_37 ⟨Nat.zero_le _, Nat.zero_le _⟩ rfl rfl (fun H locs hG hS => ?_)
      refine g_callV (As := [.int (fX4_below_v 1)]) (rest := []) (st1 := [.int (fX4_takeDigit_v (fX4_takeDigit_X X G (fX4_below_v 2)) G (fX4_below_v 1))]) hF (mX4_takeDigit M R O hC (fX4_takeDigit_X X G (fX4_below_v 2)) G J S C P Q (fX4_below_v 1) ) (cwV 1 hts gX4_takeSize_X4_takeDigit rfl rfl rfl (by decide +kernel) ⟨Nat.le_of_ble_eq_true rfl, Nat.le_of_ble_eq_true rfl⟩) hK hZ hG hS (hC.1 476 (by decide) (by decide)) (show gC 476 = (4, 19, 0) from rfl) (by decide) rfl rfl hl.1 (Nat.le_of_ble_eq_true rfl) dX4_takeSize_40 ⟨Nat.zero_le _, Nat.zero_le _⟩ rfl rfl (fun H locs hG hS => ?_)
      refine lv_istore_n (lv' := [(3, .int (fX4_takeDigit_v (fX4_takeDigit_X X G (fX4_below_v 2)) G (fX4_below_v 1))), (2, .int (fX4_takeDigit_v X G (fX4_below_v 2))), (0, .ref (gad Γ 476)), (1, .ref (gad Γ (25 * 1)))]) hx hb dX4_takeSize_43 rfl hl (by decide) rfl (fun ls hl => ?_)
      refine lv_iload_n hx hb dX4_takeSize_44 rfl (lv_at hl 0 rfl) ?_
      refine lv_iconst (v := (-1)) hx hb dX4_takeSize_45 (by decide) ?_
      refine lv_icmp_ne (tgt := 51) hx hb dX4_takeSize_46 (by decide) (fun c_3 => ?_) (fun c_3 => ?_)
      · --T
        refine lv_aload_n hx hb dX4_takeSize_51 rfl (lv_at hl 3 rfl) ?_
        refine lv_bipush (v := 10) hx hb dX4_takeSize_52 (by decide) ?_
        refine lv_iload_n hx hb dX4_takeSize_54 rfl (lv_at hl 1 rfl) ?_
        refine lv_imul hx hb dX4_takeSize_55 ?_
        refine lv_iload_n hx hb dX4_takeSize_56 rfl (lv_at hl 0 rfl) ?_
        refine lv_iadd hx hb dX4_takeSize_57 ?_
        replace hG := g_st (show _ = va_up (cS M (fX4_takeDigit_X (fX4_takeDigit_X X G (fX4_below_v 2)) G (fX4_below_v 1)) G J S C P Q) 1 Q from (cS_u1 _ _ _ _ _ _ _ _ _).symm) hG
        refine gRd_put hx hb hts in_X2 hown hK hG hS hV1.1 hV1.c0 0 (by decide) k_1 (fun _ h => h) rfl .int (by decide +kernel) rfl rfl (j := 0) rfl dX4_takeSize_58 (fun H locs hG hS => ?_)
        replace hG : GH Γ (cS M (fX4_takeDigit_X (fX4_takeDigit_X X G (fX4_below_v 2)) G (fX4_below_v 1)) G J S C P (upd Q 0 ((10 * (fX4_takeDigit_v X G (fX4_below_v 2))) + (fX4_takeDigit_v (fX4_takeDigit_X X G (fX4_below_v 2)) G (fX4_below_v 1))))) R O _ := g_st (cS_u1 _ _ _ _ _ _ _ _ _) hG
        refine lv_iconst (v := 1) hx hb dX4_takeSize_61 (by decide) ?_
        exact g_zret hx hb hrt hlocks hS hG (by decide) (by unfold fX4_takeSize_v; rw [if_neg c_1, if_neg c_2, if_neg c_3]) (cS_c (by unfold fX4_takeSize_X; rw [if_neg c_1, if_neg c_2, if_neg c_3]) rfl rfl rfl rfl rfl (by unfold fX4_takeSize_Q; rw [if_neg c_1, if_neg c_2, if_neg c_3])) dX4_takeSize_62
      · --F
        refine lv_iconst (v := 0) hx hb dX4_takeSize_49 (by decide) ?_
        exact g_zret hx hb hrt hlocks hS hG (by decide) (by unfold fX4_takeSize_v; rw [if_neg c_1, if_neg c_2, if_pos c_3]) (cS_c (by unfold fX4_takeSize_X; rw [if_neg c_1, if_neg c_2, if_pos c_3]) rfl rfl rfl rfl rfl (by unfold fX4_takeSize_Q; rw [if_neg c_1, if_neg c_2, if_pos c_3])) dX4_takeSize_50
    · --F
      refine lv_bipush (v := 10) hx hb dX4_takeSize_21 (by decide) ?_
      refine g_callS (As := [.int 10]) (rest := [.ref (gad Γ 476)]) (st1 := [.int (fX4_below_v 10), .ref (gad Γ 476)]) hF (mX4_below _ R O 10) (va_cwS 1 hts gX4_takeSize_X4_below rfl rfl rfl (by decide +kernel) ⟨Nat.le_of_ble_eq_true rfl, Nat.le_of_ble_eq_true rfl⟩) hK hZ hG hS rfl hl.1 (Nat.le_of_ble_eq_true rfl) dX4_takeSize_23 ⟨Nat.zero_le _, Nat.zero_le _⟩ rfl rfl (fun H locs hG hS => ?_)
      refine lv_iconst (v := 1) hx hb dX4_takeSize_26 (by decide) ?_
      refine g_callS (As := [.int 1]) (rest := [.int (fX4_below_v 10), .ref (gad Γ 476)]) (st1 := [.int (fX4_below_v 1), .int (fX4_below_v 10), .ref (gad Γ 476)]) hF (mX4_below _ R O 1) (va_cwS 1 hts gX4_takeSize_X4_below rfl rfl rfl (by decide +kernel) ⟨Nat.le_of_ble_eq_true rfl, Nat.le_of_ble_eq_true rfl⟩) hK hZ hG hS rfl hl.1 (Nat.le_of_ble_eq_true rfl) dX4_takeSize_27 ⟨Nat.zero_le _, Nat.zero_le _⟩ rfl rfl (fun H locs hG hS => ?_)
      refine lv_iconst (v := (-1)) hx hb dX4_takeSize_30 (by decide) ?_
      refine lv_ixor hx hb dX4_takeSize_31 ?_
      refine lv_iand hx hb dX4_takeSize_32 ?_
      refine lv_goto (tgt := 40) hx hb dX4_takeSize_33 (by decide) ?_
      refine g_callV (As := [.int ((fX4_below_v 10) &&& ((fX4_below_v 1) ^^^ (-1)))]) (rest := []) (st1 := [.int (fX4_takeDigit_v (fX4_takeDigit_X X G (fX4_below_v 2)) G ((fX4_below_v 10) &&& ((fX4_below_v 1) ^^^ (-1))))]) hF (mX4_takeDigit M R O hC (fX4_takeDigit_X X G (fX4_below_v 2)) G J S C P Q ((fX4_below_v 10) &&& ((fX4_below_v 1) ^^^ (-1))) ) (cwV 1 hts gX4_takeSize_X4_takeDigit rfl rfl rfl (by decide +kernel) ⟨Nat.le_of_ble_eq_true rfl, Nat.le_of_ble_eq_true rfl⟩) hK hZ hG hS (hC.1 476 (by decide) (by decide)) (show gC 476 = (4, 19, 0) from rfl) (by decide) rfl rfl hl.1 (Nat.le_of_ble_eq_true rfl) dX4_takeSize_40 ⟨Nat.zero_le _, Nat.zero_le _⟩ rfl rfl (fun H locs hG hS => ?_)
      refine lv_istore_n (lv' := [(3, .int (fX4_takeDigit_v (fX4_takeDigit_X X G (fX4_below_v 2)) G ((fX4_below_v 10) &&& ((fX4_below_v 1) ^^^ (-1))))), (2, .int (fX4_takeDigit_v X G (fX4_below_v 2))), (0, .ref (gad Γ 476)), (1, .ref (gad Γ (25 * 1)))]) hx hb dX4_takeSize_43 rfl hl (by decide) rfl (fun ls hl => ?_)
      refine lv_iload_n hx hb dX4_takeSize_44 rfl (lv_at hl 0 rfl) ?_
      refine lv_iconst (v := (-1)) hx hb dX4_takeSize_45 (by decide) ?_
      refine lv_icmp_ne (tgt := 51) hx hb dX4_takeSize_46 (by decide) (fun c_4 => ?_) (fun c_4 => ?_)
      · --T
        refine lv_aload_n hx hb dX4_takeSize_51 rfl (lv_at hl 3 rfl) ?_
        refine lv_bipush (v := 10) hx hb dX4_takeSize_52 (by decide) ?_
        refine lv_iload_n hx hb dX4_takeSize_54 rfl (lv_at hl 1 rfl) ?_
        refine lv_imul hx hb dX4_takeSize_55 ?_
        refine lv_iload_n hx hb dX4_takeSize_56 rfl (lv_at hl 0 rfl) ?_
        refine lv_iadd hx hb dX4_takeSize_57 ?_
        replace hG := g_st (show _ = va_up (cS M (fX4_takeDigit_X (fX4_takeDigit_X X G (fX4_below_v 2)) G ((fX4_below_v 10) &&& ((fX4_below_v 1) ^^^ (-1)))) G J S C P Q) 1 Q from (cS_u1 _ _ _ _ _ _ _ _ _).symm) hG
        refine gRd_put hx hb hts in_X2 hown hK hG hS hV1.1 hV1.c0 0 (by decide) k_1 (fun _ h => h) rfl .int (by decide +kernel) rfl rfl (j := 0) rfl dX4_takeSize_58 (fun H locs hG hS => ?_)
        replace hG : GH Γ (cS M (fX4_takeDigit_X (fX4_takeDigit_X X G (fX4_below_v 2)) G ((fX4_below_v 10) &&& ((fX4_below_v 1) ^^^ (-1)))) G J S C P (upd Q 0 ((10 * (fX4_takeDigit_v X G (fX4_below_v 2))) + (fX4_takeDigit_v (fX4_takeDigit_X X G (fX4_below_v 2)) G ((fX4_below_v 10) &&& ((fX4_below_v 1) ^^^ (-1))))))) R O _ := g_st (cS_u1 _ _ _ _ _ _ _ _ _) hG
        refine lv_iconst (v := 1) hx hb dX4_takeSize_61 (by decide) ?_
        exact g_zret hx hb hrt hlocks hS hG (by decide) (by unfold fX4_takeSize_v; rw [if_neg c_1, if_pos c_2, if_neg c_4]) (cS_c (by unfold fX4_takeSize_X; rw [if_neg c_1, if_pos c_2, if_neg c_4]) rfl rfl rfl rfl rfl (by unfold fX4_takeSize_Q; rw [if_neg c_1, if_pos c_2, if_neg c_4])) dX4_takeSize_62
      · --F
        refine lv_iconst (v := 0) hx hb dX4_takeSize_49 (by decide) ?_
        exact g_zret hx hb hrt hlocks hS hG (by decide) (by unfold fX4_takeSize_v; rw [if_neg c_1, if_pos c_2, if_pos c_4]) (cS_c (by unfold fX4_takeSize_X; rw [if_neg c_1, if_pos c_2, if_pos c_4]) rfl rfl rfl rfl rfl (by unfold fX4_takeSize_Q; rw [if_neg c_1, if_pos c_2, if_pos c_4])) dX4_takeSize_50
  · --F
    refine lv_iconst (v := 0) hx hb dX4_takeSize_14 (by decide) ?_
    exact g_zret hx hb hrt hlocks hS hG (by decide) (by unfold fX4_takeSize_v; rw [if_pos c_1]) (cS_c (by unfold fX4_takeSize_X; rw [if_pos c_1]) rfl rfl rfl rfl rfl (by unfold fX4_takeSize_Q; rw [if_pos c_1])) dX4_takeSize_15

