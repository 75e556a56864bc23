/-! THE ROAD. Laid by gen/p07.py. -/
def fX2_complainsAtMost_v (P : Nat → Int32) (a b : Int32) : Int32 := if okI a (P 1) 8 then if b < (P (82 + 5 * a.toNatClampNeg + 3)) then 0 else 1 else 0
set_option maxHeartbeats 4000000 in
set_option maxRecDepth 100000 in
theorem mX2_complainsAtMost {l : Launch} {Γ : gX} (M : Nat → Nat → Int32) (R : Nat → Nat → Option Nat) (O : Int64) {r : Nat} (hV : LV Γ R r) (P : Nat → Int32) (a b : Int32) : gMet l Γ yX2_complainsAtMost wsX2_complainsAtMost 1 21 [.ref (gad Γ (25 * r)), .int a, .int b] (va_up M r P) R O (some (.int (fX2_complainsAtMost_v P a b))) (va_up M r P) R O := by
  refine g_start (cc := cX2_complainsAtMost) (maxL := 4) (ret := (some .boolean)) (by decide) rfl (Nat.le_of_ble_eq_true rfl) ?_
  intro p e s m below meth c ls hx hb hml hrt hts hown hlocks hname hK hZ hG hS hl
  have hl : lv_has ls 4 [(0, .ref (gad Γ (25 * r))), (1, .int a), (2, .int b)] := hl
  have hown : s.vm.findClass RX2 = some m.cls := hown
  have hF : CallFix p m c cX2_complainsAtMost 4 s _ wsX2_complainsAtMost RX2 := ⟨hx, hb, hml, hown, hts⟩
  have k_1 : (Cond.fieldLink RX2 196 "RoadDust$House" "complaints" "I").before _ s = true := hts _ (by decide +kernel)
  have in_X1 : ∀ w ∈ wsX10, w ∈ wsX2_complainsAtMost := by decide +kernel
  refine lv_aload_n hx hb dX2_complainsAtMost_0 rfl (lv_at hl 0 rfl) ?_
  refine lv_iload_n hx hb dX2_complainsAtMost_1 rfl (lv_at hl 1 rfl) ?_
  by_cases c_1 : okI a (P 1) 8
  · --ok
    refine g_callV (As := [.int a]) (rest := []) (st1 := [.ref (gad Γ (25 * r + 14 + a.toNatClampNeg))]) hF (mX2_houseAt_y M R O hV P c_1 (j := a.toNatClampNeg) rfl) (cwV 1 hts gX2_complainsAtMost_X2_houseAt rfl rfl rfl (by decide +kernel) ⟨Nat.le_of_ble_eq_true rfl, Nat.le_of_ble_eq_true rfl⟩) hK hZ hG hS hV.c0 (gC_Rd hV.1) (by decide) rfl rfl hl.1 (Nat.le_of_ble_eq_true rfl) dX2_complainsAtMost_2 ⟨Nat.zero_le _, Nat.zero_le _⟩ rfl rfl (fun H locs hG hS => ?_)
    refine lv_astore_n (lv' := [(3, .ref (gad Γ (25 * r + 14 + a.toNatClampNeg))), (0, .ref (gad Γ (25 * r))), (1, .int a), (2, .int b)]) hx hb dX2_complainsAtMost_5 rfl hl (by decide) rfl (fun ls hl => ?_)
    refine lv_aload_n hx hb dX2_complainsAtMost_6 rfl (lv_at hl 0 rfl) ?_
    refine lv_ifnull hx hb dX2_complainsAtMost_7 ?_
    refine lv_aload_n hx hb dX2_complainsAtMost_10 rfl (lv_at hl 0 rfl) ?_
    refine gHs_get hx hb hts in_X1 hown hK hG hV.1 (okI_lt (k := 8) rfl (by decide) c_1) (hV.hou (i := a.toNatClampNeg) (okI_lt (k := 8) rfl (by decide) c_1)) 3 (by decide) k_1 (fun _ h => h) (j := 82 + 5 * a.toNatClampNeg + 3) rfl dX2_complainsAtMost_11 ?_
    refine lv_iload_n hx hb dX2_complainsAtMost_14 rfl (lv_at hl 3 rfl) ?_
    refine lv_icmp_gt (tgt := 22) hx hb dX2_complainsAtMost_15 (by decide) (fun c_2 => ?_) (fun c_2 => ?_)
    · --T
      refine lv_iconst (v := 0) hx hb dX2_complainsAtMost_22 (by decide) ?_
      exact g_zret hx hb hrt hlocks hS hG (by decide) (by unfold fX2_complainsAtMost_v; rw [if_pos c_1, if_pos c_2]) rfl dX2_complainsAtMost_23
    · --F
      refine lv_iconst (v := 1) hx hb dX2_complainsAtMost_18 (by decide) ?_
      refine lv_goto (tgt := 23) hx hb dX2_complainsAtMost_19 (by decide) ?_
      exact g_zret hx hb hrt hlocks hS hG (by decide) (by unfold fX2_complainsAtMost_v; rw [if_pos c_1, if_neg c_2]) rfl dX2_complainsAtMost_23
  · --none
    refine g_callV (As := [.int a]) (rest := []) (st1 := [.null]) hF (mX2_houseAt_n M R O hV P c_1) (cwV 1 hts gX2_complainsAtMost_X2_houseAt rfl rfl rfl (by decide +kernel) ⟨Nat.le_of_ble_eq_true rfl, Nat.le_of_ble_eq_true rfl⟩) hK hZ hG hS hV.c0 (gC_Rd hV.1) (by decide) rfl rfl hl.1 (Nat.le_of_ble_eq_true rfl) dX2_complainsAtMost_2 ⟨Nat.zero_le _, Nat.zero_le _⟩ rfl rfl (fun H locs hG hS => ?_)
    refine lv_astore_nN (lv' := [(3, .null), (0, .ref (gad Γ (25 * r))), (1, .int a), (2, .int b)]) hx hb dX2_complainsAtMost_5 rfl hl (by decide) rfl (fun ls hl => ?_)
    refine lv_aload_nN hx hb dX2_complainsAtMost_6 rfl (lv_at hl 0 rfl) ?_
    refine lv_ifnullN (tgt := 22) hx hb dX2_complainsAtMost_7 (by decide) ?_
    refine lv_iconst (v := 0) hx hb dX2_complainsAtMost_22 (by decide) ?_
    exact g_zret hx hb hrt hlocks hS hG (by decide) (by unfold fX2_complainsAtMost_v; rw [if_neg c_1]) rfl dX2_complainsAtMost_23

def fX2_obeys_v (P : Nat → Int32) (a : Int32) : Int32 := if 10 ≤ (remI a 100) then if (a / 1000) = 1 then if (remI (a / 100) 10) = 0 then if (fX2_goHours_v P (remI a 100)) < 0 then 0 else 1 else 0 else if (a / 1000) = 2 then 0 else if (a / 1000) = 3 then 0 else if (a / 1000) = 4 then if (remI a 100) = 0 then if (fX2_fillTank_v P (remI (a / 100) 10)) < 0 then 0 else 1 else 0 else if (a / 1000) = 5 then 0 else if (a / 1000) = 6 then 0 else if (a / 1000) = 7 then if (remI (a / 100) 10) = 0 then if (fX2_changeNumber_v P 5 (remI a 100)) < 0 then 0 else 1 else 0 else if (a / 1000) = 8 then fX2_complainsAtMost_v P (remI (a / 100) 10) (remI a 100) else if (a / 1000) = 9 then if okI (remI (a / 100) 10) (P 0) 10 then if (10 * (remI a 100)) < (fX2_dustAt_v P (remI (a / 100) 10)) then 0 else 1 else 0 else 0 else if (a / 1000) = 1 then if (remI (a / 100) 10) = 0 then if (fX2_goHours_v P (remI a 100)) < 0 then 0 else 1 else 0 else if (a / 1000) = 2 then if (fX2_moveWagon_v P (remI (a / 100) 10) (remI a 10)) < 0 then 0 else 1 else if (a / 1000) = 3 then if (fX2_sprayFrom_v P (remI (a / 100) 10) (remI a 10)) < 0 then 0 else 1 else if (a / 1000) = 4 then if (remI a 100) = 0 then if (fX2_fillTank_v P (remI (a / 100) 10)) < 0 then 0 else 1 else 0 else if (a / 1000) = 5 then if (fX2_changeLimit_v P (remI (a / 100) 10) (remI a 10)) < 0 then 0 else 1 else if (a / 1000) = 6 then if (fX2_changeSurface_v P (remI (a / 100) 10) (remI a 10)) < 0 then 0 else 1 else if (a / 1000) = 7 then if (remI (a / 100) 10) = 0 then if (fX2_changeNumber_v P 5 (remI a 100)) < 0 then 0 else 1 else 0 else if (a / 1000) = 8 then fX2_complainsAtMost_v P (remI (a / 100) 10) (remI a 100) else if (a / 1000) = 9 then if okI (remI (a / 100) 10) (P 0) 10 then if (10 * (remI a 100)) < (fX2_dustAt_v P (remI (a / 100) 10)) then 0 else 1 else 0 else 0
def fX2_obeys_P (P : Nat → Int32) (a : Int32) : Nat → Int32 := if 10 ≤ (remI a 100) then if (a / 1000) = 1 then if (remI (a / 100) 10) = 0 then if (fX2_goHours_v P (remI a 100)) < 0 then fX2_goHours_P P (remI a 100) else fX2_goHours_P P (remI a 100) else P else if (a / 1000) = 2 then P else if (a / 1000) = 3 then P else if (a / 1000) = 4 then if (remI a 100) = 0 then if (fX2_fillTank_v P (remI (a / 100) 10)) < 0 then fX2_fillTank_P P (remI (a / 100) 10) else fX2_fillTank_P P (remI (a / 100) 10) else P else if (a / 1000) = 5 then P else if (a / 1000) = 6 then P else if (a / 1000) = 7 then if (remI (a / 100) 10) = 0 then if (fX2_changeNumber_v P 5 (remI a 100)) < 0 then fX2_changeNumber_P P 5 (remI a 100) else fX2_changeNumber_P P 5 (remI a 100) else P else if (a / 1000) = 8 then P else if (a / 1000) = 9 then if okI (remI (a / 100) 10) (P 0) 10 then if (10 * (remI a 100)) < (fX2_dustAt_v P (remI (a / 100) 10)) then P else P else P else P else if (a / 1000) = 1 then if (remI (a / 100) 10) = 0 then if (fX2_goHours_v P (remI a 100)) < 0 then fX2_goHours_P P (remI a 100) else fX2_goHours_P P (remI a 100) else P else if (a / 1000) = 2 then if (fX2_moveWagon_v P (remI (a / 100) 10) (remI a 10)) < 0 then fX2_moveWagon_P P (remI (a / 100) 10) (remI a 10) else fX2_moveWagon_P P (remI (a / 100) 10) (remI a 10) else if (a / 1000) = 3 then if (fX2_sprayFrom_v P (remI (a / 100) 10) (remI a 10)) < 0 then fX2_sprayFrom_P P (remI (a / 100) 10) (remI a 10) else fX2_sprayFrom_P P (remI (a / 100) 10) (remI a 10) else if (a / 1000) = 4 then if (remI a 100) = 0 then if (fX2_fillTank_v P (remI (a / 100) 10)) < 0 then fX2_fillTank_P P (remI (a / 100) 10) else fX2_fillTank_P P (remI (a / 100) 10) else P else if (a / 1000) = 5 then if (fX2_changeLimit_v P (remI (a / 100) 10) (remI a 10)) < 0 then fX2_changeLimit_P P (remI (a / 100) 10) (remI a 10) else fX2_changeLimit_P P (remI (a / 100) 10) (remI a 10) else if (a / 1000) = 6 then if (fX2_changeSurface_v P (remI (a / 100) 10) (remI a 10)) < 0 then fX2_changeSurface_P P (remI (a / 100) 10) (remI a 10) else fX2_changeSurface_P P (remI (a / 100) 10) (remI a 10) else if (a / 1000) = 7 then if (remI (a / 100) 10) = 0 then if (fX2_changeNumber_v P 5 (remI a 100)) < 0 then fX2_changeNumber_P P 5 (remI a 100) else fX2_changeNumber_P P 5 (remI a 100) else P else if (a / 1000) = 8 then P else if (a / 1000) = 9 then if okI (remI (a / 100) 10) (P 0) 10 then if (10 * (remI a 100)) < (fX2_dustAt_v P (remI (a / 100) 10)) then P else P else P else P
set_option maxHeartbeats 4000000 in
set_option maxRecDepth 100000 in
theorem mX2_obeys {l : Launch} {Γ : gX} (M : Nat → Nat → Int32) (R : Nat → Nat → Option Nat) (O : Int64) {r : Nat} (hV : LV Γ R r) (P : Nat → Int32) (a : Int32) (h8 : (P 1).toNatClampNeg ≤ 8) : gMet l Γ yX2_obeys wsX2_obeys 5 115 [.ref (gad Γ (25 * r)), .int a] (va_up M r P) R O (some (.int (fX2_obeys_v P a))) (va_up M r (fX2_obeys_P P a)) R O := by
  refine g_start (cc := cX2_obeys) (maxL := 6) (ret := (some .boolean)) (by decide) rfl (Nat.le_of_ble_eq_true rfl) ?_
  intro p e s m below meth c ls hx hb hml hrt hts hown hlocks hname hK hZ hG hS hl
  have hl : lv_has ls 6 [(0, .ref (gad Γ (25 * r))), (1, .int a)] := hl
  have hown : s.vm.findClass RX2 = some m.cls := hown
  have hF : CallFix p m c cX2_obeys 6 s _ wsX2_obeys RX2 := ⟨hx, hb, hml, hown, hts⟩
  refine lv_iload_n hx hb dX2_obeys_0 rfl (lv_at hl 1 rfl) ?_
  refine lv_bipush (v := 100) hx hb dX2_obeys_1 (by decide) ?_
  refine lv_idiv hx hb dX2_obeys_3 (by decide) ?_
  refine lv_bipush (v := 10) hx hb dX2_obeys_4 (by decide) ?_
  refine lv_irem hx hb dX2_obeys_6 (by decide) ?_
  refine lv_istore_n (lv' := [(2, .int (remI (a / 100) 10)), (0, .ref (gad Γ (25 * r))), (1, .int a)]) hx hb dX2_obeys_7 rfl hl (by decide) rfl (fun ls hl => ?_)
  refine lv_iload_n hx hb dX2_obeys_8 rfl (lv_at hl 2 rfl) ?_
  refine lv_bipush (v := 10) hx hb dX2_obeys_9 (by decide) ?_
  refine lv_irem hx hb dX2_obeys_11 (by decide) ?_
  refine lv_istore_n (lv' := [(3, .int (remI a 10)), (2, .int (remI (a / 100) 10)), (0, .ref (gad Γ (25 * r))), (1, .int a)]) hx hb dX2_obeys_12 rfl hl (by decide) rfl (fun ls hl => ?_)
  refine lv_iload_n hx hb dX2_obeys_13 rfl (lv_at hl 3 rfl) ?_
  refine lv_bipush (v := 100) hx hb dX2_obeys_14 (by decide) ?_
  refine lv_irem hx hb dX2_obeys_16 (by decide) ?_
  refine lv_istore (lv' := [(4, .int (remI a 100)), (3, .int (remI a 10)), (2, .int (remI (a / 100) 10)), (0, .ref (gad Γ (25 * r))), (1, .int a)]) hx hb dX2_obeys_17 hl (by decide) rfl (fun ls hl => ?_)
  refine lv_iload hx hb dX2_obeys_19 (lv_at hl 0 rfl) ?_
  refine lv_bipush (v := 10) hx hb dX2_obeys_21 (by decide) ?_
  refine lv_icmp_ge (tgt := 30) hx hb dX2_obeys_23 (by decide) (fun c_1 => ?_) (fun c_1 => ?_)
  · --T
    refine lv_iconst (v := 0) hx hb dX2_obeys_30 (by decide) ?_
    refine lv_istore (lv' := [(5, .int 0), (4, .int (remI a 100)), (3, .int (remI a 10)), (2, .int (remI (a / 100) 10)), (0, .ref (gad Γ (25 * r))), (1, .int a)]) hx hb dX2_obeys_31 hl (by decide) rfl (fun ls hl => ?_)
    refine lv_iload_n hx hb dX2_obeys_33 rfl (lv_at hl 5 rfl) ?_
    refine lv_sipush (v := 1000) hx hb dX2_obeys_34 (by decide) ?_
    refine lv_idiv hx hb dX2_obeys_37 (by decide) ?_
    by_cases c_2 : (a / 1000) = 1
    · --1
      refine lv_tableIn (tgt := 88) hx hb dX2_obeys_38 (by rw [c_2]; decide) (by rw [c_2]; decide) (by rw [c_2]; rfl) (by decide) ?_
      refine lv_iload_n hx hb dX2_obeys_88 rfl (lv_at hl 3 rfl) ?_
      refine lv_if_ne (tgt := 105) hx hb dX2_obeys_89 (by decide) (fun c_3 => ?_) (fun c_3 => ?_)
      · --T
        refine lv_iconst (v := 0) hx hb dX2_obeys_105 (by decide) ?_
        exact g_zret hx hb hrt hlocks hS hG (by decide) (by unfold fX2_obeys_v; rw [if_pos c_1, if_pos c_2, if_neg c_3]) (congrArg (va_up M r) (by unfold fX2_obeys_P; rw [if_pos c_1, if_pos c_2, if_neg c_3])) dX2_obeys_106
      · --F
        refine lv_aload_n hx hb dX2_obeys_92 rfl (lv_at hl 4 rfl) ?_
        refine lv_iload hx hb dX2_obeys_93 (lv_at hl 1 rfl) ?_
        refine g_callV (As := [.int (remI a 100)]) (rest := []) (st1 := [.int (fX2_goHours_v P (remI a 100))]) hF (mX2_goHours M R O hV P (remI a 100) h8) (cwV 1 hts gX2_obeys_X2_goHours rfl rfl rfl (by decide +kernel) ⟨Nat.le_of_ble_eq_true rfl, Nat.le_of_ble_eq_true rfl⟩) hK hZ hG hS hV.c0 (gC_Rd hV.1) (by decide) rfl rfl hl.1 (Nat.le_of_ble_eq_true rfl) dX2_obeys_95 ⟨Nat.zero_le _, Nat.zero_le _⟩ rfl rfl (fun H locs hG hS => ?_)
        refine lv_if_lt (tgt := 105) hx hb dX2_obeys_98 (by decide) (fun c_4 => ?_) (fun c_4 => ?_)
        · --T
          refine lv_iconst (v := 0) hx hb dX2_obeys_105 (by decide) ?_
          exact g_zret hx hb hrt hlocks hS hG (by decide) (by unfold fX2_obeys_v; rw [if_pos c_1, if_pos c_2, if_pos c_3, if_pos c_4]) (congrArg (va_up M r) (by unfold fX2_obeys_P; rw [if_pos c_1, if_pos c_2, if_pos c_3, if_pos c_4])) dX2_obeys_106
        · --F
          refine lv_iconst (v := 1) hx hb dX2_obeys_101 (by decide) ?_
          refine lv_goto (tgt := 106) hx hb dX2_obeys_102 (by decide) ?_
          exact g_zret hx hb hrt hlocks hS hG (by decide) (by unfold fX2_obeys_v; rw [if_pos c_1, if_pos c_2, if_pos c_3, if_neg c_4]) (congrArg (va_up M r) (by unfold fX2_obeys_P; rw [if_pos c_1, if_pos c_2, if_pos c_3, if_neg c_4])) dX2_obeys_106
    · --not 1
      by_cases c_5 : (a / 1000) = 2
      · --2
        refine lv_tableIn (tgt := 107) hx hb dX2_obeys_38 (by rw [c_5]; decide) (by rw [c_5]; decide) (by rw [c_5]; rfl) (by decide) ?_
        refine lv_iload hx hb dX2_obeys_107 (lv_at hl 0 rfl) ?_
        refine lv_if_eq (tgt := 125) hx hb dX2_obeys_109 (by decide) (fun c_6 => ?_) (fun c_6 => absurd (by decide) c_6)
        refine lv_iconst (v := 0) hx hb dX2_obeys_125 (by decide) ?_
        exact g_zret hx hb hrt hlocks hS hG (by decide) (by unfold fX2_obeys_v; rw [if_pos c_1, if_neg c_2, if_pos c_5]) (congrArg (va_up M r) (by unfold fX2_obeys_P; rw [if_pos c_1, if_neg c_2, if_pos c_5])) dX2_obeys_126
      · --not 2
        by_cases c_7 : (a / 1000) = 3
        · --3
          refine lv_tableIn (tgt := 127) hx hb dX2_obeys_38 (by rw [c_7]; decide) (by rw [c_7]; decide) (by rw [c_7]; rfl) (by decide) ?_
          refine lv_iload hx hb dX2_obeys_127 (lv_at hl 0 rfl) ?_
          refine lv_if_eq (tgt := 145) hx hb dX2_obeys_129 (by decide) (fun c_8 => ?_) (fun c_8 => absurd (by decide) c_8)
          refine lv_iconst (v := 0) hx hb dX2_obeys_145 (by decide) ?_
          exact g_zret hx hb hrt hlocks hS hG (by decide) (by unfold fX2_obeys_v; rw [if_pos c_1, if_neg c_2, if_neg c_5, if_pos c_7]) (congrArg (va_up M r) (by unfold fX2_obeys_P; rw [if_pos c_1, if_neg c_2, if_neg c_5, if_pos c_7])) dX2_obeys_146
        · --not 3
          by_cases c_9 : (a / 1000) = 4
          · --4
            refine lv_tableIn (tgt := 147) hx hb dX2_obeys_38 (by rw [c_9]; decide) (by rw [c_9]; decide) (by rw [c_9]; rfl) (by decide) ?_
            refine lv_iload hx hb dX2_obeys_147 (lv_at hl 1 rfl) ?_
            refine lv_if_ne (tgt := 164) hx hb dX2_obeys_149 (by decide) (fun c_10 => ?_) (fun c_10 => ?_)
            · --T
              refine lv_iconst (v := 0) hx hb dX2_obeys_164 (by decide) ?_
              exact g_zret hx hb hrt hlocks hS hG (by decide) (by unfold fX2_obeys_v; rw [if_pos c_1, if_neg c_2, if_neg c_5, if_neg c_7, if_pos c_9, if_neg c_10]) (congrArg (va_up M r) (by unfold fX2_obeys_P; rw [if_pos c_1, if_neg c_2, if_neg c_5, if_neg c_7, if_pos c_9, if_neg c_10])) dX2_obeys_165
            · --F
              refine lv_aload_n hx hb dX2_obeys_152 rfl (lv_at hl 4 rfl) ?_
              refine lv_iload_n hx hb dX2_obeys_153 rfl (lv_at hl 3 rfl) ?_
              refine g_callV (As := [.int (remI (a / 100) 10)]) (rest := []) (st1 := [.int (fX2_fillTank_v P (remI (a / 100) 10))]) hF (mX2_fillTank M R O hV P (remI (a / 100) 10)) (cwV 1 hts gX2_obeys_X2_fillTank rfl rfl rfl (by decide +kernel) ⟨Nat.le_of_ble_eq_true rfl, Nat.le_of_ble_eq_true rfl⟩) hK hZ hG hS hV.c0 (gC_Rd hV.1) (by decide) rfl rfl hl.1 (Nat.le_of_ble_eq_true rfl) dX2_obeys_154 ⟨Nat.zero_le _, Nat.zero_le _⟩ rfl rfl (fun H locs hG hS => ?_)
              refine lv_if_lt (tgt := 164) hx hb dX2_obeys_157 (by decide) (fun c_11 => ?_) (fun c_11 => ?_)
              · --T
                refine lv_iconst (v := 0) hx hb dX2_obeys_164 (by decide) ?_
                exact g_zret hx hb hrt hlocks hS hG (by decide) (by unfold fX2_obeys_v; rw [if_pos c_1, if_neg c_2, if_neg c_5, if_neg c_7, if_pos c_9, if_pos c_10, if_pos c_11]) (congrArg (va_up M r) (by unfold fX2_obeys_P; rw [if_pos c_1, if_neg c_2, if_neg c_5, if_neg c_7, if_pos c_9, if_pos c_10, if_pos c_11])) dX2_obeys_165
              · --F
                refine lv_iconst (v := 1) hx hb dX2_obeys_160 (by decide) ?_
                refine lv_goto (tgt := 165) hx hb dX2_obeys_161 (by decide) ?_
                exact g_zret hx hb hrt hlocks hS hG (by decide) (by unfold fX2_obeys_v; rw [if_pos c_1, if_neg c_2, if_neg c_5, if_neg c_7, if_pos c_9, if_pos c_10, if_neg c_11]) (congrArg (va_up M r) (by unfold fX2_obeys_P; rw [if_pos c_1, if_neg c_2, if_neg c_5, if_neg c_7, if_pos c_9, if_pos c_10, if_neg c_11])) dX2_obeys_165
          · --not 4
            by_cases c_12 : (a / 1000) = 5
            · --5
              refine lv_tableIn (tgt := 166) hx hb dX2_obeys_38 (by rw [c_12]; decide) (by rw [c_12]; decide) (by rw [c_12]; rfl) (by decide) ?_
              refine lv_iload hx hb dX2_obeys_166 (lv_at hl 0 rfl) ?_
              refine lv_if_eq (tgt := 184) hx hb dX2_obeys_168 (by decide) (fun c_13 => ?_) (fun c_13 => absurd (by decide) c_13)
              refine lv_iconst (v := 0) hx hb dX2_obeys_184 (by decide) ?_
              exact g_zret hx hb hrt hlocks hS hG (by decide) (by unfold fX2_obeys_v; rw [if_pos c_1, if_neg c_2, if_neg c_5, if_neg c_7, if_neg c_9, if_pos c_12]) (congrArg (va_up M r) (by unfold fX2_obeys_P; rw [if_pos c_1, if_neg c_2, if_neg c_5, if_neg c_7, if_neg c_9, if_pos c_12])) dX2_obeys_185
            · --not 5
              by_cases c_14 : (a / 1000) = 6
              · --6
                refine lv_tableIn (tgt := 186) hx hb dX2_obeys_38 (by rw [c_14]; decide) (by rw [c_14]; decide) (by rw [c_14]; rfl) (by decide) ?_
                refine lv_iload hx hb dX2_obeys_186 (lv_at hl 0 rfl) ?_
                refine lv_if_eq (tgt := 204) hx hb dX2_obeys_188 (by decide) (fun c_15 => ?_) (fun c_15 => absurd (by decide) c_15)
                refine lv_iconst (v := 0) hx hb dX2_obeys_204 (by decide) ?_
                exact g_zret hx hb hrt hlocks hS hG (by decide) (by unfold fX2_obeys_v; rw [if_pos c_1, if_neg c_2, if_neg c_5, if_neg c_7, if_neg c_9, if_neg c_12, if_pos c_14]) (congrArg (va_up M r) (by unfold fX2_obeys_P; rw [if_pos c_1, if_neg c_2, if_neg c_5, if_neg c_7, if_neg c_9, if_neg c_12, if_pos c_14])) dX2_obeys_205
              · --not 6
                by_cases c_16 : (a / 1000) = 7
                · --7
                  refine lv_tableIn (tgt := 206) hx hb dX2_obeys_38 (by rw [c_16]; decide) (by rw [c_16]; decide) (by rw [c_16]; rfl) (by decide) ?_
                  refine lv_iload_n hx hb dX2_obeys_206 rfl (lv_at hl 3 rfl) ?_
                  refine lv_if_ne (tgt := 224) hx hb dX2_obeys_207 (by decide) (fun c_17 => ?_) (fun c_17 => ?_)
                  · --T
                    refine lv_iconst (v := 0) hx hb dX2_obeys_224 (by decide) ?_
                    exact g_zret hx hb hrt hlocks hS hG (by decide) (by unfold fX2_obeys_v; rw [if_pos c_1, if_neg c_2, if_neg c_5, if_neg c_7, if_neg c_9, if_neg c_12, if_neg c_14, if_pos c_16, if_neg c_17]) (congrArg (va_up M r) (by unfold fX2_obeys_P; rw [if_pos c_1, if_neg c_2, if_neg c_5, if_neg c_7, if_neg c_9, if_neg c_12, if_neg c_14, if_pos c_16, if_neg c_17])) dX2_obeys_225
                  · --F
                    refine lv_aload_n hx hb dX2_obeys_210 rfl (lv_at hl 4 rfl) ?_
                    refine lv_iconst (v := 5) hx hb dX2_obeys_211 (by decide) ?_
                    refine lv_iload hx hb dX2_obeys_212 (lv_at hl 1 rfl) ?_
                    refine g_callV (As := [.int 5, .int (remI a 100)]) (rest := []) (st1 := [.int (fX2_changeNumber_v P 5 (remI a 100))]) hF (mX2_changeNumber M R O hV P 5 (remI a 100)) (cwV 2 hts gX2_obeys_X2_changeNumber rfl rfl rfl (by decide +kernel) ⟨Nat.le_of_ble_eq_true rfl, Nat.le_of_ble_eq_true rfl⟩) hK hZ hG hS hV.c0 (gC_Rd hV.1) (by decide) rfl rfl hl.1 (Nat.le_of_ble_eq_true rfl) dX2_obeys_214 ⟨Nat.zero_le _, Nat.zero_le _⟩ rfl rfl (fun H locs hG hS => ?_)
                    refine lv_if_lt (tgt := 224) hx hb dX2_obeys_217 (by decide) (fun c_18 => ?_) (fun c_18 => ?_)
                    · --T
                      refine lv_iconst (v := 0) hx hb dX2_obeys_224 (by decide) ?_
                      exact g_zret hx hb hrt hlocks hS hG (by decide) (by unfold fX2_obeys_v; rw [if_pos c_1, if_neg c_2, if_neg c_5, if_neg c_7, if_neg c_9, if_neg c_12, if_neg c_14, if_pos c_16, if_pos c_17, if_pos c_18]) (congrArg (va_up M r) (by unfold fX2_obeys_P; rw [if_pos c_1, if_neg c_2, if_neg c_5, if_neg c_7, if_neg c_9, if_neg c_12, if_neg c_14, if_pos c_16, if_pos c_17, if_pos c_18])) dX2_obeys_225
                    · --F
                      refine lv_iconst (v := 1) hx hb dX2_obeys_220 (by decide) ?_
                      refine lv_goto (tgt := 225) hx hb dX2_obeys_221 (by decide) ?_
                      exact g_zret hx hb hrt hlocks hS hG (by decide) (by unfold fX2_obeys_v; rw [if_pos c_1, if_neg c_2, if_neg c_5, if_neg c_7, if_neg c_9, if_neg c_12, if_neg c_14, if_pos c_16, if_pos c_17, if_neg c_18]) (congrArg (va_up M r) (by unfold fX2_obeys_P; rw [if_pos c_1, if_neg c_2, if_neg c_5, if_neg c_7, if_neg c_9, if_neg c_12, if_neg c_14, if_pos c_16, if_pos c_17, if_neg c_18])) dX2_obeys_225
                · --not 7
                  by_cases c_19 : (a / 1000) = 8
                  · --8
                    refine lv_tableIn (tgt := 226) hx hb dX2_obeys_38 (by rw [c_19]; decide) (by rw [c_19]; decide) (by rw [c_19]; rfl) (by decide) ?_
                    refine lv_aload_n hx hb dX2_obeys_226 rfl (lv_at hl 4 rfl) ?_
                    refine lv_iload_n hx hb dX2_obeys_227 rfl (lv_at hl 3 rfl) ?_
                    refine lv_iload hx hb dX2_obeys_228 (lv_at hl 1 rfl) ?_
                    refine g_callV (As := [.int (remI (a / 100) 10), .int (remI a 100)]) (rest := []) (st1 := [.int (fX2_complainsAtMost_v P (remI (a / 100) 10) (remI a 100))]) hF (mX2_complainsAtMost M R O hV P (remI (a / 100) 10) (remI a 100)) (cwV 2 hts gX2_obeys_X2_complainsAtMost rfl rfl rfl (by decide +kernel) ⟨Nat.le_of_ble_eq_true rfl, Nat.le_of_ble_eq_true rfl⟩) hK hZ hG hS hV.c0 (gC_Rd hV.1) (by decide) rfl rfl hl.1 (Nat.le_of_ble_eq_true rfl) dX2_obeys_230 ⟨Nat.zero_le _, Nat.zero_le _⟩ rfl rfl (fun H locs hG hS => ?_)
                    exact g_zret hx hb hrt hlocks hS hG (by unfold fX2_complainsAtMost_v; (repeat' split) <;> decide) (by unfold fX2_obeys_v; rw [if_pos c_1, if_neg c_2, if_neg c_5, if_neg c_7, if_neg c_9, if_neg c_12, if_neg c_14, if_neg c_16, if_pos c_19]) (congrArg (va_up M r) (by unfold fX2_obeys_P; rw [if_pos c_1, if_neg c_2, if_neg c_5, if_neg c_7, if_neg c_9, if_neg c_12, if_neg c_14, if_neg c_16, if_pos c_19])) dX2_obeys_233
                  · --not 8
                    by_cases c_20 : (a / 1000) = 9
                    · --9
                      refine lv_tableIn (tgt := 234) hx hb dX2_obeys_38 (by rw [c_20]; decide) (by rw [c_20]; decide) (by rw [c_20]; rfl) (by decide) ?_
                      refine lv_aload_n hx hb dX2_obeys_234 rfl (lv_at hl 4 rfl) ?_
                      refine lv_iload_n hx hb dX2_obeys_235 rfl (lv_at hl 3 rfl) ?_
                      by_cases c_21 : okI (remI (a / 100) 10) (P 0) 10
                      · --ok
                        refine g_callV (As := [.int (remI (a / 100) 10)]) (rest := []) (st1 := [.ref (gad Γ (25 * r + 4 + ((remI (a / 100) 10).toNatClampNeg)))]) hF (mX2_segmentAt_y M R O hV P c_21 (j := (remI (a / 100) 10).toNatClampNeg) rfl) (cwV 1 hts gX2_obeys_X2_segmentAt rfl rfl rfl (by decide +kernel) ⟨Nat.le_of_ble_eq_true rfl, Nat.le_of_ble_eq_true rfl⟩) hK hZ hG hS hV.c0 (gC_Rd hV.1) (by decide) rfl rfl hl.1 (Nat.le_of_ble_eq_true rfl) dX2_obeys_236 ⟨Nat.zero_le _, Nat.zero_le _⟩ rfl rfl (fun H locs hG hS => ?_)
                        refine lv_ifnull hx hb dX2_obeys_239 ?_
                        refine lv_aload_n hx hb dX2_obeys_242 rfl (lv_at hl 4 rfl) ?_
                        refine lv_iload_n hx hb dX2_obeys_243 rfl (lv_at hl 3 rfl) ?_
                        refine g_callV (As := [.int (remI (a / 100) 10)]) (rest := []) (st1 := [.int (fX2_dustAt_v P (remI (a / 100) 10))]) hF (mX2_dustAt M R O hV P (remI (a / 100) 10)) (cwV 1 hts gX2_obeys_X2_dustAt rfl rfl rfl (by decide +kernel) ⟨Nat.le_of_ble_eq_true rfl, Nat.le_of_ble_eq_true rfl⟩) hK hZ hG hS hV.c0 (gC_Rd hV.1) (by decide) rfl rfl hl.1 (Nat.le_of_ble_eq_true rfl) dX2_obeys_244 ⟨Nat.zero_le _, Nat.zero_le _⟩ rfl rfl (fun H locs hG hS => ?_)
                        refine lv_bipush (v := 10) hx hb dX2_obeys_247 (by decide) ?_
                        refine lv_iload hx hb dX2_obeys_249 (lv_at hl 1 rfl) ?_
                        refine lv_imul hx hb dX2_obeys_251 ?_
                        refine lv_icmp_gt (tgt := 259) hx hb dX2_obeys_252 (by decide) (fun c_22 => ?_) (fun c_22 => ?_)
                        · --T
                          refine lv_iconst (v := 0) hx hb dX2_obeys_259 (by decide) ?_
                          exact g_zret hx hb hrt hlocks hS hG (by decide) (by unfold fX2_obeys_v; rw [if_pos c_1, if_neg c_2, if_neg c_5, if_neg c_7, if_neg c_9, if_neg c_12, if_neg c_14, if_neg c_16, if_neg c_19, if_pos c_20, if_pos c_21, if_pos c_22]) (congrArg (va_up M r) (by unfold fX2_obeys_P; rw [if_pos c_1, if_neg c_2, if_neg c_5, if_neg c_7, if_neg c_9, if_neg c_12, if_neg c_14, if_neg c_16, if_neg c_19, if_pos c_20, if_pos c_21, if_pos c_22])) dX2_obeys_260
                        · --F
                          refine lv_iconst (v := 1) hx hb dX2_obeys_255 (by decide) ?_
                          refine lv_goto (tgt := 260) hx hb dX2_obeys_256 (by decide) ?_
                          exact g_zret hx hb hrt hlocks hS hG (by decide) (by unfold fX2_obeys_v; rw [if_pos c_1, if_neg c_2, if_neg c_5, if_neg c_7, if_neg c_9, if_neg c_12, if_neg c_14, if_neg c_16, if_neg c_19, if_pos c_20, if_pos c_21, if_neg c_22]) (congrArg (va_up M r) (by unfold fX2_obeys_P; rw [if_pos c_1, if_neg c_2, if_neg c_5, if_neg c_7, if_neg c_9, if_neg c_12, if_neg c_14, if_neg c_16, if_neg c_19, if_pos c_20, if_pos c_21, if_neg c_22])) dX2_obeys_260
                      · --none
                        refine g_callV (As := [.int (remI (a / 100) 10)]) (rest := []) (st1 := [.null]) hF (mX2_segmentAt_n M R O hV P c_21) (cwV 1 hts gX2_obeys_X2_segmentAt rfl rfl rfl (by decide +kernel) ⟨Nat.le_of_ble_eq_true rfl, Nat.le_of_ble_eq_true rfl⟩) hK hZ hG hS hV.c0 (gC_Rd hV.1) (by decide) rfl rfl hl.1 (Nat.le_of_ble_eq_true rfl) dX2_obeys_236 ⟨Nat.zero_le _, Nat.zero_le _⟩ rfl rfl (fun H locs hG hS => ?_)
                        refine lv_ifnullN (tgt := 259) hx hb dX2_obeys_239 (by decide) ?_
                        refine lv_iconst (v := 0) hx hb dX2_obeys_259 (by decide) ?_
                        exact g_zret hx hb hrt hlocks hS hG (by decide) (by unfold fX2_obeys_v; rw [if_pos c_1, if_neg c_2, if_neg c_5, if_neg c_7, if_neg c_9, if_neg c_12, if_neg c_14, if_neg c_16, if_neg c_19, if_pos c_20, if_neg c_21]) (congrArg (va_up M r) (by unfold fX2_obeys_P; rw [if_pos c_1, if_neg c_2, if_neg c_5, if_neg c_7, if_neg c_9, if_neg c_12, if_neg c_14, if_neg c_16, if_neg c_19, if_pos c_20, if_neg c_21])) dX2_obeys_260
                    · --not 9
                      have z_23 := lv_neT (a := 1) c_2 (by decide)
                      have z_24 := lv_neT (a := 2) c_5 (by decide)
                      have z_25 := lv_neT (a := 3) c_7 (by decide)
                      have z_26 := lv_neT (a := 4) c_9 (by decide)
                      have z_27 := lv_neT (a := 5) c_12 (by decide)
                      have z_28 := lv_neT (a := 6) c_14 (by decide)
                      have z_29 := lv_neT (a := 7) c_16 (by decide)
                      have z_30 := lv_neT (a := 8) c_19 (by decide)
                      have z_31 := lv_neT (a := 9) c_20 (by decide)
                      refine lv_tableOut (tgt := 261) hx hb dX2_obeys_38 (by omega) (by decide) ?_
                      refine lv_iconst (v := 0) hx hb dX2_obeys_261 (by decide) ?_
                      exact g_zret hx hb hrt hlocks hS hG (by decide) (by unfold fX2_obeys_v; rw [if_pos c_1, if_neg c_2, if_neg c_5, if_neg c_7, if_neg c_9, if_neg c_12, if_neg c_14, if_neg c_16, if_neg c_19, if_neg c_20]) (congrArg (va_up M r) (by unfold fX2_obeys_P; rw [if_pos c_1, if_neg c_2, if_neg c_5, if_neg c_7, if_neg c_9, if_neg c_12, if_neg c_14, if_neg c_16, if_neg c_19, if_neg c_20])) dX2_obeys_262
  · --F
    refine lv_iconst (v := 1) hx hb dX2_obeys_26 (by decide) ?_
    refine lv_goto (tgt := 31) hx hb dX2_obeys_27 (by decide) ?_
    refine lv_istore (lv' := [(5, .int 1), (4, .int (remI a 100)), (3, .int (remI a 10)), (2, .int (remI (a / 100) 10)), (0, .ref (gad Γ (25 * r))), (1, .int a)]) hx hb dX2_obeys_31 hl (by decide) rfl (fun ls hl => ?_)
    refine lv_iload_n hx hb dX2_obeys_33 rfl (lv_at hl 5 rfl) ?_
    refine lv_sipush (v := 1000) hx hb dX2_obeys_34 (by decide) ?_
    refine lv_idiv hx hb dX2_obeys_37 (by decide) ?_
    by_cases c_32 : (a / 1000) = 1
    · --1
      refine lv_tableIn (tgt := 88) hx hb dX2_obeys_38 (by rw [c_32]; decide) (by rw [c_32]; decide) (by rw [c_32]; rfl) (by decide) ?_
      refine lv_iload_n hx hb dX2_obeys_88 rfl (lv_at hl 3 rfl) ?_
      refine lv_if_ne (tgt := 105) hx hb dX2_obeys_89 (by decide) (fun c_33 => ?_) (fun c_33 => ?_)
      · --T
        refine lv_iconst (v := 0) hx hb dX2_obeys_105 (by decide) ?_
        exact g_zret hx hb hrt hlocks hS hG (by decide) (by unfold fX2_obeys_v; rw [if_neg c_1, if_pos c_32, if_neg c_33]) (congrArg (va_up M r) (by unfold fX2_obeys_P; rw [if_neg c_1, if_pos c_32, if_neg c_33])) dX2_obeys_106
      · --F
        refine lv_aload_n hx hb dX2_obeys_92 rfl (lv_at hl 4 rfl) ?_
        refine lv_iload hx hb dX2_obeys_93 (lv_at hl 1 rfl) ?_
        refine g_callV (As := [.int (remI a 100)]) (rest := []) (st1 := [.int (fX2_goHours_v P (remI a 100))]) hF (mX2_goHours M R O hV P (remI a 100) h8) (cwV 1 hts gX2_obeys_X2_goHours rfl rfl rfl (by decide +kernel) ⟨Nat.le_of_ble_eq_true rfl, Nat.le_of_ble_eq_true rfl⟩) hK hZ hG hS hV.c0 (gC_Rd hV.1) (by decide) rfl rfl hl.1 (Nat.le_of_ble_eq_true rfl) dX2_obeys_95 ⟨Nat.zero_le _, Nat.zero_le _⟩ rfl rfl (fun H locs hG hS => ?_)
        refine lv_if_lt (tgt := 105) hx hb dX2_obeys_98 (by decide) (fun c_34 => ?_) (fun c_34 => ?_)
        · --T
          refine lv_iconst (v := 0) hx hb dX2_obeys_105 (by decide) ?_
          exact g_zret hx hb hrt hlocks hS hG (by decide) (by unfold fX2_obeys_v; rw [if_neg c_1, if_pos c_32, if_pos c_33, if_pos c_34]) (congrArg (va_up M r) (by unfold fX2_obeys_P; rw [if_neg c_1, if_pos c_32, if_pos c_33, if_pos c_34])) dX2_obeys_106
        · --F
          refine lv_iconst (v := 1) hx hb dX2_obeys_101 (by decide) ?_
          refine lv_goto (tgt := 106) hx hb dX2_obeys_102 (by decide) ?_
          exact g_zret hx hb hrt hlocks hS hG (by decide) (by unfold fX2_obeys_v; rw [if_neg c_1, if_pos c_32, if_pos c_33, if_neg c_34]) (congrArg (va_up M r) (by unfold fX2_obeys_P; rw [if_neg c_1, if_pos c_32, if_pos c_33, if_neg c_34])) dX2_obeys_106
    · --not 1
      by_cases c_35 : (a / 1000) = 2
      · --2
        refine lv_tableIn (tgt := 107) hx hb dX2_obeys_38 (by rw [c_35]; decide) (by rw [c_35]; decide) (by rw [c_35]; rfl) (by decide) ?_
        refine lv_iload hx hb dX2_obeys_107 (lv_at hl 0 rfl) ?_
        refine lv_if_eq (tgt := 125) hx hb dX2_obeys_109 (by decide) (fun c_36 => absurd c_36 (by decide)) (fun c_36 => ?_)
        refine lv_aload_n hx hb dX2_obeys_112 rfl (lv_at hl 4 rfl) ?_
        refine lv_iload_n hx hb dX2_obeys_113 rfl (lv_at hl 3 rfl) ?_
        refine lv_iload_n hx hb dX2_obeys_114 rfl (lv_at hl 2 rfl) ?_
        refine g_callV (As := [.int (remI (a / 100) 10), .int (remI a 10)]) (rest := []) (st1 := [.int (fX2_moveWagon_v P (remI (a / 100) 10) (remI a 10))]) hF (mX2_moveWagon M R O hV P (remI (a / 100) 10) (remI a 10)) (cwV 2 hts gX2_obeys_X2_moveWagon rfl rfl rfl (by decide +kernel) ⟨Nat.le_of_ble_eq_true rfl, Nat.le_of_ble_eq_true rfl⟩) hK hZ hG hS hV.c0 (gC_Rd hV.1) (by decide) rfl rfl hl.1 (Nat.le_of_ble_eq_true rfl) dX2_obeys_115 ⟨Nat.zero_le _, Nat.zero_le _⟩ rfl rfl (fun H locs hG hS => ?_)
        refine lv_if_lt (tgt := 125) hx hb dX2_obeys_118 (by decide) (fun c_37 => ?_) (fun c_37 => ?_)
        · --T
          refine lv_iconst (v := 0) hx hb dX2_obeys_125 (by decide) ?_
          exact g_zret hx hb hrt hlocks hS hG (by decide) (by unfold fX2_obeys_v; rw [if_neg c_1, if_neg c_32, if_pos c_35, if_pos c_37]) (congrArg (va_up M r) (by unfold fX2_obeys_P; rw [if_neg c_1, if_neg c_32, if_pos c_35, if_pos c_37])) dX2_obeys_126
        · --F
          refine lv_iconst (v := 1) hx hb dX2_obeys_121 (by decide) ?_
          refine lv_goto (tgt := 126) hx hb dX2_obeys_122 (by decide) ?_
          exact g_zret hx hb hrt hlocks hS hG (by decide) (by unfold fX2_obeys_v; rw [if_neg c_1, if_neg c_32, if_pos c_35, if_neg c_37]) (congrArg (va_up M r) (by unfold fX2_obeys_P; rw [if_neg c_1, if_neg c_32, if_pos c_35, if_neg c_37])) dX2_obeys_126
      · --not 2
        by_cases c_38 : (a / 1000) = 3
        · --3
          refine lv_tableIn (tgt := 127) hx hb dX2_obeys_38 (by rw [c_38]; decide) (by rw [c_38]; decide) (by rw [c_38]; rfl) (by decide) ?_
          refine lv_iload hx hb dX2_obeys_127 (lv_at hl 0 rfl) ?_
          refine lv_if_eq (tgt := 145) hx hb dX2_obeys_129 (by decide) (fun c_39 => absurd c_39 (by decide)) (fun c_39 => ?_)
          refine lv_aload_n hx hb dX2_obeys_132 rfl (lv_at hl 4 rfl) ?_
          refine lv_iload_n hx hb dX2_obeys_133 rfl (lv_at hl 3 rfl) ?_
          refine lv_iload_n hx hb dX2_obeys_134 rfl (lv_at hl 2 rfl) ?_
          refine g_callV (As := [.int (remI (a / 100) 10), .int (remI a 10)]) (rest := []) (st1 := [.int (fX2_sprayFrom_v P (remI (a / 100) 10) (remI a 10))]) hF (mX2_sprayFrom M R O hV P (remI (a / 100) 10) (remI a 10)) (cwV 2 hts gX2_obeys_X2_sprayFrom rfl rfl rfl (by decide +kernel) ⟨Nat.le_of_ble_eq_true rfl, Nat.le_of_ble_eq_true rfl⟩) hK hZ hG hS hV.c0 (gC_Rd hV.1) (by decide) rfl rfl hl.1 (Nat.le_of_ble_eq_true rfl) dX2_obeys_135 ⟨Nat.zero_le _, Nat.zero_le _⟩ rfl rfl (fun H locs hG hS => ?_)
          refine lv_if_lt (tgt := 145) hx hb dX2_obeys_138 (by decide) (fun c_40 => ?_) (fun c_40 => ?_)
          · --T
            refine lv_iconst (v := 0) hx hb dX2_obeys_145 (by decide) ?_
            exact g_zret hx hb hrt hlocks hS hG (by decide) (by unfold fX2_obeys_v; rw [if_neg c_1, if_neg c_32, if_neg c_35, if_pos c_38, if_pos c_40]) (congrArg (va_up M r) (by unfold fX2_obeys_P; rw [if_neg c_1, if_neg c_32, if_neg c_35, if_pos c_38, if_pos c_40])) dX2_obeys_146
          · --F
            refine lv_iconst (v := 1) hx hb dX2_obeys_141 (by decide) ?_
            refine lv_goto (tgt := 146) hx hb dX2_obeys_142 (by decide) ?_
            exact g_zret hx hb hrt hlocks hS hG (by decide) (by unfold fX2_obeys_v; rw [if_neg c_1, if_neg c_32, if_neg c_35, if_pos c_38, if_neg c_40]) (congrArg (va_up M r) (by unfold fX2_obeys_P; rw [if_neg c_1, if_neg c_32, if_neg c_35, if_pos c_38, if_neg c_40])) dX2_obeys_146
        · --not 3
          by_cases c_41 : (a / 1000) = 4
          · --4
            refine lv_tableIn (tgt := 147) hx hb dX2_obeys_38 (by rw [c_41]; decide) (by rw [c_41]; decide) (by rw [c_41]; rfl) (by decide) ?_
            refine lv_iload hx hb dX2_obeys_147 (lv_at hl 1 rfl) ?_
            refine lv_if_ne (tgt := 164) hx hb dX2_obeys_149 (by decide) (fun c_42 => ?_) (fun c_42 => ?_)
            · --T
              refine lv_iconst (v := 0) hx hb dX2_obeys_164 (by decide) ?_
              exact g_zret hx hb hrt hlocks hS hG (by decide) (by unfold fX2_obeys_v; rw [if_neg c_1, if_neg c_32, if_neg c_35, if_neg c_38, if_pos c_41, if_neg c_42]) (congrArg (va_up M r) (by unfold fX2_obeys_P; rw [if_neg c_1, if_neg c_32, if_neg c_35, if_neg c_38, if_pos c_41, if_neg c_42])) dX2_obeys_165
            · --F
              refine lv_aload_n hx hb dX2_obeys_152 rfl (lv_at hl 4 rfl) ?_
              refine lv_iload_n hx hb dX2_obeys_153 rfl (lv_at hl 3 rfl) ?_
              refine g_callV (As := [.int (remI (a / 100) 10)]) (rest := []) (st1 := [.int (fX2_fillTank_v P (remI (a / 100) 10))]) hF (mX2_fillTank M R O hV P (remI (a / 100) 10)) (cwV 1 hts gX2_obeys_X2_fillTank rfl rfl rfl (by decide +kernel) ⟨Nat.le_of_ble_eq_true rfl, Nat.le_of_ble_eq_true rfl⟩) hK hZ hG hS hV.c0 (gC_Rd hV.1) (by decide) rfl rfl hl.1 (Nat.le_of_ble_eq_true rfl) dX2_obeys_154 ⟨Nat.zero_le _, Nat.zero_le _⟩ rfl rfl (fun H locs hG hS => ?_)
              refine lv_if_lt (tgt := 164) hx hb dX2_obeys_157 (by decide) (fun c_43 => ?_) (fun c_43 => ?_)
              · --T
                refine lv_iconst (v := 0) hx hb dX2_obeys_164 (by decide) ?_
                exact g_zret hx hb hrt hlocks hS hG (by decide) (by unfold fX2_obeys_v; rw [if_neg c_1, if_neg c_32, if_neg c_35, if_neg c_38, if_pos c_41, if_pos c_42, if_pos c_43]) (congrArg (va_up M r) (by unfold fX2_obeys_P; rw [if_neg c_1, if_neg c_32, if_neg c_35, if_neg c_38, if_pos c_41, if_pos c_42, if_pos c_43])) dX2_obeys_165
              · --F
                refine lv_iconst (v := 1) hx hb dX2_obeys_160 (by decide) ?_
                refine lv_goto (tgt := 165) hx hb dX2_obeys_161 (by decide) ?_
                exact g_zret hx hb hrt hlocks hS hG (by decide) (by unfold fX2_obeys_v; rw [if_neg c_1, if_neg c_32, if_neg c_35, if_neg c_38, if_pos c_41, if_pos c_42, if_neg c_43]) (congrArg (va_up M r) (by unfold fX2_obeys_P; rw [if_neg c_1, if_neg c_32, if_neg c_35, if_neg c_38, if_pos c_41, if_pos c_42, if_neg c_43])) dX2_obeys_165
          · --not 4
            by_cases c_44 : (a / 1000) = 5
            · --5
              refine lv_tableIn (tgt := 166) hx hb dX2_obeys_38 (by rw [c_44]; decide) (by rw [c_44]; decide) (by rw [c_44]; rfl) (by decide) ?_
              refine lv_iload hx hb dX2_obeys_166 (lv_at hl 0 rfl) ?_
              refine lv_if_eq (tgt := 184) hx hb dX2_obeys_168 (by decide) (fun c_45 => absurd c_45 (by decide)) (fun c_45 => ?_)
              refine lv_aload_n hx hb dX2_obeys_171 rfl (lv_at hl 4 rfl) ?_
              refine lv_iload_n hx hb dX2_obeys_172 rfl (lv_at hl 3 rfl) ?_
              refine lv_iload_n hx hb dX2_obeys_173 rfl (lv_at hl 2 rfl) ?_
              refine g_callV (As := [.int (remI (a / 100) 10), .int (remI a 10)]) (rest := []) (st1 := [.int (fX2_changeLimit_v P (remI (a / 100) 10) (remI a 10))]) hF (mX2_changeLimit M R O hV P (remI (a / 100) 10) (remI a 10)) (cwV 2 hts gX2_obeys_X2_changeLimit rfl rfl rfl (by decide +kernel) ⟨Nat.le_of_ble_eq_true rfl, Nat.le_of_ble_eq_true rfl⟩) hK hZ hG hS hV.c0 (gC_Rd hV.1) (by decide) rfl rfl hl.1 (Nat.le_of_ble_eq_true rfl) dX2_obeys_174 ⟨Nat.zero_le _, Nat.zero_le _⟩ rfl rfl (fun H locs hG hS => ?_)
              refine lv_if_lt (tgt := 184) hx hb dX2_obeys_177 (by decide) (fun c_46 => ?_) (fun c_46 => ?_)
              · --T
                refine lv_iconst (v := 0) hx hb dX2_obeys_184 (by decide) ?_
                exact g_zret hx hb hrt hlocks hS hG (by decide) (by unfold fX2_obeys_v; rw [if_neg c_1, if_neg c_32, if_neg c_35, if_neg c_38, if_neg c_41, if_pos c_44, if_pos c_46]) (congrArg (va_up M r) (by unfold fX2_obeys_P; rw [if_neg c_1, if_neg c_32, if_neg c_35, if_neg c_38, if_neg c_41, if_pos c_44, if_pos c_46])) dX2_obeys_185
              · --F
                refine lv_iconst (v := 1) hx hb dX2_obeys_180 (by decide) ?_
                refine lv_goto (tgt := 185) hx hb dX2_obeys_181 (by decide) ?_
                exact g_zret hx hb hrt hlocks hS hG (by decide) (by unfold fX2_obeys_v; rw [if_neg c_1, if_neg c_32, if_neg c_35, if_neg c_38, if_neg c_41, if_pos c_44, if_neg c_46]) (congrArg (va_up M r) (by unfold fX2_obeys_P; rw [if_neg c_1, if_neg c_32, if_neg c_35, if_neg c_38, if_neg c_41, if_pos c_44, if_neg c_46])) dX2_obeys_185
            · --not 5
              by_cases c_47 : (a / 1000) = 6
              · --6
                refine lv_tableIn (tgt := 186) hx hb dX2_obeys_38 (by rw [c_47]; decide) (by rw [c_47]; decide) (by rw [c_47]; rfl) (by decide) ?_
                refine lv_iload hx hb dX2_obeys_186 (lv_at hl 0 rfl) ?_
                refine lv_if_eq (tgt := 204) hx hb dX2_obeys_188 (by decide) (fun c_48 => absurd c_48 (by decide)) (fun c_48 => ?_)
                refine lv_aload_n hx hb dX2_obeys_191 rfl (lv_at hl 4 rfl) ?_
                refine lv_iload_n hx hb dX2_obeys_192 rfl (lv_at hl 3 rfl) ?_
                refine lv_iload_n hx hb dX2_obeys_193 rfl (lv_at hl 2 rfl) ?_
                refine g_callV (As := [.int (remI (a / 100) 10), .int (remI a 10)]) (rest := []) (st1 := [.int (fX2_changeSurface_v P (remI (a / 100) 10) (remI a 10))]) hF (mX2_changeSurface M R O hV P (remI (a / 100) 10) (remI a 10)) (cwV 2 hts gX2_obeys_X2_changeSurface rfl rfl rfl (by decide +kernel) ⟨Nat.le_of_ble_eq_true rfl, Nat.le_of_ble_eq_true rfl⟩) hK hZ hG hS hV.c0 (gC_Rd hV.1) (by decide) rfl rfl hl.1 (Nat.le_of_ble_eq_true rfl) dX2_obeys_194 ⟨Nat.zero_le _, Nat.zero_le _⟩ rfl rfl (fun H locs hG hS => ?_)
                refine lv_if_lt (tgt := 204) hx hb dX2_obeys_197 (by decide) (fun c_49 => ?_) (fun c_49 => ?_)
                · --T
                  refine lv_iconst (v := 0) hx hb dX2_obeys_204 (by decide) ?_
                  exact g_zret hx hb hrt hlocks hS hG (by decide) (by unfold fX2_obeys_v; rw [if_neg c_1, if_neg c_32, if_neg c_35, if_neg c_38, if_neg c_41, if_neg c_44, if_pos c_47, if_pos c_49]) (congrArg (va_up M r) (by unfold fX2_obeys_P; rw [if_neg c_1, if_neg c_32, if_neg c_35, if_neg c_38, if_neg c_41, if_neg c_44, if_pos c_47, if_pos c_49])) dX2_obeys_205
                · --F
                  refine lv_iconst (v := 1) hx hb dX2_obeys_200 (by decide) ?_
                  refine lv_goto (tgt := 205) hx hb dX2_obeys_201 (by decide) ?_
                  exact g_zret hx hb hrt hlocks hS hG (by decide) (by unfold fX2_obeys_v; rw [if_neg c_1, if_neg c_32, if_neg c_35, if_neg c_38, if_neg c_41, if_neg c_44, if_pos c_47, if_neg c_49]) (congrArg (va_up M r) (by unfold fX2_obeys_P; rw [if_neg c_1, if_neg c_32, if_neg c_35, if_neg c_38, if_neg c_41, if_neg c_44, if_pos c_47, if_neg c_49])) dX2_obeys_205
              · --not 6
                by_cases c_50 : (a / 1000) = 7
                · --7
                  refine lv_tableIn (tgt := 206) hx hb dX2_obeys_38 (by rw [c_50]; decide) (by rw [c_50]; decide) (by rw [c_50]; rfl) (by decide) ?_
                  refine lv_iload_n hx hb dX2_obeys_206 rfl (lv_at hl 3 rfl) ?_
                  refine lv_if_ne (tgt := 224) hx hb dX2_obeys_207 (by decide) (fun c_51 => ?_) (fun c_51 => ?_)
                  · --T
                    refine lv_iconst (v := 0) hx hb dX2_obeys_224 (by decide) ?_
                    exact g_zret hx hb hrt hlocks hS hG (by decide) (by unfold fX2_obeys_v; rw [if_neg c_1, if_neg c_32, if_neg c_35, if_neg c_38, if_neg c_41, if_neg c_44, if_neg c_47, if_pos c_50, if_neg c_51]) (congrArg (va_up M r) (by unfold fX2_obeys_P; rw [if_neg c_1, if_neg c_32, if_neg c_35, if_neg c_38, if_neg c_41, if_neg c_44, if_neg c_47, if_pos c_50, if_neg c_51])) dX2_obeys_225
                  · --F
                    refine lv_aload_n hx hb dX2_obeys_210 rfl (lv_at hl 4 rfl) ?_
                    refine lv_iconst (v := 5) hx hb dX2_obeys_211 (by decide) ?_
                    refine lv_iload hx hb dX2_obeys_212 (lv_at hl 1 rfl) ?_
                    refine g_callV (As := [.int 5, .int (remI a 100)]) (rest := []) (st1 := [.int (fX2_changeNumber_v P 5 (remI a 100))]) hF (mX2_changeNumber M R O hV P 5 (remI a 100)) (cwV 2 hts gX2_obeys_X2_changeNumber rfl rfl rfl (by decide +kernel) ⟨Nat.le_of_ble_eq_true rfl, Nat.le_of_ble_eq_true rfl⟩) hK hZ hG hS hV.c0 (gC_Rd hV.1) (by decide) rfl rfl hl.1 (Nat.le_of_ble_eq_true rfl) dX2_obeys_214 ⟨Nat.zero_le _, Nat.zero_le _⟩ rfl rfl (fun H locs hG hS => ?_)
                    refine lv_if_lt (tgt := 224) hx hb dX2_obeys_217 (by decide) (fun c_52 => ?_) (fun c_52 => ?_)
                    · --T
                      refine lv_iconst (v := 0) hx hb dX2_obeys_224 (by decide) ?_
                      exact g_zret hx hb hrt hlocks hS hG (by decide) (by unfold fX2_obeys_v; rw [if_neg c_1, if_neg c_32, if_neg c_35, if_neg c_38, if_neg c_41, if_neg c_44, if_neg c_47, if_pos c_50, if_pos c_51, if_pos c_52]) (congrArg (va_up M r) (by unfold fX2_obeys_P; rw [if_neg c_1, if_neg c_32, if_neg c_35, if_neg c_38, if_neg c_41, if_neg c_44, if_neg c_47, if_pos c_50, if_pos c_51, if_pos c_52])) dX2_obeys_225
                    · --F
                      refine lv_iconst (v := 1) hx hb dX2_obeys_220 (by decide) ?_
                      refine lv_goto (tgt := 225) hx hb dX2_obeys_221 (by decide) ?_
                      exact g_zret hx hb hrt hlocks hS hG (by decide) (by unfold fX2_obeys_v; rw [if_neg c_1, if_neg c_32, if_neg c_35, if_neg c_38, if_neg c_41, if_neg c_44, if_neg c_47, if_pos c_50, if_pos c_51, if_neg c_52]) (congrArg (va_up M r) (by unfold fX2_obeys_P; rw [if_neg c_1, if_neg c_32, if_neg c_35, if_neg c_38, if_neg c_41, if_neg c_44, if_neg c_47, if_pos c_50, if_pos c_51, if_neg c_52])) dX2_obeys_225
                · --not 7
                  by_cases c_53 : (a / 1000) = 8
                  · --8
                    refine lv_tableIn (tgt := 226) hx hb dX2_obeys_38 (by rw [c_53]; decide) (by rw [c_53]; decide) (by rw [c_53]; rfl) (by decide) ?_
                    refine lv_aload_n hx hb dX2_obeys_226 rfl (lv_at hl 4 rfl) ?_
                    refine lv_iload_n hx hb dX2_obeys_227 rfl (lv_at hl 3 rfl) ?_
                    refine lv_iload hx hb dX2_obeys_228 (lv_at hl 1 rfl) ?_
                    refine g_callV (As := [.int (remI (a / 100) 10), .int (remI a 100)]) (rest := []) (st1 := [.int (fX2_complainsAtMost_v P (remI (a / 100) 10) (remI a 100))]) hF (mX2_complainsAtMost M R O hV P (remI (a / 100) 10) (remI a 100)) (cwV 2 hts gX2_obeys_X2_complainsAtMost rfl rfl rfl (by decide +kernel) ⟨Nat.le_of_ble_eq_true rfl, Nat.le_of_ble_eq_true rfl⟩) hK hZ hG hS hV.c0 (gC_Rd hV.1) (by decide) rfl rfl hl.1 (Nat.le_of_ble_eq_true rfl) dX2_obeys_230 ⟨Nat.zero_le _, Nat.zero_le _⟩ rfl rfl (fun H locs hG hS => ?_)
                    exact g_zret hx hb hrt hlocks hS hG (by unfold fX2_complainsAtMost_v; (repeat' split) <;> decide) (by unfold fX2_obeys_v; rw [if_neg c_1, if_neg c_32, if_neg c_35, if_neg c_38, if_neg c_41, if_neg c_44, if_neg c_47, if_neg c_50, if_pos c_53]) (congrArg (va_up M r) (by unfold fX2_obeys_P; rw [if_neg c_1, if_neg c_32, if_neg c_35, if_neg c_38, if_neg c_41, if_neg c_44, if_neg c_47, if_neg c_50, if_pos c_53])) dX2_obeys_233
                  · --not 8
                    by_cases c_54 : (a / 1000) = 9
                    · --9
                      refine lv_tableIn (tgt := 234) hx hb dX2_obeys_38 (by rw [c_54]; decide) (by rw [c_54]; decide) (by rw [c_54]; rfl) (by decide) ?_
                      refine lv_aload_n hx hb dX2_obeys_234 rfl (lv_at hl 4 rfl) ?_
                      refine lv_iload_n hx hb dX2_obeys_235 rfl (lv_at hl 3 rfl) ?_
                      by_cases c_55 : okI (remI (a / 100) 10) (P 0) 10
                      · --ok
                        refine g_callV (As := [.int (remI (a / 100) 10)]) (rest := []) (st1 := [.ref (gad Γ (25 * r + 4 + ((remI (a / 100) 10).toNatClampNeg)))]) hF (mX2_segmentAt_y M R O hV P c_55 (j := (remI (a / 100) 10).toNatClampNeg) rfl) (cwV 1 hts gX2_obeys_X2_segmentAt rfl rfl rfl (by decide +kernel) ⟨Nat.le_of_ble_eq_true rfl, Nat.le_of_ble_eq_true rfl⟩) hK hZ hG hS hV.c0 (gC_Rd hV.1) (by decide) rfl rfl hl.1 (Nat.le_of_ble_eq_true rfl) dX2_obeys_236 ⟨Nat.zero_le _, Nat.zero_le _⟩ rfl rfl (fun H locs hG hS => ?_)
                        refine lv_ifnull hx hb dX2_obeys_239 ?_
                        refine lv_aload_n hx hb dX2_obeys_242 rfl (lv_at hl 4 rfl) ?_
                        refine lv_iload_n hx hb dX2_obeys_243 rfl (lv_at hl 3 rfl) ?_
                        refine g_callV (As := [.int (remI (a / 100) 10)]) (rest := []) (st1 := [.int (fX2_dustAt_v P (remI (a / 100) 10))]) hF (mX2_dustAt M R O hV P (remI (a / 100) 10)) (cwV 1 hts gX2_obeys_X2_dustAt rfl rfl rfl (by decide +kernel) ⟨Nat.le_of_ble_eq_true rfl, Nat.le_of_ble_eq_true rfl⟩) hK hZ hG hS hV.c0 (gC_Rd hV.1) (by decide) rfl rfl hl.1 (Nat.le_of_ble_eq_true rfl) dX2_obeys_244 ⟨Nat.zero_le _, Nat.zero_le _⟩ rfl rfl (fun H locs hG hS => ?_)
                        refine lv_bipush (v := 10) hx hb dX2_obeys_247 (by decide) ?_
                        refine lv_iload hx hb dX2_obeys_249 (lv_at hl 1 rfl) ?_
                        refine lv_imul hx hb dX2_obeys_251 ?_
                        refine lv_icmp_gt (tgt := 259) hx hb dX2_obeys_252 (by decide) (fun c_56 => ?_) (fun c_56 => ?_)
                        · --T
                          refine lv_iconst (v := 0) hx hb dX2_obeys_259 (by decide) ?_
                          exact g_zret hx hb hrt hlocks hS hG (by decide) (by unfold fX2_obeys_v; rw [if_neg c_1, if_neg c_32, if_neg c_35, if_neg c_38, if_neg c_41, if_neg c_44, if_neg c_47, if_neg c_50, if_neg c_53, if_pos c_54, if_pos c_55, if_pos c_56]) (congrArg (va_up M r) (by unfold fX2_obeys_P; rw [if_neg c_1, if_neg c_32, if_neg c_35, if_neg c_38, if_neg c_41, if_neg c_44, if_neg c_47, if_neg c_50, if_neg c_53, if_pos c_54, if_pos c_55, if_pos c_56])) dX2_obeys_260
                        · --F
                          refine lv_iconst (v := 1) hx hb dX2_obeys_255 (by decide) ?_
                          refine lv_goto (tgt := 260) hx hb dX2_obeys_256 (by decide) ?_
                          exact g_zret hx hb hrt hlocks hS hG (by decide) (by unfold fX2_obeys_v; rw [if_neg c_1, if_neg c_32, if_neg c_35, if_neg c_38, if_neg c_41, if_neg c_44, if_neg c_47, if_neg c_50, if_neg c_53, if_pos c_54, if_pos c_55, if_neg c_56]) (congrArg (va_up M r) (by unfold fX2_obeys_P; rw [if_neg c_1, if_neg c_32, if_neg c_35, if_neg c_38, if_neg c_41, if_neg c_44, if_neg c_47, if_neg c_50, if_neg c_53, if_pos c_54, if_pos c_55, if_neg c_56])) dX2_obeys_260
                      · --none
                        refine g_callV (As := [.int (remI (a / 100) 10)]) (rest := []) (st1 := [.null]) hF (mX2_segmentAt_n M R O hV P c_55) (cwV 1 hts gX2_obeys_X2_segmentAt rfl rfl rfl (by decide +kernel) ⟨Nat.le_of_ble_eq_true rfl, Nat.le_of_ble_eq_true rfl⟩) hK hZ hG hS hV.c0 (gC_Rd hV.1) (by decide) rfl rfl hl.1 (Nat.le_of_ble_eq_true rfl) dX2_obeys_236 ⟨Nat.zero_le _, Nat.zero_le _⟩ rfl rfl (fun H locs hG hS => ?_)
                        refine lv_ifnullN (tgt := 259) hx hb dX2_obeys_239 (by decide) ?_
                        refine lv_iconst (v := 0) hx hb dX2_obeys_259 (by decide) ?_
                        exact g_zret hx hb hrt hlocks hS hG (by decide) (by unfold fX2_obeys_v; rw [if_neg c_1, if_neg c_32, if_neg c_35, if_neg c_38, if_neg c_41, if_neg c_44, if_neg c_47, if_neg c_50, if_neg c_53, if_pos c_54, if_neg c_55]) (congrArg (va_up M r) (by unfold fX2_obeys_P; rw [if_neg c_1, if_neg c_32, if_neg c_35, if_neg c_38, if_neg c_41, if_neg c_44, if_neg c_47, if_neg c_50, if_neg c_53, if_pos c_54, if_neg c_55])) dX2_obeys_260
                    · --not 9
                      have z_57 := lv_neT (a := 1) c_32 (by decide)
                      have z_58 := lv_neT (a := 2) c_35 (by decide)
                      have z_59 := lv_neT (a := 3) c_38 (by decide)
                      have z_60 := lv_neT (a := 4) c_41 (by decide)
                      have z_61 := lv_neT (a := 5) c_44 (by decide)
                      have z_62 := lv_neT (a := 6) c_47 (by decide)
                      have z_63 := lv_neT (a := 7) c_50 (by decide)
                      have z_64 := lv_neT (a := 8) c_53 (by decide)
                      have z_65 := lv_neT (a := 9) c_54 (by decide)
                      refine lv_tableOut (tgt := 261) hx hb dX2_obeys_38 (by omega) (by decide) ?_
                      refine lv_iconst (v := 0) hx hb dX2_obeys_261 (by decide) ?_
                      exact g_zret hx hb hrt hlocks hS hG (by decide) (by unfold fX2_obeys_v; rw [if_neg c_1, if_neg c_32, if_neg c_35, if_neg c_38, if_neg c_41, if_neg c_44, if_neg c_47, if_neg c_50, if_neg c_53, if_neg c_54]) (congrArg (va_up M r) (by unfold fX2_obeys_P; rw [if_neg c_1, if_neg c_32, if_neg c_35, if_neg c_38, if_neg c_41, if_neg c_44, if_neg c_47, if_neg c_50, if_neg c_53, if_neg c_54])) dX2_obeys_262

