/-! THE REFERENCE: reads. Laid by gen/p09.py. -/
theorem in_l (a : Int32) (n m : Nat) (hn : n < 1000) (hm : m < 1000) : fX7_in_v a.toInt64 (lN n) (lN m) = if nI n ≤ a ∧ a ≤ nI m then 1 else 0 := by
  have h := in_v a (nI n) (nI m)
  rwa [nI_l (by omega), nI_l (by omega)] at h
theorem inPl {d : Int32} (m : Nat) (hc : ¬ fX7_in_v d.toInt64 (lN 0) (lN m) = 0) (hm : m < 1000 := by decide) : d = nI d.toNatClampNeg ∧ d.toNatClampNeg < m + 1 := by
  rw [in_l d 0 m (by decide) hm] at hc
  by_cases q : nI 0 ≤ d ∧ d ≤ nI m
  · obtain ⟨j, hj, rfl⟩ := nI_of (i32_le_nlt q.1)
    rw [nI_clamp hj]
    exact ⟨rfl, by have := (nI_leI hj (by omega)).mp q.2; omega⟩
  · rw [if_neg q] at hc
    exact absurd rfl hc
theorem add_pl {x : Int32} {n k : Nat} (h : x = nI k) : nI n + x = nI (n + k) := by subst h; exact nI_add _ _
def fX7_segment_v (A T D N V I K B : Nat → Int32) (a d : Int32) : Int32 := if (fX7_isSegment_v N a) = 0 then 0 else if (fX7_in_v d.toInt64 0 6) = 0 then 0 else N (12 + 7 * a.toNatClampNeg + d.toNatClampNeg)
def fX7_segment_A (A T D N V I K B : Nat → Int32) (a d : Int32) : Nat → Int32 := if (fX7_isSegment_v N a) = 0 then upd A 0 1 else if (fX7_in_v d.toInt64 0 6) = 0 then upd A 0 2 else upd A 0 0
set_option maxHeartbeats 4000000 in
set_option maxRecDepth 100000 in
theorem mX7_segment {l : Launch} {Γ : gX} (M : Nat → Nat → Int32) (R : Nat → Nat → Option Nat) (O : Int64) (hL : LM Γ R) (A T D N V I K B : Nat → Int32) (a d : Int32) (hN : WS N) : gMet l Γ yX7_segment wsX7_segment 2 46 [.ref (gad Γ 483), .int a, .int d] (mS M A T D N V I K B) R O (some (.int (fX7_segment_v A T D N V I K B a d))) (mS M (fX7_segment_A A T D N V I K B a d) T D N V I K B) R O := by
  refine g_start (cc := cX7_segment) (maxL := 3) (ret := (some .int)) (by decide) rfl (Nat.le_of_ble_eq_true rfl) ?_
  intro p e s m below meth c ls hx hb hml hrt hts hown hlocks hname hK hZ hG hS hl
  have hl : lv_has ls 3 [(0, .ref (gad Γ 483)), (1, .int a), (2, .int d)] := hl
  have hown : s.vm.findClass RX7 = some m.cls := hown
  have hF : CallFix p m c cX7_segment 3 s _ wsX7_segment RX7 := ⟨hx, hb, hml, hown, hts⟩
  have k_1 : (Cond.fieldLink RX7 16 "RoadDustModel" "now" "[I").before _ s = true := hts _ (by decide +kernel)
  have in_X7 : ∀ w ∈ wsX70, w ∈ wsX7_segment := by decide +kernel
  have k_3 : (Cond.constantLong RX7 148 (6)).before _ s = true := hts _ (by decide +kernel)
  have n0 := hN.1.2
  have n1 := hN.2.1.2
  have n2 := hN.2.2.1.2
  refine lv_aload_n hx hb dX7_segment_0 rfl (lv_at hl 0 rfl) ?_
  refine lv_aload_n hx hb dX7_segment_1 rfl (lv_at hl 0 rfl) ?_
  refine gM_getr hx hb hts in_X7 hown hK hL hG 5 (by decide) rfl hL.2.2.2.1 k_1 (fun _ h => h) dX7_segment_2 ?_
  refine lv_iload_n hx hb dX7_segment_5 rfl (lv_at hl 1 rfl) ?_
  refine g_callS (As := [.ref (gad Γ 486), .int a]) (rest := [.ref (gad Γ 483)]) (st1 := [.int (fX7_isSegment_v N a), .ref (gad Γ 483)]) hF (mX7_isSegment (mS M A T D N V I K B) R O (hL.1 486 (by decide) (by decide)) (show gC 486 = (9, 27, 0) from rfl) (show gLen 486 = 131 from rfl) N a) (va_cwS 2 hts gX7_segment_X7_isSegment rfl rfl rfl (by decide +kernel) ⟨Nat.le_of_ble_eq_true rfl, Nat.le_of_ble_eq_true rfl⟩) hK hZ (g_st (show _ = va_up (mS M A T D N V I K B) 27 N from (mS_u27 _ _ _ _ _ _ _ _ _ _).symm) hG) hS rfl hl.1 (Nat.le_of_ble_eq_true rfl) dX7_segment_6 ⟨Nat.zero_le _, Nat.zero_le _⟩ rfl rfl (fun H locs hG hS => ?_)
  replace hG : GH Γ (mS M A T D N V I K B) R O H := g_st (mS_u27 _ _ _ _ _ _ _ _ _ _) hG
  refine lv_if_ne (tgt := 16) hx hb dX7_segment_9 (by decide) (fun c_1 => ?_) (fun c_1 => ?_)
  · --T
    refine lv_iload_n hx hb dX7_segment_16 rfl (lv_at hl 2 rfl) ?_
    refine lv_i2l hx hb dX7_segment_17 rfl ?_
    refine lv_lconst (v := 0) hx hb dX7_segment_18 (by decide) ?_
    refine lv_ldc2 hx hb hown k_3 dX7_segment_19 ?_
    refine g_callS (As := [.long d.toInt64, .long 0, .long 6]) (rest := [.ref (gad Γ 483)]) (st1 := [.int (fX7_in_v d.toInt64 0 6), .ref (gad Γ 483)]) hF (mX7_in _ R O d.toInt64 0 6) (va_cwS 3 hts gX7_segment_X7_in rfl rfl rfl (by decide +kernel) ⟨Nat.le_of_ble_eq_true rfl, Nat.le_of_ble_eq_true rfl⟩) hK hZ hG hS rfl hl.1 (Nat.le_of_ble_eq_true rfl) dX7_segment_22 ⟨Nat.zero_le _, Nat.zero_le _⟩ rfl rfl (fun H locs hG hS => ?_)
    refine lv_if_ne (tgt := 32) hx hb dX7_segment_25 (by decide) (fun c_2 => ?_) (fun c_2 => ?_)
    · --T
      refine lv_iconst (v := 0) hx hb dX7_segment_32 (by decide) ?_
      refine g_callV (As := [.int 0]) (rest := []) (st1 := [.int 0]) hF (mX7_refused_l M R O hL A T D N V I K B 0 0 (by decide)) (cwV 1 hts gX7_segment_X7_refused rfl rfl rfl (by decide +kernel) ⟨Nat.le_of_ble_eq_true rfl, Nat.le_of_ble_eq_true rfl⟩) hK hZ hG hS (hL.1 483 (by decide) (by decide)) (show gC 483 = (7, 24, 0) from rfl) (by decide) rfl rfl hl.1 (Nat.le_of_ble_eq_true rfl) dX7_segment_33 ⟨Nat.zero_le _, Nat.zero_le _⟩ rfl rfl (fun H locs hG hS => ?_)
      refine lv_if_eq (tgt := 43) hx hb dX7_segment_36 (by decide) (fun c_3 => ?_) (fun c_3 => absurd (by decide) c_3)
      have q_1 := (isPl hN.1.1 (by omega) c_1).2
      have q_2 := (inPl 6 c_2).2
      refine lv_aload_n hx hb dX7_segment_43 rfl (lv_at hl 0 rfl) ?_
      refine gM_getr hx hb hts in_X7 hown hK hL hG 5 (by decide) rfl hL.2.2.2.1 k_1 (fun _ h => h) dX7_segment_44 ?_
      refine lv_iload_n hx hb dX7_segment_47 rfl (lv_at hl 1 rfl) ?_
      refine g_callS (As := [.int a]) (rest := [.ref (gad Γ 486)]) (st1 := [.int (nI (12 + 7 * a.toNatClampNeg)), .ref (gad Γ 486)]) hF (mX7_segmentAt _ R O a.toNatClampNeg ((isPl hN.1.1 (by omega) c_1).1)) (va_cwS 1 hts gX7_segment_X7_segmentAt rfl rfl rfl (by decide +kernel) ⟨Nat.le_of_ble_eq_true rfl, Nat.le_of_ble_eq_true rfl⟩) hK hZ hG hS rfl hl.1 (Nat.le_of_ble_eq_true rfl) dX7_segment_48 ⟨Nat.zero_le _, Nat.zero_le _⟩ rfl rfl (fun H locs hG hS => ?_)
      refine lv_iload_n hx hb dX7_segment_51 rfl (lv_at hl 2 rfl) ?_
      refine lv_iadd hx hb dX7_segment_52 ?_
      refine gm_ald hx hb hK hG (hL.1 486 (by decide) (by decide)) (show gC 486 = (9, 27, 0) from rfl) (show gLen 486 = 131 from rfl) (by decide) (j := 12 + 7 * a.toNatClampNeg + d.toNatClampNeg) (add_pl (inPl 6 c_2).1) (by omega) (v := N (12 + 7 * a.toNatClampNeg + d.toNatClampNeg)) rfl dX7_segment_53 ?_
      exact g_iret hx hb hrt hlocks hS hG (by unfold fX7_segment_v; rw [if_neg c_1, if_neg c_2]) (mS_c (by unfold fX7_segment_A; rw [if_neg c_1, if_neg c_2]) rfl rfl rfl rfl rfl rfl rfl) dX7_segment_54
    · --F
      refine lv_iconst (v := 2) hx hb dX7_segment_28 (by decide) ?_
      refine lv_goto (tgt := 33) hx hb dX7_segment_29 (by decide) ?_
      refine g_callV (As := [.int 2]) (rest := []) (st1 := [.int 1]) hF (mX7_refused_l M R O hL A T D N V I K B 2 1 (by decide)) (cwV 1 hts gX7_segment_X7_refused rfl rfl rfl (by decide +kernel) ⟨Nat.le_of_ble_eq_true rfl, Nat.le_of_ble_eq_true rfl⟩) hK hZ hG hS (hL.1 483 (by decide) (by decide)) (show gC 483 = (7, 24, 0) from rfl) (by decide) rfl rfl hl.1 (Nat.le_of_ble_eq_true rfl) dX7_segment_33 ⟨Nat.zero_le _, Nat.zero_le _⟩ rfl rfl (fun H locs hG hS => ?_)
      refine lv_if_eq (tgt := 43) hx hb dX7_segment_36 (by decide) (fun c_4 => absurd c_4 (by decide)) (fun c_4 => ?_)
      refine lv_iconst (v := 0) hx hb dX7_segment_39 (by decide) ?_
      refine lv_goto (tgt := 54) hx hb dX7_segment_40 (by decide) ?_
      exact g_iret hx hb hrt hlocks hS hG (by unfold fX7_segment_v; rw [if_neg c_1, if_pos c_2]) (mS_c (by unfold fX7_segment_A; rw [if_neg c_1, if_pos c_2]) rfl rfl rfl rfl rfl rfl rfl) dX7_segment_54
  · --F
    refine lv_iconst (v := 1) hx hb dX7_segment_12 (by decide) ?_
    refine lv_goto (tgt := 33) hx hb dX7_segment_13 (by decide) ?_
    refine g_callV (As := [.int 1]) (rest := []) (st1 := [.int 1]) hF (mX7_refused_l M R O hL A T D N V I K B 1 1 (by decide)) (cwV 1 hts gX7_segment_X7_refused rfl rfl rfl (by decide +kernel) ⟨Nat.le_of_ble_eq_true rfl, Nat.le_of_ble_eq_true rfl⟩) hK hZ hG hS (hL.1 483 (by decide) (by decide)) (show gC 483 = (7, 24, 0) from rfl) (by decide) rfl rfl hl.1 (Nat.le_of_ble_eq_true rfl) dX7_segment_33 ⟨Nat.zero_le _, Nat.zero_le _⟩ rfl rfl (fun H locs hG hS => ?_)
    refine lv_if_eq (tgt := 43) hx hb dX7_segment_36 (by decide) (fun c_5 => absurd c_5 (by decide)) (fun c_5 => ?_)
    refine lv_iconst (v := 0) hx hb dX7_segment_39 (by decide) ?_
    refine lv_goto (tgt := 54) hx hb dX7_segment_40 (by decide) ?_
    exact g_iret hx hb hrt hlocks hS hG (by unfold fX7_segment_v; rw [if_pos c_1]) (mS_c (by unfold fX7_segment_A; rw [if_pos c_1]) rfl rfl rfl rfl rfl rfl rfl) dX7_segment_54

def fX7_house_v (A T D N V I K B : Nat → Int32) (a d : Int32) : Int32 := if (fX7_isHouse_v N a) = 0 then 0 else if (fX7_in_v d.toInt64 0 4) = 0 then 0 else N (82 + 5 * a.toNatClampNeg + d.toNatClampNeg)
def fX7_house_A (A T D N V I K B : Nat → Int32) (a d : Int32) : Nat → Int32 := if (fX7_isHouse_v N a) = 0 then upd A 0 1 else if (fX7_in_v d.toInt64 0 4) = 0 then upd A 0 2 else upd A 0 0
set_option maxHeartbeats 4000000 in
set_option maxRecDepth 100000 in
theorem mX7_house {l : Launch} {Γ : gX} (M : Nat → Nat → Int32) (R : Nat → Nat → Option Nat) (O : Int64) (hL : LM Γ R) (A T D N V I K B : Nat → Int32) (a d : Int32) (hN : WS N) : gMet l Γ yX7_house wsX7_house 2 46 [.ref (gad Γ 483), .int a, .int d] (mS M A T D N V I K B) R O (some (.int (fX7_house_v A T D N V I K B a d))) (mS M (fX7_house_A A T D N V I K B a d) T D N V I K B) R O := by
  refine g_start (cc := cX7_house) (maxL := 3) (ret := (some .int)) (by decide) rfl (Nat.le_of_ble_eq_true rfl) ?_
  intro p e s m below meth c ls hx hb hml hrt hts hown hlocks hname hK hZ hG hS hl
  have hl : lv_has ls 3 [(0, .ref (gad Γ 483)), (1, .int a), (2, .int d)] := hl
  have hown : s.vm.findClass RX7 = some m.cls := hown
  have hF : CallFix p m c cX7_house 3 s _ wsX7_house RX7 := ⟨hx, hb, hml, hown, hts⟩
  have k_1 : (Cond.fieldLink RX7 16 "RoadDustModel" "now" "[I").before _ s = true := hts _ (by decide +kernel)
  have in_X7 : ∀ w ∈ wsX70, w ∈ wsX7_house := by decide +kernel
  have k_3 : (Cond.constantLong RX7 153 (4)).before _ s = true := hts _ (by decide +kernel)
  have n0 := hN.1.2
  have n1 := hN.2.1.2
  have n2 := hN.2.2.1.2
  refine lv_aload_n hx hb dX7_house_0 rfl (lv_at hl 0 rfl) ?_
  refine lv_aload_n hx hb dX7_house_1 rfl (lv_at hl 0 rfl) ?_
  refine gM_getr hx hb hts in_X7 hown hK hL hG 5 (by decide) rfl hL.2.2.2.1 k_1 (fun _ h => h) dX7_house_2 ?_
  refine lv_iload_n hx hb dX7_house_5 rfl (lv_at hl 1 rfl) ?_
  refine g_callS (As := [.ref (gad Γ 486), .int a]) (rest := [.ref (gad Γ 483)]) (st1 := [.int (fX7_isHouse_v N a), .ref (gad Γ 483)]) hF (mX7_isHouse (mS M A T D N V I K B) R O (hL.1 486 (by decide) (by decide)) (show gC 486 = (9, 27, 0) from rfl) (show gLen 486 = 131 from rfl) N a) (va_cwS 2 hts gX7_house_X7_isHouse rfl rfl rfl (by decide +kernel) ⟨Nat.le_of_ble_eq_true rfl, Nat.le_of_ble_eq_true rfl⟩) hK hZ (g_st (show _ = va_up (mS M A T D N V I K B) 27 N from (mS_u27 _ _ _ _ _ _ _ _ _ _).symm) hG) hS rfl hl.1 (Nat.le_of_ble_eq_true rfl) dX7_house_6 ⟨Nat.zero_le _, Nat.zero_le _⟩ rfl rfl (fun H locs hG hS => ?_)
  replace hG : GH Γ (mS M A T D N V I K B) R O H := g_st (mS_u27 _ _ _ _ _ _ _ _ _ _) hG
  refine lv_if_ne (tgt := 16) hx hb dX7_house_9 (by decide) (fun c_1 => ?_) (fun c_1 => ?_)
  · --T
    refine lv_iload_n hx hb dX7_house_16 rfl (lv_at hl 2 rfl) ?_
    refine lv_i2l hx hb dX7_house_17 rfl ?_
    refine lv_lconst (v := 0) hx hb dX7_house_18 (by decide) ?_
    refine lv_ldc2 hx hb hown k_3 dX7_house_19 ?_
    refine g_callS (As := [.long d.toInt64, .long 0, .long 4]) (rest := [.ref (gad Γ 483)]) (st1 := [.int (fX7_in_v d.toInt64 0 4), .ref (gad Γ 483)]) hF (mX7_in _ R O d.toInt64 0 4) (va_cwS 3 hts gX7_house_X7_in rfl rfl rfl (by decide +kernel) ⟨Nat.le_of_ble_eq_true rfl, Nat.le_of_ble_eq_true rfl⟩) hK hZ hG hS rfl hl.1 (Nat.le_of_ble_eq_true rfl) dX7_house_22 ⟨Nat.zero_le _, Nat.zero_le _⟩ rfl rfl (fun H locs hG hS => ?_)
    refine lv_if_ne (tgt := 32) hx hb dX7_house_25 (by decide) (fun c_2 => ?_) (fun c_2 => ?_)
    · --T
      refine lv_iconst (v := 0) hx hb dX7_house_32 (by decide) ?_
      refine g_callV (As := [.int 0]) (rest := []) (st1 := [.int 0]) hF (mX7_refused_l M R O hL A T D N V I K B 0 0 (by decide)) (cwV 1 hts gX7_house_X7_refused rfl rfl rfl (by decide +kernel) ⟨Nat.le_of_ble_eq_true rfl, Nat.le_of_ble_eq_true rfl⟩) hK hZ hG hS (hL.1 483 (by decide) (by decide)) (show gC 483 = (7, 24, 0) from rfl) (by decide) rfl rfl hl.1 (Nat.le_of_ble_eq_true rfl) dX7_house_33 ⟨Nat.zero_le _, Nat.zero_le _⟩ rfl rfl (fun H locs hG hS => ?_)
      refine lv_if_eq (tgt := 43) hx hb dX7_house_36 (by decide) (fun c_3 => ?_) (fun c_3 => absurd (by decide) c_3)
      have q_1 := (isPl hN.2.1.1 (by omega) c_1).2
      have q_2 := (inPl 4 c_2).2
      refine lv_aload_n hx hb dX7_house_43 rfl (lv_at hl 0 rfl) ?_
      refine gM_getr hx hb hts in_X7 hown hK hL hG 5 (by decide) rfl hL.2.2.2.1 k_1 (fun _ h => h) dX7_house_44 ?_
      refine lv_iload_n hx hb dX7_house_47 rfl (lv_at hl 1 rfl) ?_
      refine g_callS (As := [.int a]) (rest := [.ref (gad Γ 486)]) (st1 := [.int (nI (82 + 5 * a.toNatClampNeg)), .ref (gad Γ 486)]) hF (mX7_houseAt _ R O a.toNatClampNeg ((isPl hN.2.1.1 (by omega) c_1).1)) (va_cwS 1 hts gX7_house_X7_houseAt rfl rfl rfl (by decide +kernel) ⟨Nat.le_of_ble_eq_true rfl, Nat.le_of_ble_eq_true rfl⟩) hK hZ hG hS rfl hl.1 (Nat.le_of_ble_eq_true rfl) dX7_house_48 ⟨Nat.zero_le _, Nat.zero_le _⟩ rfl rfl (fun H locs hG hS => ?_)
      refine lv_iload_n hx hb dX7_house_51 rfl (lv_at hl 2 rfl) ?_
      refine lv_iadd hx hb dX7_house_52 ?_
      refine gm_ald hx hb hK hG (hL.1 486 (by decide) (by decide)) (show gC 486 = (9, 27, 0) from rfl) (show gLen 486 = 131 from rfl) (by decide) (j := 82 + 5 * a.toNatClampNeg + d.toNatClampNeg) (add_pl (inPl 4 c_2).1) (by omega) (v := N (82 + 5 * a.toNatClampNeg + d.toNatClampNeg)) rfl dX7_house_53 ?_
      exact g_iret hx hb hrt hlocks hS hG (by unfold fX7_house_v; rw [if_neg c_1, if_neg c_2]) (mS_c (by unfold fX7_house_A; rw [if_neg c_1, if_neg c_2]) rfl rfl rfl rfl rfl rfl rfl) dX7_house_54
    · --F
      refine lv_iconst (v := 2) hx hb dX7_house_28 (by decide) ?_
      refine lv_goto (tgt := 33) hx hb dX7_house_29 (by decide) ?_
      refine g_callV (As := [.int 2]) (rest := []) (st1 := [.int 1]) hF (mX7_refused_l M R O hL A T D N V I K B 2 1 (by decide)) (cwV 1 hts gX7_house_X7_refused rfl rfl rfl (by decide +kernel) ⟨Nat.le_of_ble_eq_true rfl, Nat.le_of_ble_eq_true rfl⟩) hK hZ hG hS (hL.1 483 (by decide) (by decide)) (show gC 483 = (7, 24, 0) from rfl) (by decide) rfl rfl hl.1 (Nat.le_of_ble_eq_true rfl) dX7_house_33 ⟨Nat.zero_le _, Nat.zero_le _⟩ rfl rfl (fun H locs hG hS => ?_)
      refine lv_if_eq (tgt := 43) hx hb dX7_house_36 (by decide) (fun c_4 => absurd c_4 (by decide)) (fun c_4 => ?_)
      refine lv_iconst (v := 0) hx hb dX7_house_39 (by decide) ?_
      refine lv_goto (tgt := 54) hx hb dX7_house_40 (by decide) ?_
      exact g_iret hx hb hrt hlocks hS hG (by unfold fX7_house_v; rw [if_neg c_1, if_pos c_2]) (mS_c (by unfold fX7_house_A; rw [if_neg c_1, if_pos c_2]) rfl rfl rfl rfl rfl rfl rfl) dX7_house_54
  · --F
    refine lv_iconst (v := 1) hx hb dX7_house_12 (by decide) ?_
    refine lv_goto (tgt := 33) hx hb dX7_house_13 (by decide) ?_
    refine g_callV (As := [.int 1]) (rest := []) (st1 := [.int 1]) hF (mX7_refused_l M R O hL A T D N V I K B 1 1 (by decide)) (cwV 1 hts gX7_house_X7_refused rfl rfl rfl (by decide +kernel) ⟨Nat.le_of_ble_eq_true rfl, Nat.le_of_ble_eq_true rfl⟩) hK hZ hG hS (hL.1 483 (by decide) (by decide)) (show gC 483 = (7, 24, 0) from rfl) (by decide) rfl rfl hl.1 (Nat.le_of_ble_eq_true rfl) dX7_house_33 ⟨Nat.zero_le _, Nat.zero_le _⟩ rfl rfl (fun H locs hG hS => ?_)
    refine lv_if_eq (tgt := 43) hx hb dX7_house_36 (by decide) (fun c_5 => absurd c_5 (by decide)) (fun c_5 => ?_)
    refine lv_iconst (v := 0) hx hb dX7_house_39 (by decide) ?_
    refine lv_goto (tgt := 54) hx hb dX7_house_40 (by decide) ?_
    exact g_iret hx hb hrt hlocks hS hG (by unfold fX7_house_v; rw [if_pos c_1]) (mS_c (by unfold fX7_house_A; rw [if_pos c_1]) rfl rfl rfl rfl rfl rfl rfl) dX7_house_54

def fX7_wagon_v (A T D N V I K B : Nat → Int32) (a d : Int32) : Int32 := if (fX7_isWagon_v N a) = 0 then 0 else if (fX7_in_v d.toInt64 0 2) = 0 then 0 else N (122 + 3 * a.toNatClampNeg + d.toNatClampNeg)
def fX7_wagon_A (A T D N V I K B : Nat → Int32) (a d : Int32) : Nat → Int32 := if (fX7_isWagon_v N a) = 0 then upd A 0 1 else if (fX7_in_v d.toInt64 0 2) = 0 then upd A 0 2 else upd A 0 0
set_option maxHeartbeats 4000000 in
set_option maxRecDepth 100000 in
theorem mX7_wagon {l : Launch} {Γ : gX} (M : Nat → Nat → Int32) (R : Nat → Nat → Option Nat) (O : Int64) (hL : LM Γ R) (A T D N V I K B : Nat → Int32) (a d : Int32) (hN : WS N) : gMet l Γ yX7_wagon wsX7_wagon 2 46 [.ref (gad Γ 483), .int a, .int d] (mS M A T D N V I K B) R O (some (.int (fX7_wagon_v A T D N V I K B a d))) (mS M (fX7_wagon_A A T D N V I K B a d) T D N V I K B) R O := by
  refine g_start (cc := cX7_wagon) (maxL := 3) (ret := (some .int)) (by decide) rfl (Nat.le_of_ble_eq_true rfl) ?_
  intro p e s m below meth c ls hx hb hml hrt hts hown hlocks hname hK hZ hG hS hl
  have hl : lv_has ls 3 [(0, .ref (gad Γ 483)), (1, .int a), (2, .int d)] := hl
  have hown : s.vm.findClass RX7 = some m.cls := hown
  have hF : CallFix p m c cX7_wagon 3 s _ wsX7_wagon RX7 := ⟨hx, hb, hml, hown, hts⟩
  have k_1 : (Cond.fieldLink RX7 16 "RoadDustModel" "now" "[I").before _ s = true := hts _ (by decide +kernel)
  have in_X7 : ∀ w ∈ wsX70, w ∈ wsX7_wagon := by decide +kernel
  have k_3 : (Cond.constantLong RX7 158 (2)).before _ s = true := hts _ (by decide +kernel)
  have n0 := hN.1.2
  have n1 := hN.2.1.2
  have n2 := hN.2.2.1.2
  refine lv_aload_n hx hb dX7_wagon_0 rfl (lv_at hl 0 rfl) ?_
  refine lv_aload_n hx hb dX7_wagon_1 rfl (lv_at hl 0 rfl) ?_
  refine gM_getr hx hb hts in_X7 hown hK hL hG 5 (by decide) rfl hL.2.2.2.1 k_1 (fun _ h => h) dX7_wagon_2 ?_
  refine lv_iload_n hx hb dX7_wagon_5 rfl (lv_at hl 1 rfl) ?_
  refine g_callS (As := [.ref (gad Γ 486), .int a]) (rest := [.ref (gad Γ 483)]) (st1 := [.int (fX7_isWagon_v N a), .ref (gad Γ 483)]) hF (mX7_isWagon (mS M A T D N V I K B) R O (hL.1 486 (by decide) (by decide)) (show gC 486 = (9, 27, 0) from rfl) (show gLen 486 = 131 from rfl) N a) (va_cwS 2 hts gX7_wagon_X7_isWagon rfl rfl rfl (by decide +kernel) ⟨Nat.le_of_ble_eq_true rfl, Nat.le_of_ble_eq_true rfl⟩) hK hZ (g_st (show _ = va_up (mS M A T D N V I K B) 27 N from (mS_u27 _ _ _ _ _ _ _ _ _ _).symm) hG) hS rfl hl.1 (Nat.le_of_ble_eq_true rfl) dX7_wagon_6 ⟨Nat.zero_le _, Nat.zero_le _⟩ rfl rfl (fun H locs hG hS => ?_)
  replace hG : GH Γ (mS M A T D N V I K B) R O H := g_st (mS_u27 _ _ _ _ _ _ _ _ _ _) hG
  refine lv_if_ne (tgt := 16) hx hb dX7_wagon_9 (by decide) (fun c_1 => ?_) (fun c_1 => ?_)
  · --T
    refine lv_iload_n hx hb dX7_wagon_16 rfl (lv_at hl 2 rfl) ?_
    refine lv_i2l hx hb dX7_wagon_17 rfl ?_
    refine lv_lconst (v := 0) hx hb dX7_wagon_18 (by decide) ?_
    refine lv_ldc2 hx hb hown k_3 dX7_wagon_19 ?_
    refine g_callS (As := [.long d.toInt64, .long 0, .long 2]) (rest := [.ref (gad Γ 483)]) (st1 := [.int (fX7_in_v d.toInt64 0 2), .ref (gad Γ 483)]) hF (mX7_in _ R O d.toInt64 0 2) (va_cwS 3 hts gX7_wagon_X7_in rfl rfl rfl (by decide +kernel) ⟨Nat.le_of_ble_eq_true rfl, Nat.le_of_ble_eq_true rfl⟩) hK hZ hG hS rfl hl.1 (Nat.le_of_ble_eq_true rfl) dX7_wagon_22 ⟨Nat.zero_le _, Nat.zero_le _⟩ rfl rfl (fun H locs hG hS => ?_)
    refine lv_if_ne (tgt := 32) hx hb dX7_wagon_25 (by decide) (fun c_2 => ?_) (fun c_2 => ?_)
    · --T
      refine lv_iconst (v := 0) hx hb dX7_wagon_32 (by decide) ?_
      refine g_callV (As := [.int 0]) (rest := []) (st1 := [.int 0]) hF (mX7_refused_l M R O hL A T D N V I K B 0 0 (by decide)) (cwV 1 hts gX7_wagon_X7_refused rfl rfl rfl (by decide +kernel) ⟨Nat.le_of_ble_eq_true rfl, Nat.le_of_ble_eq_true rfl⟩) hK hZ hG hS (hL.1 483 (by decide) (by decide)) (show gC 483 = (7, 24, 0) from rfl) (by decide) rfl rfl hl.1 (Nat.le_of_ble_eq_true rfl) dX7_wagon_33 ⟨Nat.zero_le _, Nat.zero_le _⟩ rfl rfl (fun H locs hG hS => ?_)
      refine lv_if_eq (tgt := 43) hx hb dX7_wagon_36 (by decide) (fun c_3 => ?_) (fun c_3 => absurd (by decide) c_3)
      have q_1 := (isPl hN.2.2.1.1 (by omega) c_1).2
      have q_2 := (inPl 2 c_2).2
      refine lv_aload_n hx hb dX7_wagon_43 rfl (lv_at hl 0 rfl) ?_
      refine gM_getr hx hb hts in_X7 hown hK hL hG 5 (by decide) rfl hL.2.2.2.1 k_1 (fun _ h => h) dX7_wagon_44 ?_
      refine lv_iload_n hx hb dX7_wagon_47 rfl (lv_at hl 1 rfl) ?_
      refine g_callS (As := [.int a]) (rest := [.ref (gad Γ 486)]) (st1 := [.int (nI (122 + 3 * a.toNatClampNeg)), .ref (gad Γ 486)]) hF (mX7_wagonAt _ R O a.toNatClampNeg ((isPl hN.2.2.1.1 (by omega) c_1).1)) (va_cwS 1 hts gX7_wagon_X7_wagonAt rfl rfl rfl (by decide +kernel) ⟨Nat.le_of_ble_eq_true rfl, Nat.le_of_ble_eq_true rfl⟩) hK hZ hG hS rfl hl.1 (Nat.le_of_ble_eq_true rfl) dX7_wagon_48 ⟨Nat.zero_le _, Nat.zero_le _⟩ rfl rfl (fun H locs hG hS => ?_)
      refine lv_iload_n hx hb dX7_wagon_51 rfl (lv_at hl 2 rfl) ?_
      refine lv_iadd hx hb dX7_wagon_52 ?_
      refine gm_ald hx hb hK hG (hL.1 486 (by decide) (by decide)) (show gC 486 = (9, 27, 0) from rfl) (show gLen 486 = 131 from rfl) (by decide) (j := 122 + 3 * a.toNatClampNeg + d.toNatClampNeg) (add_pl (inPl 2 c_2).1) (by omega) (v := N (122 + 3 * a.toNatClampNeg + d.toNatClampNeg)) rfl dX7_wagon_53 ?_
      exact g_iret hx hb hrt hlocks hS hG (by unfold fX7_wagon_v; rw [if_neg c_1, if_neg c_2]) (mS_c (by unfold fX7_wagon_A; rw [if_neg c_1, if_neg c_2]) rfl rfl rfl rfl rfl rfl rfl) dX7_wagon_54
    · --F
      refine lv_iconst (v := 2) hx hb dX7_wagon_28 (by decide) ?_
      refine lv_goto (tgt := 33) hx hb dX7_wagon_29 (by decide) ?_
      refine g_callV (As := [.int 2]) (rest := []) (st1 := [.int 1]) hF (mX7_refused_l M R O hL A T D N V I K B 2 1 (by decide)) (cwV 1 hts gX7_wagon_X7_refused rfl rfl rfl (by decide +kernel) ⟨Nat.le_of_ble_eq_true rfl, Nat.le_of_ble_eq_true rfl⟩) hK hZ hG hS (hL.1 483 (by decide) (by decide)) (show gC 483 = (7, 24, 0) from rfl) (by decide) rfl rfl hl.1 (Nat.le_of_ble_eq_true rfl) dX7_wagon_33 ⟨Nat.zero_le _, Nat.zero_le _⟩ rfl rfl (fun H locs hG hS => ?_)
      refine lv_if_eq (tgt := 43) hx hb dX7_wagon_36 (by decide) (fun c_4 => absurd c_4 (by decide)) (fun c_4 => ?_)
      refine lv_iconst (v := 0) hx hb dX7_wagon_39 (by decide) ?_
      refine lv_goto (tgt := 54) hx hb dX7_wagon_40 (by decide) ?_
      exact g_iret hx hb hrt hlocks hS hG (by unfold fX7_wagon_v; rw [if_neg c_1, if_pos c_2]) (mS_c (by unfold fX7_wagon_A; rw [if_neg c_1, if_pos c_2]) rfl rfl rfl rfl rfl rfl rfl) dX7_wagon_54
  · --F
    refine lv_iconst (v := 1) hx hb dX7_wagon_12 (by decide) ?_
    refine lv_goto (tgt := 33) hx hb dX7_wagon_13 (by decide) ?_
    refine g_callV (As := [.int 1]) (rest := []) (st1 := [.int 1]) hF (mX7_refused_l M R O hL A T D N V I K B 1 1 (by decide)) (cwV 1 hts gX7_wagon_X7_refused rfl rfl rfl (by decide +kernel) ⟨Nat.le_of_ble_eq_true rfl, Nat.le_of_ble_eq_true rfl⟩) hK hZ hG hS (hL.1 483 (by decide) (by decide)) (show gC 483 = (7, 24, 0) from rfl) (by decide) rfl rfl hl.1 (Nat.le_of_ble_eq_true rfl) dX7_wagon_33 ⟨Nat.zero_le _, Nat.zero_le _⟩ rfl rfl (fun H locs hG hS => ?_)
    refine lv_if_eq (tgt := 43) hx hb dX7_wagon_36 (by decide) (fun c_5 => absurd c_5 (by decide)) (fun c_5 => ?_)
    refine lv_iconst (v := 0) hx hb dX7_wagon_39 (by decide) ?_
    refine lv_goto (tgt := 54) hx hb dX7_wagon_40 (by decide) ?_
    exact g_iret hx hb hrt hlocks hS hG (by unfold fX7_wagon_v; rw [if_pos c_1]) (mS_c (by unfold fX7_wagon_A; rw [if_pos c_1]) rfl rfl rfl rfl rfl rfl rfl) dX7_wagon_54

def fX7_about_T2 (N : Nat → Int32) (P : Nat → Int32) (k : Nat) (a2 : Int32) : Int32 := a2 + (fX7_dustOf_v N (nI k))
def fX7_about_A2 (N : Nat → Int32) (P : Nat → Int32) : Nat → Int32
  | 0 => 0
  | k + 1 => fX7_about_T2 N P k (fX7_about_A2 N P k)
def fX7_about_v (A T D N V I K B : Nat → Int32) (a : Int32) : Int32 := if (fX7_in_v a.toInt64 0 12) = 0 then 0 else if 12 ≤ a then fX7_about_A2 N (upd A 0 0) ((N 0).toNatClampNeg) else N a.toNatClampNeg
def fX7_about_A (A T D N V I K B : Nat → Int32) (a : Int32) : Nat → Int32 := if (fX7_in_v a.toInt64 0 12) = 0 then upd A 0 1 else if 12 ≤ a then upd A 0 0 else upd A 0 0
set_option maxHeartbeats 4000000 in
set_option maxRecDepth 100000 in
theorem mX7_about {l : Launch} {Γ : gX} (M : Nat → Nat → Int32) (R : Nat → Nat → Option Nat) (O : Int64) (hL : LM Γ R) (A T D N V I K B : Nat → Int32) (a : Int32) (hN : WS N) : gMet l Γ yX7_about wsX7_about 3 67 [.ref (gad Γ 483), .int a] (mS M A T D N V I K B) R O (some (.int (fX7_about_v A T D N V I K B a))) (mS M (fX7_about_A A T D N V I K B a) T D N V I K B) R O := by
  refine g_start (cc := cX7_about) (maxL := 4) (ret := (some .int)) (by decide) rfl (Nat.le_of_ble_eq_true rfl) ?_
  intro p e s m below meth c ls hx hb hml hrt hts hown hlocks hname hK hZ hG hS hl
  have hl : lv_has ls 4 [(0, .ref (gad Γ 483)), (1, .int a)] := hl
  have hown : s.vm.findClass RX7 = some m.cls := hown
  have hF : CallFix p m c cX7_about 4 s _ wsX7_about RX7 := ⟨hx, hb, hml, hown, hts⟩
  have k_1 : (Cond.constantLong RX7 146 (12)).before _ s = true := hts _ (by decide +kernel)
  have k_2 : (Cond.fieldLink RX7 16 "RoadDustModel" "now" "[I").before _ s = true := hts _ (by decide +kernel)
  have in_X7 : ∀ w ∈ wsX70, w ∈ wsX7_about := by decide +kernel
  have n0 := hN.1.2
  have n1 := hN.2.1.2
  have n2 := hN.2.2.1.2
  refine lv_aload_n hx hb dX7_about_0 rfl (lv_at hl 0 rfl) ?_
  refine lv_iload_n hx hb dX7_about_1 rfl (lv_at hl 1 rfl) ?_
  refine lv_i2l hx hb dX7_about_2 rfl ?_
  refine lv_lconst (v := 0) hx hb dX7_about_3 (by decide) ?_
  refine lv_ldc2 hx hb hown k_1 dX7_about_4 ?_
  refine g_callS (As := [.long a.toInt64, .long 0, .long 12]) (rest := [.ref (gad Γ 483)]) (st1 := [.int (fX7_in_v a.toInt64 0 12), .ref (gad Γ 483)]) hF (mX7_in _ R O a.toInt64 0 12) (va_cwS 3 hts gX7_about_X7_in rfl rfl rfl (by decide +kernel) ⟨Nat.le_of_ble_eq_true rfl, Nat.le_of_ble_eq_true rfl⟩) hK hZ hG hS rfl hl.1 (Nat.le_of_ble_eq_true rfl) dX7_about_7 ⟨Nat.zero_le _, Nat.zero_le _⟩ rfl rfl (fun H locs hG hS => ?_)
  refine lv_if_eq (tgt := 17) hx hb dX7_about_10 (by decide) (fun c_1 => ?_) (fun c_1 => ?_)
  · --T
    refine lv_iconst (v := 1) hx hb dX7_about_17 (by decide) ?_
    refine g_callV (As := [.int 1]) (rest := []) (st1 := [.int 1]) hF (mX7_refused_l M R O hL A T D N V I K B 1 1 (by decide)) (cwV 1 hts gX7_about_X7_refused rfl rfl rfl (by decide +kernel) ⟨Nat.le_of_ble_eq_true rfl, Nat.le_of_ble_eq_true rfl⟩) hK hZ hG hS (hL.1 483 (by decide) (by decide)) (show gC 483 = (7, 24, 0) from rfl) (by decide) rfl rfl hl.1 (Nat.le_of_ble_eq_true rfl) dX7_about_18 ⟨Nat.zero_le _, Nat.zero_le _⟩ rfl rfl (fun H locs hG hS => ?_)
    refine lv_if_eq (tgt := 26) hx hb dX7_about_21 (by decide) (fun c_2 => absurd c_2 (by decide)) (fun c_2 => ?_)
    refine lv_iconst (v := 0) hx hb dX7_about_24 (by decide) ?_
    exact g_iret hx hb hrt hlocks hS hG (by unfold fX7_about_v; rw [if_pos c_1]) (mS_c (by unfold fX7_about_A; rw [if_pos c_1]) rfl rfl rfl rfl rfl rfl rfl) dX7_about_25
  · --F
    refine lv_iconst (v := 0) hx hb dX7_about_13 (by decide) ?_
    refine lv_goto (tgt := 18) hx hb dX7_about_14 (by decide) ?_
    refine g_callV (As := [.int 0]) (rest := []) (st1 := [.int 0]) hF (mX7_refused_l M R O hL A T D N V I K B 0 0 (by decide)) (cwV 1 hts gX7_about_X7_refused rfl rfl rfl (by decide +kernel) ⟨Nat.le_of_ble_eq_true rfl, Nat.le_of_ble_eq_true rfl⟩) hK hZ hG hS (hL.1 483 (by decide) (by decide)) (show gC 483 = (7, 24, 0) from rfl) (by decide) rfl rfl hl.1 (Nat.le_of_ble_eq_true rfl) dX7_about_18 ⟨Nat.zero_le _, Nat.zero_le _⟩ rfl rfl (fun H locs hG hS => ?_)
    refine lv_if_eq (tgt := 26) hx hb dX7_about_21 (by decide) (fun c_3 => ?_) (fun c_3 => absurd (by decide) c_3)
    have q_1 := (inPl 12 c_1).2
    refine lv_iload_n hx hb dX7_about_26 rfl (lv_at hl 1 rfl) ?_
    refine lv_bipush (v := 12) hx hb dX7_about_27 (by decide) ?_
    refine lv_icmp_ge (tgt := 39) hx hb dX7_about_29 (by decide) (fun c_4 => ?_) (fun c_4 => ?_)
    · --T
      refine lv_iconst (v := 0) hx hb dX7_about_39 (by decide) ?_
      refine lv_istore_n (lv' := [(2, .int 0), (0, .ref (gad Γ 483)), (1, .int a)]) hx hb dX7_about_40 rfl hl (by decide) rfl (fun ls hl => ?_)
      refine lv_iconst (v := 0) hx hb dX7_about_41 (by decide) ?_
      refine lv_istore_n (lv' := [(3, .int 0), (2, .int 0), (0, .ref (gad Γ 483)), (1, .int a)]) hx hb dX7_about_42 rfl hl (by decide) rfl (fun ls hl => ?_)
      refine g_loop (N := (N 0).toNatClampNeg) (fun k H locs ls => GH Γ (mS M (upd A 0 0) T D N V I K B) R O H ∧ va_S (gA Γ) s.heap H locs ∧ lv_has ls 4 [(0, .ref (gad Γ 483)), (1, .int a), (2, .int (fX7_about_A2 N (upd A 0 0) k)), (3, .int (nI k))]) ?_ ?_ 0 (Nat.zero_le _) _ _ _ ⟨hG, hS, lv_sub hl [2, 3, 1, 0] rfl⟩
      · rintro H locs ls ⟨hG, hS, hl⟩
        refine lv_iload_n hx hb dX7_about_43 rfl (lv_at hl 3 rfl) ?_
        refine lv_aload_n hx hb dX7_about_44 rfl (lv_at hl 0 rfl) ?_
        refine gM_getr hx hb hts in_X7 hown hK hL hG 5 (by decide) rfl hL.2.2.2.1 k_2 (fun _ h => h) dX7_about_45 ?_
        refine lv_iconst (v := 0) hx hb dX7_about_48 (by decide) ?_
        refine gm_ald hx hb hK hG (hL.1 486 (by decide) (by decide)) (show gC 486 = (9, 27, 0) from rfl) (show gLen 486 = 131 from rfl) (by decide) (j := 0) rfl (by omega) (v := N 0) rfl dX7_about_49 ?_
        refine lv_icmp_ge (tgt := 70) hx hb dX7_about_50 (by decide) (fun c_5 => ?_) (fun c_5 => absurd (cl_le _) c_5)
        refine lv_iload_n hx hb dX7_about_70 rfl (lv_at hl 2 rfl) ?_
        exact g_iret hx hb hrt hlocks hS hG (by unfold fX7_about_v; rw [if_neg c_1, if_pos c_4]) (mS_c (by unfold fX7_about_A; rw [if_neg c_1, if_pos c_4]) rfl rfl rfl rfl rfl rfl rfl) dX7_about_71
      · rintro k hk_k ih_k H locs ls ⟨hG, hS, hl⟩
        refine lv_iload_n hx hb dX7_about_43 rfl (lv_at hl 3 rfl) ?_
        refine lv_aload_n hx hb dX7_about_44 rfl (lv_at hl 0 rfl) ?_
        refine gM_getr hx hb hts in_X7 hown hK hL hG 5 (by decide) rfl hL.2.2.2.1 k_2 (fun _ h => h) dX7_about_45 ?_
        refine lv_iconst (v := 0) hx hb dX7_about_48 (by decide) ?_
        refine gm_ald hx hb hK hG (hL.1 486 (by decide) (by decide)) (show gC 486 = (9, 27, 0) from rfl) (show gLen 486 = 131 from rfl) (by decide) (j := 0) rfl (by omega) (v := N 0) rfl dX7_about_49 ?_
        refine lv_icmp_ge (tgt := 70) hx hb dX7_about_50 (by decide) (fun c_6 => absurd c_6 (cl_ge hk_k)) (fun c_6 => ?_)
        refine lv_iload_n hx hb dX7_about_53 rfl (lv_at hl 2 rfl) ?_
        refine lv_aload_n hx hb dX7_about_54 rfl (lv_at hl 0 rfl) ?_
        refine gM_getr hx hb hts in_X7 hown hK hL hG 5 (by decide) rfl hL.2.2.2.1 k_2 (fun _ h => h) dX7_about_55 ?_
        refine lv_iload_n hx hb dX7_about_58 rfl (lv_at hl 3 rfl) ?_
        refine g_callS (As := [.ref (gad Γ 486), .int (nI k)]) (rest := [.int (fX7_about_A2 N (upd A 0 0) k)]) (st1 := [.int (fX7_dustOf_v N (nI k)), .int (fX7_about_A2 N (upd A 0 0) k)]) hF (mX7_dustOf (mS M (upd A 0 0) T D N V I K B) R O (hL.1 486 (by decide) (by decide)) (show gC 486 = (9, 27, 0) from rfl) (show gLen 486 = 131 from rfl) N (nI k) hN) (va_cwS 2 hts gX7_about_X7_dustOf rfl rfl rfl (by decide +kernel) ⟨Nat.le_of_ble_eq_true rfl, Nat.le_of_ble_eq_true rfl⟩) hK hZ (g_st (show _ = va_up (mS M (upd A 0 0) T D N V I K B) 27 N from (mS_u27 _ _ _ _ _ _ _ _ _ _).symm) hG) hS rfl hl.1 (Nat.le_of_ble_eq_true rfl) dX7_about_59 ⟨Nat.zero_le _, Nat.zero_le _⟩ rfl rfl (fun H locs hG hS => ?_)
        replace hG : GH Γ (mS M (upd A 0 0) T D N V I K B) R O H := g_st (mS_u27 _ _ _ _ _ _ _ _ _ _) hG
        refine lv_iadd hx hb dX7_about_62 ?_
        refine lv_istore_n (lv' := [(2, .int ((fX7_about_A2 N (upd A 0 0) k) + (fX7_dustOf_v N (nI k)))), (0, .ref (gad Γ 483)), (1, .int a), (3, .int (nI k))]) hx hb dX7_about_63 rfl hl (by decide) rfl (fun ls hl => ?_)
        refine lv_iinc (v := nI (k + 1)) (lv' := [(3, .int (nI (k + 1))), (2, .int ((fX7_about_A2 N (upd A 0 0) k) + (fX7_dustOf_v N (nI k)))), (0, .ref (gad Γ 483)), (1, .int a)]) hx hb dX7_about_64 hl (k := 3) rfl (nI_1 _) (by decide) rfl (fun ls hl => ?_)
        refine lv_goto (tgt := 43) hx hb dX7_about_67 (by decide) ?_
        exact ih_k _ _ _ ⟨hG, hS, lv_sub hl [2, 3, 1, 0] rfl⟩
    · --F
      refine lv_aload_n hx hb dX7_about_32 rfl (lv_at hl 0 rfl) ?_
      refine gM_getr hx hb hts in_X7 hown hK hL hG 5 (by decide) rfl hL.2.2.2.1 k_2 (fun _ h => h) dX7_about_33 ?_
      refine lv_iload_n hx hb dX7_about_36 rfl (lv_at hl 1 rfl) ?_
      refine gm_ald hx hb hK hG (hL.1 486 (by decide) (by decide)) (show gC 486 = (9, 27, 0) from rfl) (show gLen 486 = 131 from rfl) (by decide) (j := a.toNatClampNeg) (inPl 12 c_1).1 (by omega) (v := N a.toNatClampNeg) rfl dX7_about_37 ?_
      exact g_iret hx hb hrt hlocks hS hG (by unfold fX7_about_v; rw [if_neg c_1, if_neg c_4]) (mS_c (by unfold fX7_about_A; rw [if_neg c_1, if_neg c_4]) rfl rfl rfl rfl rfl rfl rfl) dX7_about_38

