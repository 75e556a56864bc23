/-! THE CLASS: append, reads. Laid by gen/p20.py. -/
set_option maxHeartbeats 4000000 in
set_option maxRecDepth 100000 in
theorem mX6_append {l : Launch} {Γ : gX} (M : Nat → Nat → Int32) (R : Nat → Nat → Option Nat) (O : Int64) (hC : LC Γ R) (X G J S C P Q : Nat → Int32) (a : Int32) (hr : xOf (fX4_put_v X G a) = none) : gMet l Γ yX6_append wsX6_append 2 43 [.ref (gad Γ 475), .int a] (cS M X G J S C P Q) R O (some (.int (fX4_put_v X G a))) (cS M (fX4_put_X X G a) (fX4_put_G X G a) J S C P Q) R O := by
  refine g_start (cc := cX6_append) (maxL := 2) (ret := (some .int)) (by decide) rfl (Nat.le_of_ble_eq_true rfl) ?_
  intro p e s m below meth c ls hx hb hml hrt hts hown hlocks hname hK hZ hG hS hl
  have hl : lv_has ls 2 [(0, .ref (gad Γ 475)), (1, .int a)] := hl
  have hown : s.vm.findClass RX6 = some m.cls := hown
  have hF : CallFix p m c cX6_append 2 s _ wsX6_append RX6 := ⟨hx, hb, hml, hown, hts⟩
  have k_1 : (Cond.fieldLink RX6 10 "RoadDust" "text" "LRoadDust$Text;").before _ s = true := hts _ (by decide +kernel)
  have in_X6 : ∀ w ∈ wsX60, w ∈ wsX6_append := by decide +kernel
  have hV0 := hC.2.1 0 (by decide)
  have hV1 := hC.2.1 1 (by decide)
  refine lv_aload_n hx hb dX6_append_0 rfl (lv_at hl 0 rfl) ?_
  refine go_getr (C := RX6) (T := TX6) (ci := 6) hx hb hts in_X6 hown hK hG (hC.1 475 (by decide) (by decide)) (show gC 475 = (6, 32, 0) from rfl) (by decide) rfl 0 (by decide) rfl hC.2.2.1 k_1 (fun _ h => h) dX6_append_1 ?_
  refine lv_iload_n hx hb dX6_append_4 rfl (lv_at hl 1 rfl) ?_
  refine g_callV (As := [.int a]) (rest := []) (st1 := [.int (fX4_put_v X G a)]) hF (mX4_put M R O hC X G J S C P Q a ) (cwV 1 hts gX6_append_X4_put rfl rfl rfl (by decide +kernel) ⟨Nat.le_of_ble_eq_true rfl, Nat.le_of_ble_eq_true rfl⟩) hK hZ hG hS (hC.1 476 (by decide) (by decide)) (show gC 476 = (4, 19, 0) from rfl) (by decide) rfl rfl hl.1 (Nat.le_of_ble_eq_true rfl) dX6_append_5 ⟨Nat.zero_le _, Nat.zero_le _⟩ rfl rfl (fun H locs hG hS => ?_)
  refine g_callS (As := [.int (fX4_put_v X G a)]) (rest := []) (st1 := [.int (fX4_put_v X G a)]) hF (mX6_answered (cS M (fX4_put_X X G a) (fX4_put_G X G a) J S C P Q) R O (fX4_put_v X G a) hr) (va_cwS 1 hts gX6_append_X6_answered rfl rfl rfl (by decide +kernel) ⟨Nat.le_of_ble_eq_true rfl, Nat.le_of_ble_eq_true rfl⟩) hK hZ hG hS rfl hl.1 (Nat.le_of_ble_eq_true rfl) dX6_append_8 ⟨Nat.zero_le _, Nat.zero_le _⟩ rfl rfl (fun H locs hG hS => ?_)
  exact g_iret hx hb hrt hlocks hS hG rfl rfl dX6_append_11

set_option maxHeartbeats 4000000 in
set_option maxRecDepth 100000 in
theorem tX6_append {l : Launch} {Γ : gX} (hst : l.stackTraces = false) (M : Nat → Nat → Int32) (R : Nat → Nat → Option Nat) (O : Int64) (hC : LC Γ R) (X G J S C P Q : Nat → Int32) (a : Int32) {En : String} (hr : xOf (fX4_put_v X G a) = some En) : gThr l Γ yX6_append wsX6_append 7 102 [.ref (gad Γ 475), .int a] (cS M X G J S C P Q) R O En (cS M (fX4_put_X X G a) (fX4_put_G X G a) J S C P Q) R O := by
  refine g_startT (cc := cX6_append) (maxL := 2) (ret := (some .int)) (by decide) rfl (Nat.le_of_ble_eq_true rfl) ?_
  intro p e s m below meth c ls hx hb hml hrt hts hown hlocks hname hK hZ hG hS hl hX hnx
  have hl : lv_has ls 2 [(0, .ref (gad Γ 475)), (1, .int a)] := hl
  have hown : s.vm.findClass RX6 = some m.cls := hown
  have hF : CallFix p m c cX6_append 2 s _ wsX6_append RX6 := ⟨hx, hb, hml, hown, hts⟩
  have k_1 : (Cond.fieldLink RX6 10 "RoadDust" "text" "LRoadDust$Text;").before _ s = true := hts _ (by decide +kernel)
  have in_X6 : ∀ w ∈ wsX60, w ∈ wsX6_append := by decide +kernel
  have hV0 := hC.2.1 0 (by decide)
  have hV1 := hC.2.1 1 (by decide)
  refine lv_aload_n hx hb dX6_append_0 rfl (lv_at hl 0 rfl) ?_
  refine go_getr (C := RX6) (T := TX6) (ci := 6) hx hb hts in_X6 hown hK hG (hC.1 475 (by decide) (by decide)) (show gC 475 = (6, 32, 0) from rfl) (by decide) rfl 0 (by decide) rfl hC.2.2.1 k_1 (fun _ h => h) dX6_append_1 ?_
  refine lv_iload_n hx hb dX6_append_4 rfl (lv_at hl 1 rfl) ?_
  refine g_callV (As := [.int a]) (rest := []) (st1 := [.int (fX4_put_v X G a)]) hF (mX4_put M R O hC X G J S C P Q a ) (cwV 1 hts gX6_append_X4_put rfl rfl rfl (by decide +kernel) ⟨Nat.le_of_ble_eq_true rfl, Nat.le_of_ble_eq_true rfl⟩) hK hZ hG hS (hC.1 476 (by decide) (by decide)) (show gC 476 = (4, 19, 0) from rfl) (by decide) rfl rfl hl.1 (Nat.le_of_ble_eq_true rfl) dX6_append_5 ⟨Nat.zero_le _, Nat.zero_le _⟩ rfl rfl (fun H locs hG hS => ?_)
  exact g_xS (As := [.int (fX4_put_v X G a)]) (rest := []) hF (tX6_answered hst _ _ _ (fX4_put_v X G a) hr) (va_cwS 1 hts gX6_append_X6_answered rfl rfl rfl (by decide +kernel) ⟨Nat.le_of_ble_eq_true rfl, Nat.le_of_ble_eq_true rfl⟩) hK hZ hX hG hS rfl hl.1 (Nat.le_of_ble_eq_true rfl) dX6_append_8 ⟨Nat.le_of_ble_eq_true rfl, Nat.le_of_ble_eq_true rfl⟩ rfl hnx hlocks

set_option maxHeartbeats 4000000 in
set_option maxRecDepth 100000 in
theorem mX6_about {l : Launch} {Γ : gX} (M : Nat → Nat → Int32) (R : Nat → Nat → Option Nat) (O : Int64) (hC : LC Γ R) (X G J S C P Q : Nat → Int32) (a : Int32) (hr : xOf (fX2_number_v P a) = none) : gMet l Γ yX6_about wsX6_about 3 64 [.ref (gad Γ 475), .int a] (cS M X G J S C P Q) R O (some (.int (fX2_number_v P a))) (cS M X G J S C P Q) R O := by
  refine g_start (cc := cX6_about) (maxL := 2) (ret := (some .int)) (by decide) rfl (Nat.le_of_ble_eq_true rfl) ?_
  intro p e s m below meth c ls hx hb hml hrt hts hown hlocks hname hK hZ hG hS hl
  have hl : lv_has ls 2 [(0, .ref (gad Γ 475)), (1, .int a)] := hl
  have hown : s.vm.findClass RX6 = some m.cls := hown
  have hF : CallFix p m c cX6_about 2 s _ wsX6_about RX6 := ⟨hx, hb, hml, hown, hts⟩
  have k_1 : (Cond.fieldLink RX6 19 "RoadDust" "now" "LRoadDust$Road;").before _ s = true := hts _ (by decide +kernel)
  have in_X6 : ∀ w ∈ wsX60, w ∈ wsX6_about := by decide +kernel
  have hV0 := hC.2.1 0 (by decide)
  have hV1 := hC.2.1 1 (by decide)
  refine lv_aload_n hx hb dX6_about_0 rfl (lv_at hl 0 rfl) ?_
  refine go_getr (C := RX6) (T := TX6) (ci := 6) hx hb hts in_X6 hown hK hG (hC.1 475 (by decide) (by decide)) (show gC 475 = (6, 32, 0) from rfl) (by decide) rfl 1 (by decide) rfl hC.2.2.2.1 k_1 (fun _ h => h) dX6_about_1 ?_
  refine lv_iload_n hx hb dX6_about_4 rfl (lv_at hl 1 rfl) ?_
  replace hG := g_st (show _ = va_up (cS M X G J S C P Q) 0 P from (cS_u0 _ _ _ _ _ _ _ _ _).symm) hG
  refine g_callV (As := [.int a]) (rest := []) (st1 := [.int (fX2_number_v P a)]) hF (mX2_number (cS M X G J S C P Q) R O hV0 P a) (cwV 1 hts gX6_about_X2_number rfl rfl rfl (by decide +kernel) ⟨Nat.le_of_ble_eq_true rfl, Nat.le_of_ble_eq_true rfl⟩) hK hZ hG hS hV0.c0 (gC_Rd hV0.1) (by decide) rfl rfl hl.1 (Nat.le_of_ble_eq_true rfl) dX6_about_5 ⟨Nat.zero_le _, Nat.zero_le _⟩ rfl rfl (fun H locs hG hS => ?_)
  replace hG : GH Γ (cS M X G J S C P Q) R O _ := g_st (cS_u0 _ _ _ _ _ _ _ _ _) hG
  refine g_callS (As := [.int (fX2_number_v P a)]) (rest := []) (st1 := [.int (fX2_number_v P a)]) hF (mX6_answered (cS M X G J S C P Q) R O (fX2_number_v P a) hr) (va_cwS 1 hts gX6_about_X6_answered rfl rfl rfl (by decide +kernel) ⟨Nat.le_of_ble_eq_true rfl, Nat.le_of_ble_eq_true rfl⟩) hK hZ hG hS rfl hl.1 (Nat.le_of_ble_eq_true rfl) dX6_about_8 ⟨Nat.zero_le _, Nat.zero_le _⟩ rfl rfl (fun H locs hG hS => ?_)
  exact g_iret hx hb hrt hlocks hS hG rfl rfl dX6_about_11

set_option maxHeartbeats 4000000 in
set_option maxRecDepth 100000 in
theorem tX6_about {l : Launch} {Γ : gX} (hst : l.stackTraces = false) (M : Nat → Nat → Int32) (R : Nat → Nat → Option Nat) (O : Int64) (hC : LC Γ R) (X G J S C P Q : Nat → Int32) (a : Int32) {En : String} (hr : xOf (fX2_number_v P a) = some En) : gThr l Γ yX6_about wsX6_about 7 102 [.ref (gad Γ 475), .int a] (cS M X G J S C P Q) R O En (cS M X G J S C P Q) R O := by
  refine g_startT (cc := cX6_about) (maxL := 2) (ret := (some .int)) (by decide) rfl (Nat.le_of_ble_eq_true rfl) ?_
  intro p e s m below meth c ls hx hb hml hrt hts hown hlocks hname hK hZ hG hS hl hX hnx
  have hl : lv_has ls 2 [(0, .ref (gad Γ 475)), (1, .int a)] := hl
  have hown : s.vm.findClass RX6 = some m.cls := hown
  have hF : CallFix p m c cX6_about 2 s _ wsX6_about RX6 := ⟨hx, hb, hml, hown, hts⟩
  have k_1 : (Cond.fieldLink RX6 19 "RoadDust" "now" "LRoadDust$Road;").before _ s = true := hts _ (by decide +kernel)
  have in_X6 : ∀ w ∈ wsX60, w ∈ wsX6_about := by decide +kernel
  have hV0 := hC.2.1 0 (by decide)
  have hV1 := hC.2.1 1 (by decide)
  refine lv_aload_n hx hb dX6_about_0 rfl (lv_at hl 0 rfl) ?_
  refine go_getr (C := RX6) (T := TX6) (ci := 6) hx hb hts in_X6 hown hK hG (hC.1 475 (by decide) (by decide)) (show gC 475 = (6, 32, 0) from rfl) (by decide) rfl 1 (by decide) rfl hC.2.2.2.1 k_1 (fun _ h => h) dX6_about_1 ?_
  refine lv_iload_n hx hb dX6_about_4 rfl (lv_at hl 1 rfl) ?_
  replace hG := g_st (show _ = va_up (cS M X G J S C P Q) 0 P from (cS_u0 _ _ _ _ _ _ _ _ _).symm) hG
  refine g_callV (As := [.int a]) (rest := []) (st1 := [.int (fX2_number_v P a)]) hF (mX2_number (cS M X G J S C P Q) R O hV0 P a) (cwV 1 hts gX6_about_X2_number rfl rfl rfl (by decide +kernel) ⟨Nat.le_of_ble_eq_true rfl, Nat.le_of_ble_eq_true rfl⟩) hK hZ hG hS hV0.c0 (gC_Rd hV0.1) (by decide) rfl rfl hl.1 (Nat.le_of_ble_eq_true rfl) dX6_about_5 ⟨Nat.zero_le _, Nat.zero_le _⟩ rfl rfl (fun H locs hG hS => ?_)
  replace hG : GH Γ (cS M X G J S C P Q) R O _ := g_st (cS_u0 _ _ _ _ _ _ _ _ _) hG
  exact g_xS (As := [.int (fX2_number_v P a)]) (rest := []) hF (tX6_answered hst _ _ _ (fX2_number_v P a) hr) (va_cwS 1 hts gX6_about_X6_answered rfl rfl rfl (by decide +kernel) ⟨Nat.le_of_ble_eq_true rfl, Nat.le_of_ble_eq_true rfl⟩) hK hZ hX hG hS rfl hl.1 (Nat.le_of_ble_eq_true rfl) dX6_about_8 ⟨Nat.le_of_ble_eq_true rfl, Nat.le_of_ble_eq_true rfl⟩ rfl hnx hlocks

def fX6_segment_v (X G J S C P Q : Nat → Int32) (a d : Int32) : Int32 := if okI a (P 0) 10 then fX3_number_v P a.toNatClampNeg d else (-1)
set_option maxHeartbeats 4000000 in
set_option maxRecDepth 100000 in
theorem mX6_segment {l : Launch} {Γ : gX} (M : Nat → Nat → Int32) (R : Nat → Nat → Option Nat) (O : Int64) (hC : LC Γ R) (X G J S C P Q : Nat → Int32) (a d : Int32) (hr : xOf (fX6_segment_v X G J S C P Q a d) = none) : gMet l Γ yX6_segment wsX6_segment 1 21 [.ref (gad Γ 475), .int a, .int d] (cS M X G J S C P Q) R O (some (.int (fX6_segment_v X G J S C P Q a d))) (cS M X G J S C P Q) R O := by
  refine g_start (cc := cX6_segment) (maxL := 4) (ret := (some .int)) (by decide) rfl (Nat.le_of_ble_eq_true rfl) ?_
  intro p e s m below meth c ls hx hb hml hrt hts hown hlocks hname hK hZ hG hS hl
  have hl : lv_has ls 4 [(0, .ref (gad Γ 475)), (1, .int a), (2, .int d)] := hl
  have hown : s.vm.findClass RX6 = some m.cls := hown
  have hF : CallFix p m c cX6_segment 4 s _ wsX6_segment RX6 := ⟨hx, hb, hml, hown, hts⟩
  have k_1 : (Cond.fieldLink RX6 19 "RoadDust" "now" "LRoadDust$Road;").before _ s = true := hts _ (by decide +kernel)
  have in_X6 : ∀ w ∈ wsX60, w ∈ wsX6_segment := by decide +kernel
  have hV0 := hC.2.1 0 (by decide)
  have hV1 := hC.2.1 1 (by decide)
  refine lv_aload_n hx hb dX6_segment_0 rfl (lv_at hl 0 rfl) ?_
  refine go_getr (C := RX6) (T := TX6) (ci := 6) hx hb hts in_X6 hown hK hG (hC.1 475 (by decide) (by decide)) (show gC 475 = (6, 32, 0) from rfl) (by decide) rfl 1 (by decide) rfl hC.2.2.2.1 k_1 (fun _ h => h) dX6_segment_1 ?_
  refine lv_iload_n hx hb dX6_segment_4 rfl (lv_at hl 1 rfl) ?_
  by_cases c_1 : okI a (P 0) 10
  · --ok
    replace hG := g_st (show _ = va_up (cS M X G J S C P Q) 0 P from (cS_u0 _ _ _ _ _ _ _ _ _).symm) hG
    refine g_callV (As := [.int a]) (rest := []) (st1 := [.ref (gad Γ (25 * 0 + 4 + a.toNatClampNeg))]) hF (mX2_segmentAt_y (cS M X G J S C P Q) R O hV0 P c_1 (j := a.toNatClampNeg) rfl) (cwV 1 hts gX6_segment_X2_segmentAt rfl rfl rfl (by decide +kernel) ⟨Nat.le_of_ble_eq_true rfl, Nat.le_of_ble_eq_true rfl⟩) hK hZ hG hS hV0.c0 (gC_Rd hV0.1) (by decide) rfl rfl hl.1 (Nat.le_of_ble_eq_true rfl) dX6_segment_5 ⟨Nat.zero_le _, Nat.zero_le _⟩ rfl rfl (fun H locs hG hS => ?_)
    replace hG : GH Γ (cS M X G J S C P Q) R O _ := g_st (cS_u0 _ _ _ _ _ _ _ _ _) hG
    refine lv_astore_n (lv' := [(3, .ref (gad Γ (25 * 0 + 4 + a.toNatClampNeg))), (0, .ref (gad Γ 475)), (1, .int a), (2, .int d)]) hx hb dX6_segment_8 rfl hl (by decide) rfl (fun ls hl => ?_)
    refine lv_aload_n hx hb dX6_segment_9 rfl (lv_at hl 0 rfl) ?_
    refine lv_ifnonnull (tgt := 17) hx hb dX6_segment_10 (by decide) ?_
    refine lv_aload_n hx hb dX6_segment_17 rfl (lv_at hl 0 rfl) ?_
    refine lv_iload_n hx hb dX6_segment_18 rfl (lv_at hl 3 rfl) ?_
    replace hG := g_st (show _ = va_up (cS M X G J S C P Q) 0 P from (cS_u0 _ _ _ _ _ _ _ _ _).symm) hG
    refine g_callV (As := [.int d]) (rest := []) (st1 := [.int (fX3_number_v P a.toNatClampNeg d)]) hF (mX3_number (cS M X G J S C P Q) R O hV0.1 (okI_lt (k := 10) rfl (by decide) c_1) (hV0.seg (i := a.toNatClampNeg) (okI_lt (k := 10) rfl (by decide) c_1)) P d) (cwV 1 hts gX6_segment_X3_number rfl rfl rfl (by decide +kernel) ⟨Nat.le_of_ble_eq_true rfl, Nat.le_of_ble_eq_true rfl⟩) hK hZ hG hS (hV0.seg (i := a.toNatClampNeg) (okI_lt (k := 10) rfl (by decide) c_1)) (gC_S hV0.1 (okI_lt (k := 10) rfl (by decide) c_1)) (by decide) rfl rfl hl.1 (Nat.le_of_ble_eq_true rfl) dX6_segment_19 ⟨Nat.zero_le _, Nat.zero_le _⟩ rfl rfl (fun H locs hG hS => ?_)
    replace hG : GH Γ (cS M X G J S C P Q) R O _ := g_st (cS_u0 _ _ _ _ _ _ _ _ _) hG
    refine g_callS (As := [.int (fX3_number_v P a.toNatClampNeg d)]) (rest := []) (st1 := [.int (fX3_number_v P a.toNatClampNeg d)]) hF (mX6_answered (cS M X G J S C P Q) R O (fX3_number_v P a.toNatClampNeg d) (by have hr := hr; unfold fX6_segment_v at hr; rw [if_pos c_1] at hr; exact hr)) (va_cwS 1 hts gX6_segment_X6_answered rfl rfl rfl (by decide +kernel) ⟨Nat.le_of_ble_eq_true rfl, Nat.le_of_ble_eq_true rfl⟩) hK hZ hG hS rfl hl.1 (Nat.le_of_ble_eq_true rfl) dX6_segment_22 ⟨Nat.zero_le _, Nat.zero_le _⟩ rfl rfl (fun H locs hG hS => ?_)
    exact g_iret hx hb hrt hlocks hS hG (by unfold fX6_segment_v; rw [if_pos c_1]) rfl dX6_segment_25
  · --none
    replace hG := g_st (show _ = va_up (cS M X G J S C P Q) 0 P from (cS_u0 _ _ _ _ _ _ _ _ _).symm) hG
    refine g_callV (As := [.int a]) (rest := []) (st1 := [.null]) hF (mX2_segmentAt_n (cS M X G J S C P Q) R O hV0 P c_1) (cwV 1 hts gX6_segment_X2_segmentAt rfl rfl rfl (by decide +kernel) ⟨Nat.le_of_ble_eq_true rfl, Nat.le_of_ble_eq_true rfl⟩) hK hZ hG hS hV0.c0 (gC_Rd hV0.1) (by decide) rfl rfl hl.1 (Nat.le_of_ble_eq_true rfl) dX6_segment_5 ⟨Nat.zero_le _, Nat.zero_le _⟩ rfl rfl (fun H locs hG hS => ?_)
    replace hG : GH Γ (cS M X G J S C P Q) R O _ := g_st (cS_u0 _ _ _ _ _ _ _ _ _) hG
    refine lv_astore_nN (lv' := [(3, .null), (0, .ref (gad Γ 475)), (1, .int a), (2, .int d)]) hx hb dX6_segment_8 rfl hl (by decide) rfl (fun ls hl => ?_)
    refine lv_aload_nN hx hb dX6_segment_9 rfl (lv_at hl 0 rfl) ?_
    refine lv_ifnonnullN hx hb dX6_segment_10 ?_
    refine lv_iconst (v := (-1)) hx hb dX6_segment_13 (by decide) ?_
    refine lv_goto (tgt := 22) hx hb dX6_segment_14 (by decide) ?_
    refine g_callS (As := [.int (-1)]) (rest := []) (st1 := [.int (-1)]) hF (mX6_answered (cS M X G J S C P Q) R O (-1) (by have hr := hr; unfold fX6_segment_v at hr; rw [if_neg c_1] at hr; exact hr)) (va_cwS 1 hts gX6_segment_X6_answered rfl rfl rfl (by decide +kernel) ⟨Nat.le_of_ble_eq_true rfl, Nat.le_of_ble_eq_true rfl⟩) hK hZ hG hS rfl hl.1 (Nat.le_of_ble_eq_true rfl) dX6_segment_22 ⟨Nat.zero_le _, Nat.zero_le _⟩ rfl rfl (fun H locs hG hS => ?_)
    exact g_iret hx hb hrt hlocks hS hG (by unfold fX6_segment_v; rw [if_neg c_1]) rfl dX6_segment_25

set_option maxHeartbeats 4000000 in
set_option maxRecDepth 100000 in
theorem tX6_segment {l : Launch} {Γ : gX} (hst : l.stackTraces = false) (M : Nat → Nat → Int32) (R : Nat → Nat → Option Nat) (O : Int64) (hC : LC Γ R) (X G J S C P Q : Nat → Int32) (a d : Int32) {En : String} (hr : xOf (fX6_segment_v X G J S C P Q a d) = some En) : gThr l Γ yX6_segment wsX6_segment 7 102 [.ref (gad Γ 475), .int a, .int d] (cS M X G J S C P Q) R O En (cS M X G J S C P Q) R O := by
  refine g_startT (cc := cX6_segment) (maxL := 4) (ret := (some .int)) (by decide) rfl (Nat.le_of_ble_eq_true rfl) ?_
  intro p e s m below meth c ls hx hb hml hrt hts hown hlocks hname hK hZ hG hS hl hX hnx
  have hl : lv_has ls 4 [(0, .ref (gad Γ 475)), (1, .int a), (2, .int d)] := hl
  have hown : s.vm.findClass RX6 = some m.cls := hown
  have hF : CallFix p m c cX6_segment 4 s _ wsX6_segment RX6 := ⟨hx, hb, hml, hown, hts⟩
  have k_1 : (Cond.fieldLink RX6 19 "RoadDust" "now" "LRoadDust$Road;").before _ s = true := hts _ (by decide +kernel)
  have in_X6 : ∀ w ∈ wsX60, w ∈ wsX6_segment := by decide +kernel
  have hV0 := hC.2.1 0 (by decide)
  have hV1 := hC.2.1 1 (by decide)
  refine lv_aload_n hx hb dX6_segment_0 rfl (lv_at hl 0 rfl) ?_
  refine go_getr (C := RX6) (T := TX6) (ci := 6) hx hb hts in_X6 hown hK hG (hC.1 475 (by decide) (by decide)) (show gC 475 = (6, 32, 0) from rfl) (by decide) rfl 1 (by decide) rfl hC.2.2.2.1 k_1 (fun _ h => h) dX6_segment_1 ?_
  refine lv_iload_n hx hb dX6_segment_4 rfl (lv_at hl 1 rfl) ?_
  by_cases c_1 : okI a (P 0) 10
  · --ok
    replace hG := g_st (show _ = va_up (cS M X G J S C P Q) 0 P from (cS_u0 _ _ _ _ _ _ _ _ _).symm) hG
    refine g_callV (As := [.int a]) (rest := []) (st1 := [.ref (gad Γ (25 * 0 + 4 + a.toNatClampNeg))]) hF (mX2_segmentAt_y (cS M X G J S C P Q) R O hV0 P c_1 (j := a.toNatClampNeg) rfl) (cwV 1 hts gX6_segment_X2_segmentAt rfl rfl rfl (by decide +kernel) ⟨Nat.le_of_ble_eq_true rfl, Nat.le_of_ble_eq_true rfl⟩) hK hZ hG hS hV0.c0 (gC_Rd hV0.1) (by decide) rfl rfl hl.1 (Nat.le_of_ble_eq_true rfl) dX6_segment_5 ⟨Nat.zero_le _, Nat.zero_le _⟩ rfl rfl (fun H locs hG hS => ?_)
    replace hG : GH Γ (cS M X G J S C P Q) R O _ := g_st (cS_u0 _ _ _ _ _ _ _ _ _) hG
    refine lv_astore_n (lv' := [(3, .ref (gad Γ (25 * 0 + 4 + a.toNatClampNeg))), (0, .ref (gad Γ 475)), (1, .int a), (2, .int d)]) hx hb dX6_segment_8 rfl hl (by decide) rfl (fun ls hl => ?_)
    refine lv_aload_n hx hb dX6_segment_9 rfl (lv_at hl 0 rfl) ?_
    refine lv_ifnonnull (tgt := 17) hx hb dX6_segment_10 (by decide) ?_
    refine lv_aload_n hx hb dX6_segment_17 rfl (lv_at hl 0 rfl) ?_
    refine lv_iload_n hx hb dX6_segment_18 rfl (lv_at hl 3 rfl) ?_
    replace hG := g_st (show _ = va_up (cS M X G J S C P Q) 0 P from (cS_u0 _ _ _ _ _ _ _ _ _).symm) hG
    refine g_callV (As := [.int d]) (rest := []) (st1 := [.int (fX3_number_v P a.toNatClampNeg d)]) hF (mX3_number (cS M X G J S C P Q) R O hV0.1 (okI_lt (k := 10) rfl (by decide) c_1) (hV0.seg (i := a.toNatClampNeg) (okI_lt (k := 10) rfl (by decide) c_1)) P d) (cwV 1 hts gX6_segment_X3_number rfl rfl rfl (by decide +kernel) ⟨Nat.le_of_ble_eq_true rfl, Nat.le_of_ble_eq_true rfl⟩) hK hZ hG hS (hV0.seg (i := a.toNatClampNeg) (okI_lt (k := 10) rfl (by decide) c_1)) (gC_S hV0.1 (okI_lt (k := 10) rfl (by decide) c_1)) (by decide) rfl rfl hl.1 (Nat.le_of_ble_eq_true rfl) dX6_segment_19 ⟨Nat.zero_le _, Nat.zero_le _⟩ rfl rfl (fun H locs hG hS => ?_)
    replace hG : GH Γ (cS M X G J S C P Q) R O _ := g_st (cS_u0 _ _ _ _ _ _ _ _ _) hG
    exact g_xS (As := [.int (fX3_number_v P a.toNatClampNeg d)]) (rest := []) hF (tX6_answered hst _ _ _ (fX3_number_v P a.toNatClampNeg d) (by have hr := hr; unfold fX6_segment_v at hr; rw [if_pos c_1] at hr; exact hr)) (va_cwS 1 hts gX6_segment_X6_answered rfl rfl rfl (by decide +kernel) ⟨Nat.le_of_ble_eq_true rfl, Nat.le_of_ble_eq_true rfl⟩) hK hZ hX hG hS rfl hl.1 (Nat.le_of_ble_eq_true rfl) dX6_segment_22 ⟨Nat.le_of_ble_eq_true rfl, Nat.le_of_ble_eq_true rfl⟩ rfl hnx hlocks
  · --none
    replace hG := g_st (show _ = va_up (cS M X G J S C P Q) 0 P from (cS_u0 _ _ _ _ _ _ _ _ _).symm) hG
    refine g_callV (As := [.int a]) (rest := []) (st1 := [.null]) hF (mX2_segmentAt_n (cS M X G J S C P Q) R O hV0 P c_1) (cwV 1 hts gX6_segment_X2_segmentAt rfl rfl rfl (by decide +kernel) ⟨Nat.le_of_ble_eq_true rfl, Nat.le_of_ble_eq_true rfl⟩) hK hZ hG hS hV0.c0 (gC_Rd hV0.1) (by decide) rfl rfl hl.1 (Nat.le_of_ble_eq_true rfl) dX6_segment_5 ⟨Nat.zero_le _, Nat.zero_le _⟩ rfl rfl (fun H locs hG hS => ?_)
    replace hG : GH Γ (cS M X G J S C P Q) R O _ := g_st (cS_u0 _ _ _ _ _ _ _ _ _) hG
    refine lv_astore_nN (lv' := [(3, .null), (0, .ref (gad Γ 475)), (1, .int a), (2, .int d)]) hx hb dX6_segment_8 rfl hl (by decide) rfl (fun ls hl => ?_)
    refine lv_aload_nN hx hb dX6_segment_9 rfl (lv_at hl 0 rfl) ?_
    refine lv_ifnonnullN hx hb dX6_segment_10 ?_
    refine lv_iconst (v := (-1)) hx hb dX6_segment_13 (by decide) ?_
    refine lv_goto (tgt := 22) hx hb dX6_segment_14 (by decide) ?_
    exact g_xS (As := [.int (-1)]) (rest := []) hF (tX6_answered hst _ _ _ (-1) (by have hr := hr; unfold fX6_segment_v at hr; rw [if_neg c_1] at hr; exact hr)) (va_cwS 1 hts gX6_segment_X6_answered rfl rfl rfl (by decide +kernel) ⟨Nat.le_of_ble_eq_true rfl, Nat.le_of_ble_eq_true rfl⟩) hK hZ hX hG hS rfl hl.1 (Nat.le_of_ble_eq_true rfl) dX6_segment_22 ⟨Nat.le_of_ble_eq_true rfl, Nat.le_of_ble_eq_true rfl⟩ rfl hnx hlocks

def fX6_house_v (X G J S C P Q : Nat → Int32) (a d : Int32) : Int32 := if okI a (P 1) 8 then fX1_number_v P a.toNatClampNeg d else (-1)
set_option maxHeartbeats 4000000 in
set_option maxRecDepth 100000 in
theorem mX6_house {l : Launch} {Γ : gX} (M : Nat → Nat → Int32) (R : Nat → Nat → Option Nat) (O : Int64) (hC : LC Γ R) (X G J S C P Q : Nat → Int32) (a d : Int32) (hr : xOf (fX6_house_v X G J S C P Q a d) = none) : gMet l Γ yX6_house wsX6_house 1 21 [.ref (gad Γ 475), .int a, .int d] (cS M X G J S C P Q) R O (some (.int (fX6_house_v X G J S C P Q a d))) (cS M X G J S C P Q) R O := by
  refine g_start (cc := cX6_house) (maxL := 4) (ret := (some .int)) (by decide) rfl (Nat.le_of_ble_eq_true rfl) ?_
  intro p e s m below meth c ls hx hb hml hrt hts hown hlocks hname hK hZ hG hS hl
  have hl : lv_has ls 4 [(0, .ref (gad Γ 475)), (1, .int a), (2, .int d)] := hl
  have hown : s.vm.findClass RX6 = some m.cls := hown
  have hF : CallFix p m c cX6_house 4 s _ wsX6_house RX6 := ⟨hx, hb, hml, hown, hts⟩
  have k_1 : (Cond.fieldLink RX6 19 "RoadDust" "now" "LRoadDust$Road;").before _ s = true := hts _ (by decide +kernel)
  have in_X6 : ∀ w ∈ wsX60, w ∈ wsX6_house := by decide +kernel
  have hV0 := hC.2.1 0 (by decide)
  have hV1 := hC.2.1 1 (by decide)
  refine lv_aload_n hx hb dX6_house_0 rfl (lv_at hl 0 rfl) ?_
  refine go_getr (C := RX6) (T := TX6) (ci := 6) hx hb hts in_X6 hown hK hG (hC.1 475 (by decide) (by decide)) (show gC 475 = (6, 32, 0) from rfl) (by decide) rfl 1 (by decide) rfl hC.2.2.2.1 k_1 (fun _ h => h) dX6_house_1 ?_
  refine lv_iload_n hx hb dX6_house_4 rfl (lv_at hl 1 rfl) ?_
  by_cases c_1 : okI a (P 1) 8
  · --ok
    replace hG := g_st (show _ = va_up (cS M X G J S C P Q) 0 P from (cS_u0 _ _ _ _ _ _ _ _ _).symm) hG
    refine g_callV (As := [.int a]) (rest := []) (st1 := [.ref (gad Γ (25 * 0 + 14 + a.toNatClampNeg))]) hF (mX2_houseAt_y (cS M X G J S C P Q) R O hV0 P c_1 (j := a.toNatClampNeg) rfl) (cwV 1 hts gX6_house_X2_houseAt rfl rfl rfl (by decide +kernel) ⟨Nat.le_of_ble_eq_true rfl, Nat.le_of_ble_eq_true rfl⟩) hK hZ hG hS hV0.c0 (gC_Rd hV0.1) (by decide) rfl rfl hl.1 (Nat.le_of_ble_eq_true rfl) dX6_house_5 ⟨Nat.zero_le _, Nat.zero_le _⟩ rfl rfl (fun H locs hG hS => ?_)
    replace hG : GH Γ (cS M X G J S C P Q) R O _ := g_st (cS_u0 _ _ _ _ _ _ _ _ _) hG
    refine lv_astore_n (lv' := [(3, .ref (gad Γ (25 * 0 + 14 + a.toNatClampNeg))), (0, .ref (gad Γ 475)), (1, .int a), (2, .int d)]) hx hb dX6_house_8 rfl hl (by decide) rfl (fun ls hl => ?_)
    refine lv_aload_n hx hb dX6_house_9 rfl (lv_at hl 0 rfl) ?_
    refine lv_ifnonnull (tgt := 17) hx hb dX6_house_10 (by decide) ?_
    refine lv_aload_n hx hb dX6_house_17 rfl (lv_at hl 0 rfl) ?_
    refine lv_iload_n hx hb dX6_house_18 rfl (lv_at hl 3 rfl) ?_
    replace hG := g_st (show _ = va_up (cS M X G J S C P Q) 0 P from (cS_u0 _ _ _ _ _ _ _ _ _).symm) hG
    refine g_callV (As := [.int d]) (rest := []) (st1 := [.int (fX1_number_v P a.toNatClampNeg d)]) hF (mX1_number (cS M X G J S C P Q) R O hV0.1 (okI_lt (k := 8) rfl (by decide) c_1) (hV0.hou (i := a.toNatClampNeg) (okI_lt (k := 8) rfl (by decide) c_1)) P d) (cwV 1 hts gX6_house_X1_number rfl rfl rfl (by decide +kernel) ⟨Nat.le_of_ble_eq_true rfl, Nat.le_of_ble_eq_true rfl⟩) hK hZ hG hS (hV0.hou (i := a.toNatClampNeg) (okI_lt (k := 8) rfl (by decide) c_1)) (gC_Hs hV0.1 (okI_lt (k := 8) rfl (by decide) c_1)) (by decide) rfl rfl hl.1 (Nat.le_of_ble_eq_true rfl) dX6_house_19 ⟨Nat.zero_le _, Nat.zero_le _⟩ rfl rfl (fun H locs hG hS => ?_)
    replace hG : GH Γ (cS M X G J S C P Q) R O _ := g_st (cS_u0 _ _ _ _ _ _ _ _ _) hG
    refine g_callS (As := [.int (fX1_number_v P a.toNatClampNeg d)]) (rest := []) (st1 := [.int (fX1_number_v P a.toNatClampNeg d)]) hF (mX6_answered (cS M X G J S C P Q) R O (fX1_number_v P a.toNatClampNeg d) (by have hr := hr; unfold fX6_house_v at hr; rw [if_pos c_1] at hr; exact hr)) (va_cwS 1 hts gX6_house_X6_answered rfl rfl rfl (by decide +kernel) ⟨Nat.le_of_ble_eq_true rfl, Nat.le_of_ble_eq_true rfl⟩) hK hZ hG hS rfl hl.1 (Nat.le_of_ble_eq_true rfl) dX6_house_22 ⟨Nat.zero_le _, Nat.zero_le _⟩ rfl rfl (fun H locs hG hS => ?_)
    exact g_iret hx hb hrt hlocks hS hG (by unfold fX6_house_v; rw [if_pos c_1]) rfl dX6_house_25
  · --none
    replace hG := g_st (show _ = va_up (cS M X G J S C P Q) 0 P from (cS_u0 _ _ _ _ _ _ _ _ _).symm) hG
    refine g_callV (As := [.int a]) (rest := []) (st1 := [.null]) hF (mX2_houseAt_n (cS M X G J S C P Q) R O hV0 P c_1) (cwV 1 hts gX6_house_X2_houseAt rfl rfl rfl (by decide +kernel) ⟨Nat.le_of_ble_eq_true rfl, Nat.le_of_ble_eq_true rfl⟩) hK hZ hG hS hV0.c0 (gC_Rd hV0.1) (by decide) rfl rfl hl.1 (Nat.le_of_ble_eq_true rfl) dX6_house_5 ⟨Nat.zero_le _, Nat.zero_le _⟩ rfl rfl (fun H locs hG hS => ?_)
    replace hG : GH Γ (cS M X G J S C P Q) R O _ := g_st (cS_u0 _ _ _ _ _ _ _ _ _) hG
    refine lv_astore_nN (lv' := [(3, .null), (0, .ref (gad Γ 475)), (1, .int a), (2, .int d)]) hx hb dX6_house_8 rfl hl (by decide) rfl (fun ls hl => ?_)
    refine lv_aload_nN hx hb dX6_house_9 rfl (lv_at hl 0 rfl) ?_
    refine lv_ifnonnullN hx hb dX6_house_10 ?_
    refine lv_iconst (v := (-1)) hx hb dX6_house_13 (by decide) ?_
    refine lv_goto (tgt := 22) hx hb dX6_house_14 (by decide) ?_
    refine g_callS (As := [.int (-1)]) (rest := []) (st1 := [.int (-1)]) hF (mX6_answered (cS M X G J S C P Q) R O (-1) (by have hr := hr; unfold fX6_house_v at hr; rw [if_neg c_1] at hr; exact hr)) (va_cwS 1 hts gX6_house_X6_answered rfl rfl rfl (by decide +kernel) ⟨Nat.le_of_ble_eq_true rfl, Nat.le_of_ble_eq_true rfl⟩) hK hZ hG hS rfl hl.1 (Nat.le_of_ble_eq_true rfl) dX6_house_22 ⟨Nat.zero_le _, Nat.zero_le _⟩ rfl rfl (fun H locs hG hS => ?_)
    exact g_iret hx hb hrt hlocks hS hG (by unfold fX6_house_v; rw [if_neg c_1]) rfl dX6_house_25

set_option maxHeartbeats 4000000 in
set_option maxRecDepth 100000 in
theorem tX6_house {l : Launch} {Γ : gX} (hst : l.stackTraces = false) (M : Nat → Nat → Int32) (R : Nat → Nat → Option Nat) (O : Int64) (hC : LC Γ R) (X G J S C P Q : Nat → Int32) (a d : Int32) {En : String} (hr : xOf (fX6_house_v X G J S C P Q a d) = some En) : gThr l Γ yX6_house wsX6_house 7 102 [.ref (gad Γ 475), .int a, .int d] (cS M X G J S C P Q) R O En (cS M X G J S C P Q) R O := by
  refine g_startT (cc := cX6_house) (maxL := 4) (ret := (some .int)) (by decide) rfl (Nat.le_of_ble_eq_true rfl) ?_
  intro p e s m below meth c ls hx hb hml hrt hts hown hlocks hname hK hZ hG hS hl hX hnx
  have hl : lv_has ls 4 [(0, .ref (gad Γ 475)), (1, .int a), (2, .int d)] := hl
  have hown : s.vm.findClass RX6 = some m.cls := hown
  have hF : CallFix p m c cX6_house 4 s _ wsX6_house RX6 := ⟨hx, hb, hml, hown, hts⟩
  have k_1 : (Cond.fieldLink RX6 19 "RoadDust" "now" "LRoadDust$Road;").before _ s = true := hts _ (by decide +kernel)
  have in_X6 : ∀ w ∈ wsX60, w ∈ wsX6_house := by decide +kernel
  have hV0 := hC.2.1 0 (by decide)
  have hV1 := hC.2.1 1 (by decide)
  refine lv_aload_n hx hb dX6_house_0 rfl (lv_at hl 0 rfl) ?_
  refine go_getr (C := RX6) (T := TX6) (ci := 6) hx hb hts in_X6 hown hK hG (hC.1 475 (by decide) (by decide)) (show gC 475 = (6, 32, 0) from rfl) (by decide) rfl 1 (by decide) rfl hC.2.2.2.1 k_1 (fun _ h => h) dX6_house_1 ?_
  refine lv_iload_n hx hb dX6_house_4 rfl (lv_at hl 1 rfl) ?_
  by_cases c_1 : okI a (P 1) 8
  · --ok
    replace hG := g_st (show _ = va_up (cS M X G J S C P Q) 0 P from (cS_u0 _ _ _ _ _ _ _ _ _).symm) hG
    refine g_callV (As := [.int a]) (rest := []) (st1 := [.ref (gad Γ (25 * 0 + 14 + a.toNatClampNeg))]) hF (mX2_houseAt_y (cS M X G J S C P Q) R O hV0 P c_1 (j := a.toNatClampNeg) rfl) (cwV 1 hts gX6_house_X2_houseAt rfl rfl rfl (by decide +kernel) ⟨Nat.le_of_ble_eq_true rfl, Nat.le_of_ble_eq_true rfl⟩) hK hZ hG hS hV0.c0 (gC_Rd hV0.1) (by decide) rfl rfl hl.1 (Nat.le_of_ble_eq_true rfl) dX6_house_5 ⟨Nat.zero_le _, Nat.zero_le _⟩ rfl rfl (fun H locs hG hS => ?_)
    replace hG : GH Γ (cS M X G J S C P Q) R O _ := g_st (cS_u0 _ _ _ _ _ _ _ _ _) hG
    refine lv_astore_n (lv' := [(3, .ref (gad Γ (25 * 0 + 14 + a.toNatClampNeg))), (0, .ref (gad Γ 475)), (1, .int a), (2, .int d)]) hx hb dX6_house_8 rfl hl (by decide) rfl (fun ls hl => ?_)
    refine lv_aload_n hx hb dX6_house_9 rfl (lv_at hl 0 rfl) ?_
    refine lv_ifnonnull (tgt := 17) hx hb dX6_house_10 (by decide) ?_
    refine lv_aload_n hx hb dX6_house_17 rfl (lv_at hl 0 rfl) ?_
    refine lv_iload_n hx hb dX6_house_18 rfl (lv_at hl 3 rfl) ?_
    replace hG := g_st (show _ = va_up (cS M X G J S C P Q) 0 P from (cS_u0 _ _ _ _ _ _ _ _ _).symm) hG
    refine g_callV (As := [.int d]) (rest := []) (st1 := [.int (fX1_number_v P a.toNatClampNeg d)]) hF (mX1_number (cS M X G J S C P Q) R O hV0.1 (okI_lt (k := 8) rfl (by decide) c_1) (hV0.hou (i := a.toNatClampNeg) (okI_lt (k := 8) rfl (by decide) c_1)) P d) (cwV 1 hts gX6_house_X1_number rfl rfl rfl (by decide +kernel) ⟨Nat.le_of_ble_eq_true rfl, Nat.le_of_ble_eq_true rfl⟩) hK hZ hG hS (hV0.hou (i := a.toNatClampNeg) (okI_lt (k := 8) rfl (by decide) c_1)) (gC_Hs hV0.1 (okI_lt (k := 8) rfl (by decide) c_1)) (by decide) rfl rfl hl.1 (Nat.le_of_ble_eq_true rfl) dX6_house_19 ⟨Nat.zero_le _, Nat.zero_le _⟩ rfl rfl (fun H locs hG hS => ?_)
    replace hG : GH Γ (cS M X G J S C P Q) R O _ := g_st (cS_u0 _ _ _ _ _ _ _ _ _) hG
    exact g_xS (As := [.int (fX1_number_v P a.toNatClampNeg d)]) (rest := []) hF (tX6_answered hst _ _ _ (fX1_number_v P a.toNatClampNeg d) (by have hr := hr; unfold fX6_house_v at hr; rw [if_pos c_1] at hr; exact hr)) (va_cwS 1 hts gX6_house_X6_answered rfl rfl rfl (by decide +kernel) ⟨Nat.le_of_ble_eq_true rfl, Nat.le_of_ble_eq_true rfl⟩) hK hZ hX hG hS rfl hl.1 (Nat.le_of_ble_eq_true rfl) dX6_house_22 ⟨Nat.le_of_ble_eq_true rfl, Nat.le_of_ble_eq_true rfl⟩ rfl hnx hlocks
  · --none
    replace hG := g_st (show _ = va_up (cS M X G J S C P Q) 0 P from (cS_u0 _ _ _ _ _ _ _ _ _).symm) hG
    refine g_callV (As := [.int a]) (rest := []) (st1 := [.null]) hF (mX2_houseAt_n (cS M X G J S C P Q) R O hV0 P c_1) (cwV 1 hts gX6_house_X2_houseAt rfl rfl rfl (by decide +kernel) ⟨Nat.le_of_ble_eq_true rfl, Nat.le_of_ble_eq_true rfl⟩) hK hZ hG hS hV0.c0 (gC_Rd hV0.1) (by decide) rfl rfl hl.1 (Nat.le_of_ble_eq_true rfl) dX6_house_5 ⟨Nat.zero_le _, Nat.zero_le _⟩ rfl rfl (fun H locs hG hS => ?_)
    replace hG : GH Γ (cS M X G J S C P Q) R O _ := g_st (cS_u0 _ _ _ _ _ _ _ _ _) hG
    refine lv_astore_nN (lv' := [(3, .null), (0, .ref (gad Γ 475)), (1, .int a), (2, .int d)]) hx hb dX6_house_8 rfl hl (by decide) rfl (fun ls hl => ?_)
    refine lv_aload_nN hx hb dX6_house_9 rfl (lv_at hl 0 rfl) ?_
    refine lv_ifnonnullN hx hb dX6_house_10 ?_
    refine lv_iconst (v := (-1)) hx hb dX6_house_13 (by decide) ?_
    refine lv_goto (tgt := 22) hx hb dX6_house_14 (by decide) ?_
    exact g_xS (As := [.int (-1)]) (rest := []) hF (tX6_answered hst _ _ _ (-1) (by have hr := hr; unfold fX6_house_v at hr; rw [if_neg c_1] at hr; exact hr)) (va_cwS 1 hts gX6_house_X6_answered rfl rfl rfl (by decide +kernel) ⟨Nat.le_of_ble_eq_true rfl, Nat.le_of_ble_eq_true rfl⟩) hK hZ hX hG hS rfl hl.1 (Nat.le_of_ble_eq_true rfl) dX6_house_22 ⟨Nat.le_of_ble_eq_true rfl, Nat.le_of_ble_eq_true rfl⟩ rfl hnx hlocks

def fX6_wagon_v (X G J S C P Q : Nat → Int32) (a d : Int32) : Int32 := if okI a (P 2) 3 then fX5_number_v P a.toNatClampNeg d else (-1)
set_option maxHeartbeats 4000000 in
set_option maxRecDepth 100000 in
theorem mX6_wagon {l : Launch} {Γ : gX} (M : Nat → Nat → Int32) (R : Nat → Nat → Option Nat) (O : Int64) (hC : LC Γ R) (X G J S C P Q : Nat → Int32) (a d : Int32) (hr : xOf (fX6_wagon_v X G J S C P Q a d) = none) : gMet l Γ yX6_wagon wsX6_wagon 1 21 [.ref (gad Γ 475), .int a, .int d] (cS M X G J S C P Q) R O (some (.int (fX6_wagon_v X G J S C P Q a d))) (cS M X G J S C P Q) R O := by
  refine g_start (cc := cX6_wagon) (maxL := 4) (ret := (some .int)) (by decide) rfl (Nat.le_of_ble_eq_true rfl) ?_
  intro p e s m below meth c ls hx hb hml hrt hts hown hlocks hname hK hZ hG hS hl
  have hl : lv_has ls 4 [(0, .ref (gad Γ 475)), (1, .int a), (2, .int d)] := hl
  have hown : s.vm.findClass RX6 = some m.cls := hown
  have hF : CallFix p m c cX6_wagon 4 s _ wsX6_wagon RX6 := ⟨hx, hb, hml, hown, hts⟩
  have k_1 : (Cond.fieldLink RX6 19 "RoadDust" "now" "LRoadDust$Road;").before _ s = true := hts _ (by decide +kernel)
  have in_X6 : ∀ w ∈ wsX60, w ∈ wsX6_wagon := by decide +kernel
  have hV0 := hC.2.1 0 (by decide)
  have hV1 := hC.2.1 1 (by decide)
  refine lv_aload_n hx hb dX6_wagon_0 rfl (lv_at hl 0 rfl) ?_
  refine go_getr (C := RX6) (T := TX6) (ci := 6) hx hb hts in_X6 hown hK hG (hC.1 475 (by decide) (by decide)) (show gC 475 = (6, 32, 0) from rfl) (by decide) rfl 1 (by decide) rfl hC.2.2.2.1 k_1 (fun _ h => h) dX6_wagon_1 ?_
  refine lv_iload_n hx hb dX6_wagon_4 rfl (lv_at hl 1 rfl) ?_
  by_cases c_1 : okI a (P 2) 3
  · --ok
    replace hG := g_st (show _ = va_up (cS M X G J S C P Q) 0 P from (cS_u0 _ _ _ _ _ _ _ _ _).symm) hG
    refine g_callV (As := [.int a]) (rest := []) (st1 := [.ref (gad Γ (25 * 0 + 22 + a.toNatClampNeg))]) hF (mX2_wagonAt_y (cS M X G J S C P Q) R O hV0 P c_1 (j := a.toNatClampNeg) rfl) (cwV 1 hts gX6_wagon_X2_wagonAt rfl rfl rfl (by decide +kernel) ⟨Nat.le_of_ble_eq_true rfl, Nat.le_of_ble_eq_true rfl⟩) hK hZ hG hS hV0.c0 (gC_Rd hV0.1) (by decide) rfl rfl hl.1 (Nat.le_of_ble_eq_true rfl) dX6_wagon_5 ⟨Nat.zero_le _, Nat.zero_le _⟩ rfl rfl (fun H locs hG hS => ?_)
    replace hG : GH Γ (cS M X G J S C P Q) R O _ := g_st (cS_u0 _ _ _ _ _ _ _ _ _) hG
    refine lv_astore_n (lv' := [(3, .ref (gad Γ (25 * 0 + 22 + a.toNatClampNeg))), (0, .ref (gad Γ 475)), (1, .int a), (2, .int d)]) hx hb dX6_wagon_8 rfl hl (by decide) rfl (fun ls hl => ?_)
    refine lv_aload_n hx hb dX6_wagon_9 rfl (lv_at hl 0 rfl) ?_
    refine lv_ifnonnull (tgt := 17) hx hb dX6_wagon_10 (by decide) ?_
    refine lv_aload_n hx hb dX6_wagon_17 rfl (lv_at hl 0 rfl) ?_
    refine lv_iload_n hx hb dX6_wagon_18 rfl (lv_at hl 3 rfl) ?_
    replace hG := g_st (show _ = va_up (cS M X G J S C P Q) 0 P from (cS_u0 _ _ _ _ _ _ _ _ _).symm) hG
    refine g_callV (As := [.int d]) (rest := []) (st1 := [.int (fX5_number_v P a.toNatClampNeg d)]) hF (mX5_number (cS M X G J S C P Q) R O hV0.1 (okI_lt (k := 3) rfl (by decide) c_1) (hV0.wag (i := a.toNatClampNeg) (okI_lt (k := 3) rfl (by decide) c_1)) P d) (cwV 1 hts gX6_wagon_X5_number rfl rfl rfl (by decide +kernel) ⟨Nat.le_of_ble_eq_true rfl, Nat.le_of_ble_eq_true rfl⟩) hK hZ hG hS (hV0.wag (i := a.toNatClampNeg) (okI_lt (k := 3) rfl (by decide) c_1)) (gC_Wg hV0.1 (okI_lt (k := 3) rfl (by decide) c_1)) (by decide) rfl rfl hl.1 (Nat.le_of_ble_eq_true rfl) dX6_wagon_19 ⟨Nat.zero_le _, Nat.zero_le _⟩ rfl rfl (fun H locs hG hS => ?_)
    replace hG : GH Γ (cS M X G J S C P Q) R O _ := g_st (cS_u0 _ _ _ _ _ _ _ _ _) hG
    refine g_callS (As := [.int (fX5_number_v P a.toNatClampNeg d)]) (rest := []) (st1 := [.int (fX5_number_v P a.toNatClampNeg d)]) hF (mX6_answered (cS M X G J S C P Q) R O (fX5_number_v P a.toNatClampNeg d) (by have hr := hr; unfold fX6_wagon_v at hr; rw [if_pos c_1] at hr; exact hr)) (va_cwS 1 hts gX6_wagon_X6_answered rfl rfl rfl (by decide +kernel) ⟨Nat.le_of_ble_eq_true rfl, Nat.le_of_ble_eq_true rfl⟩) hK hZ hG hS rfl hl.1 (Nat.le_of_ble_eq_true rfl) dX6_wagon_22 ⟨Nat.zero_le _, Nat.zero_le _⟩ rfl rfl (fun H locs hG hS => ?_)
    exact g_iret hx hb hrt hlocks hS hG (by unfold fX6_wagon_v; rw [if_pos c_1]) rfl dX6_wagon_25
  · --none
    replace hG := g_st (show _ = va_up (cS M X G J S C P Q) 0 P from (cS_u0 _ _ _ _ _ _ _ _ _).symm) hG
    refine g_callV (As := [.int a]) (rest := []) (st1 := [.null]) hF (mX2_wagonAt_n (cS M X G J S C P Q) R O hV0 P c_1) (cwV 1 hts gX6_wagon_X2_wagonAt rfl rfl rfl (by decide +kernel) ⟨Nat.le_of_ble_eq_true rfl, Nat.le_of_ble_eq_true rfl⟩) hK hZ hG hS hV0.c0 (gC_Rd hV0.1) (by decide) rfl rfl hl.1 (Nat.le_of_ble_eq_true rfl) dX6_wagon_5 ⟨Nat.zero_le _, Nat.zero_le _⟩ rfl rfl (fun H locs hG hS => ?_)
    replace hG : GH Γ (cS M X G J S C P Q) R O _ := g_st (cS_u0 _ _ _ _ _ _ _ _ _) hG
    refine lv_astore_nN (lv' := [(3, .null), (0, .ref (gad Γ 475)), (1, .int a), (2, .int d)]) hx hb dX6_wagon_8 rfl hl (by decide) rfl (fun ls hl => ?_)
    refine lv_aload_nN hx hb dX6_wagon_9 rfl (lv_at hl 0 rfl) ?_
    refine lv_ifnonnullN hx hb dX6_wagon_10 ?_
    refine lv_iconst (v := (-1)) hx hb dX6_wagon_13 (by decide) ?_
    refine lv_goto (tgt := 22) hx hb dX6_wagon_14 (by decide) ?_
    refine g_callS (As := [.int (-1)]) (rest := []) (st1 := [.int (-1)]) hF (mX6_answered (cS M X G J S C P Q) R O (-1) (by have hr := hr; unfold fX6_wagon_v at hr; rw [if_neg c_1] at hr; exact hr)) (va_cwS 1 hts gX6_wagon_X6_answered rfl rfl rfl (by decide +kernel) ⟨Nat.le_of_ble_eq_true rfl, Nat.le_of_ble_eq_true rfl⟩) hK hZ hG hS rfl hl.1 (Nat.le_of_ble_eq_true rfl) dX6_wagon_22 ⟨Nat.zero_le _, Nat.zero_le _⟩ rfl rfl (fun H locs hG hS => ?_)
    exact g_iret hx hb hrt hlocks hS hG (by unfold fX6_wagon_v; rw [if_neg c_1]) rfl dX6_wagon_25

set_option maxHeartbeats 4000000 in
set_option maxRecDepth 100000 in
theorem tX6_wagon {l : Launch} {Γ : gX} (hst : l.stackTraces = false) (M : Nat → Nat → Int32) (R : Nat → Nat → Option Nat) (O : Int64) (hC : LC Γ R) (X G J S C P Q : Nat → Int32) (a d : Int32) {En : String} (hr : xOf (fX6_wagon_v X G J S C P Q a d) = some En) : gThr l Γ yX6_wagon wsX6_wagon 7 102 [.ref (gad Γ 475), .int a, .int d] (cS M X G J S C P Q) R O En (cS M X G J S C P Q) R O := by
  refine g_startT (cc := cX6_wagon) (maxL := 4) (ret := (some .int)) (by decide) rfl (Nat.le_of_ble_eq_true rfl) ?_
  intro p e s m below meth c ls hx hb hml hrt hts hown hlocks hname hK hZ hG hS hl hX hnx
  have hl : lv_has ls 4 [(0, .ref (gad Γ 475)), (1, .int a), (2, .int d)] := hl
  have hown : s.vm.findClass RX6 = some m.cls := hown
  have hF : CallFix p m c cX6_wagon 4 s _ wsX6_wagon RX6 := ⟨hx, hb, hml, hown, hts⟩
  have k_1 : (Cond.fieldLink RX6 19 "RoadDust" "now" "LRoadDust$Road;").before _ s = true := hts _ (by decide +kernel)
  have in_X6 : ∀ w ∈ wsX60, w ∈ wsX6_wagon := by decide +kernel
  have hV0 := hC.2.1 0 (by decide)
  have hV1 := hC.2.1 1 (by decide)
  refine lv_aload_n hx hb dX6_wagon_0 rfl (lv_at hl 0 rfl) ?_
  refine go_getr (C := RX6) (T := TX6) (ci := 6) hx hb hts in_X6 hown hK hG (hC.1 475 (by decide) (by decide)) (show gC 475 = (6, 32, 0) from rfl) (by decide) rfl 1 (by decide) rfl hC.2.2.2.1 k_1 (fun _ h => h) dX6_wagon_1 ?_
  refine lv_iload_n hx hb dX6_wagon_4 rfl (lv_at hl 1 rfl) ?_
  by_cases c_1 : okI a (P 2) 3
  · --ok
    replace hG := g_st (show _ = va_up (cS M X G J S C P Q) 0 P from (cS_u0 _ _ _ _ _ _ _ _ _).symm) hG
    refine g_callV (As := [.int a]) (rest := []) (st1 := [.ref (gad Γ (25 * 0 + 22 + a.toNatClampNeg))]) hF (mX2_wagonAt_y (cS M X G J S C P Q) R O hV0 P c_1 (j := a.toNatClampNeg) rfl) (cwV 1 hts gX6_wagon_X2_wagonAt rfl rfl rfl (by decide +kernel) ⟨Nat.le_of_ble_eq_true rfl, Nat.le_of_ble_eq_true rfl⟩) hK hZ hG hS hV0.c0 (gC_Rd hV0.1) (by decide) rfl rfl hl.1 (Nat.le_of_ble_eq_true rfl) dX6_wagon_5 ⟨Nat.zero_le _, Nat.zero_le _⟩ rfl rfl (fun H locs hG hS => ?_)
    replace hG : GH Γ (cS M X G J S C P Q) R O _ := g_st (cS_u0 _ _ _ _ _ _ _ _ _) hG
    refine lv_astore_n (lv' := [(3, .ref (gad Γ (25 * 0 + 22 + a.toNatClampNeg))), (0, .ref (gad Γ 475)), (1, .int a), (2, .int d)]) hx hb dX6_wagon_8 rfl hl (by decide) rfl (fun ls hl => ?_)
    refine lv_aload_n hx hb dX6_wagon_9 rfl (lv_at hl 0 rfl) ?_
    refine lv_ifnonnull (tgt := 17) hx hb dX6_wagon_10 (by decide) ?_
    refine lv_aload_n hx hb dX6_wagon_17 rfl (lv_at hl 0 rfl) ?_
    refine lv_iload_n hx hb dX6_wagon_18 rfl (lv_at hl 3 rfl) ?_
    replace hG := g_st (show _ = va_up (cS M X G J S C P Q) 0 P from (cS_u0 _ _ _ _ _ _ _ _ _).symm) hG
    refine g_callV (As := [.int d]) (rest := []) (st1 := [.int (fX5_number_v P a.toNatClampNeg d)]) hF (mX5_number (cS M X G J S C P Q) R O hV0.1 (okI_lt (k := 3) rfl (by decide) c_1) (hV0.wag (i := a.toNatClampNeg) (okI_lt (k := 3) rfl (by decide) c_1)) P d) (cwV 1 hts gX6_wagon_X5_number rfl rfl rfl (by decide +kernel) ⟨Nat.le_of_ble_eq_true rfl, Nat.le_of_ble_eq_true rfl⟩) hK hZ hG hS (hV0.wag (i := a.toNatClampNeg) (okI_lt (k := 3) rfl (by decide) c_1)) (gC_Wg hV0.1 (okI_lt (k := 3) rfl (by decide) c_1)) (by decide) rfl rfl hl.1 (Nat.le_of_ble_eq_true rfl) dX6_wagon_19 ⟨Nat.zero_le _, Nat.zero_le _⟩ rfl rfl (fun H locs hG hS => ?_)
    replace hG : GH Γ (cS M X G J S C P Q) R O _ := g_st (cS_u0 _ _ _ _ _ _ _ _ _) hG
    exact g_xS (As := [.int (fX5_number_v P a.toNatClampNeg d)]) (rest := []) hF (tX6_answered hst _ _ _ (fX5_number_v P a.toNatClampNeg d) (by have hr := hr; unfold fX6_wagon_v at hr; rw [if_pos c_1] at hr; exact hr)) (va_cwS 1 hts gX6_wagon_X6_answered rfl rfl rfl (by decide +kernel) ⟨Nat.le_of_ble_eq_true rfl, Nat.le_of_ble_eq_true rfl⟩) hK hZ hX hG hS rfl hl.1 (Nat.le_of_ble_eq_true rfl) dX6_wagon_22 ⟨Nat.le_of_ble_eq_true rfl, Nat.le_of_ble_eq_true rfl⟩ rfl hnx hlocks
  · --none
    replace hG := g_st (show _ = va_up (cS M X G J S C P Q) 0 P from (cS_u0 _ _ _ _ _ _ _ _ _).symm) hG
    refine g_callV (As := [.int a]) (rest := []) (st1 := [.null]) hF (mX2_wagonAt_n (cS M X G J S C P Q) R O hV0 P c_1) (cwV 1 hts gX6_wagon_X2_wagonAt rfl rfl rfl (by decide +kernel) ⟨Nat.le_of_ble_eq_true rfl, Nat.le_of_ble_eq_true rfl⟩) hK hZ hG hS hV0.c0 (gC_Rd hV0.1) (by decide) rfl rfl hl.1 (Nat.le_of_ble_eq_true rfl) dX6_wagon_5 ⟨Nat.zero_le _, Nat.zero_le _⟩ rfl rfl (fun H locs hG hS => ?_)
    replace hG : GH Γ (cS M X G J S C P Q) R O _ := g_st (cS_u0 _ _ _ _ _ _ _ _ _) hG
    refine lv_astore_nN (lv' := [(3, .null), (0, .ref (gad Γ 475)), (1, .int a), (2, .int d)]) hx hb dX6_wagon_8 rfl hl (by decide) rfl (fun ls hl => ?_)
    refine lv_aload_nN hx hb dX6_wagon_9 rfl (lv_at hl 0 rfl) ?_
    refine lv_ifnonnullN hx hb dX6_wagon_10 ?_
    refine lv_iconst (v := (-1)) hx hb dX6_wagon_13 (by decide) ?_
    refine lv_goto (tgt := 22) hx hb dX6_wagon_14 (by decide) ?_
    exact g_xS (As := [.int (-1)]) (rest := []) hF (tX6_answered hst _ _ _ (-1) (by have hr := hr; unfold fX6_wagon_v at hr; rw [if_neg c_1] at hr; exact hr)) (va_cwS 1 hts gX6_wagon_X6_answered rfl rfl rfl (by decide +kernel) ⟨Nat.le_of_ble_eq_true rfl, Nat.le_of_ble_eq_true rfl⟩) hK hZ hX hG hS rfl hl.1 (Nat.le_of_ble_eq_true rfl) dX6_wagon_22 ⟨Nat.le_of_ble_eq_true rfl, Nat.le_of_ble_eq_true rfl⟩ rfl hnx hlocks

def fX6_whyNoFill_v (X G J S C P Q : Nat → Int32) (a : Int32) : Int32 := if okI a (P 2) 3 then fX2_whyNoWater_v P a.toNatClampNeg else (-1)
set_option maxHeartbeats 4000000 in
set_option maxRecDepth 100000 in
theorem mX6_whyNoFill {l : Launch} {Γ : gX} (M : Nat → Nat → Int32) (R : Nat → Nat → Option Nat) (O : Int64) (hC : LC Γ R) (X G J S C P Q : Nat → Int32) (a : Int32) (hr : xOf (fX6_whyNoFill_v X G J S C P Q a) = none) : gMet l Γ yX6_whyNoFill wsX6_whyNoFill 2 43 [.ref (gad Γ 475), .int a] (cS M X G J S C P Q) R O (some (.int (fX6_whyNoFill_v X G J S C P Q a))) (cS M X G J S C P Q) R O := by
  refine g_start (cc := cX6_whyNoFill) (maxL := 3) (ret := (some .int)) (by decide) rfl (Nat.le_of_ble_eq_true rfl) ?_
  intro p e s m below meth c ls hx hb hml hrt hts hown hlocks hname hK hZ hG hS hl
  have hl : lv_has ls 3 [(0, .ref (gad Γ 475)), (1, .int a)] := hl
  have hown : s.vm.findClass RX6 = some m.cls := hown
  have hF : CallFix p m c cX6_whyNoFill 3 s _ wsX6_whyNoFill RX6 := ⟨hx, hb, hml, hown, hts⟩
  have k_1 : (Cond.fieldLink RX6 19 "RoadDust" "now" "LRoadDust$Road;").before _ s = true := hts _ (by decide +kernel)
  have in_X6 : ∀ w ∈ wsX60, w ∈ wsX6_whyNoFill := by decide +kernel
  have hV0 := hC.2.1 0 (by decide)
  have hV1 := hC.2.1 1 (by decide)
  refine lv_aload_n hx hb dX6_whyNoFill_0 rfl (lv_at hl 0 rfl) ?_
  refine go_getr (C := RX6) (T := TX6) (ci := 6) hx hb hts in_X6 hown hK hG (hC.1 475 (by decide) (by decide)) (show gC 475 = (6, 32, 0) from rfl) (by decide) rfl 1 (by decide) rfl hC.2.2.2.1 k_1 (fun _ h => h) dX6_whyNoFill_1 ?_
  refine lv_iload_n hx hb dX6_whyNoFill_4 rfl (lv_at hl 1 rfl) ?_
  by_cases c_1 : okI a (P 2) 3
  · --ok
    replace hG := g_st (show _ = va_up (cS M X G J S C P Q) 0 P from (cS_u0 _ _ _ _ _ _ _ _ _).symm) hG
    refine g_callV (As := [.int a]) (rest := []) (st1 := [.ref (gad Γ (25 * 0 + 22 + a.toNatClampNeg))]) hF (mX2_wagonAt_y (cS M X G J S C P Q) R O hV0 P c_1 (j := a.toNatClampNeg) rfl) (cwV 1 hts gX6_whyNoFill_X2_wagonAt rfl rfl rfl (by decide +kernel) ⟨Nat.le_of_ble_eq_true rfl, Nat.le_of_ble_eq_true rfl⟩) hK hZ hG hS hV0.c0 (gC_Rd hV0.1) (by decide) rfl rfl hl.1 (Nat.le_of_ble_eq_true rfl) dX6_whyNoFill_5 ⟨Nat.zero_le _, Nat.zero_le _⟩ rfl rfl (fun H locs hG hS => ?_)
    replace hG : GH Γ (cS M X G J S C P Q) R O _ := g_st (cS_u0 _ _ _ _ _ _ _ _ _) hG
    refine lv_astore_n (lv' := [(2, .ref (gad Γ (25 * 0 + 22 + a.toNatClampNeg))), (0, .ref (gad Γ 475)), (1, .int a)]) hx hb dX6_whyNoFill_8 rfl hl (by decide) rfl (fun ls hl => ?_)
    refine lv_aload_n hx hb dX6_whyNoFill_9 rfl (lv_at hl 0 rfl) ?_
    refine lv_ifnonnull (tgt := 17) hx hb dX6_whyNoFill_10 (by decide) ?_
    refine lv_aload_n hx hb dX6_whyNoFill_17 rfl (lv_at hl 1 rfl) ?_
    refine go_getr (C := RX6) (T := TX6) (ci := 6) hx hb hts in_X6 hown hK hG (hC.1 475 (by decide) (by decide)) (show gC 475 = (6, 32, 0) from rfl) (by decide) rfl 1 (by decide) rfl hC.2.2.2.1 k_1 (fun _ h => h) dX6_whyNoFill_18 ?_
    refine lv_aload_n hx hb dX6_whyNoFill_21 rfl (lv_at hl 0 rfl) ?_
    replace hG := g_st (show _ = va_up (cS M X G J S C P Q) 0 P from (cS_u0 _ _ _ _ _ _ _ _ _).symm) hG
    refine g_callV (As := [.ref (gad Γ (25 * 0 + 22 + a.toNatClampNeg))]) (rest := []) (st1 := [.int (fX2_whyNoWater_v P a.toNatClampNeg)]) hF (mX2_whyNoWater (cS M X G J S C P Q) R O hV0 P (i := a.toNatClampNeg) (okI_lt (k := 3) rfl (by decide) c_1)) (cwV 1 hts gX6_whyNoFill_X2_whyNoWater rfl rfl rfl (by decide +kernel) ⟨Nat.le_of_ble_eq_true rfl, Nat.le_of_ble_eq_true rfl⟩) hK hZ hG hS hV0.c0 (gC_Rd hV0.1) (by decide) rfl rfl hl.1 (Nat.le_of_ble_eq_true rfl) dX6_whyNoFill_22 ⟨Nat.zero_le _, Nat.zero_le _⟩ rfl rfl (fun H locs hG hS => ?_)
    replace hG : GH Γ (cS M X G J S C P Q) R O _ := g_st (cS_u0 _ _ _ _ _ _ _ _ _) hG
    refine g_callS (As := [.int (fX2_whyNoWater_v P a.toNatClampNeg)]) (rest := []) (st1 := [.int (fX2_whyNoWater_v P a.toNatClampNeg)]) hF (mX6_answered (cS M X G J S C P Q) R O (fX2_whyNoWater_v P a.toNatClampNeg) (by have hr := hr; unfold fX6_whyNoFill_v at hr; rw [if_pos c_1] at hr; exact hr)) (va_cwS 1 hts gX6_whyNoFill_X6_answered rfl rfl rfl (by decide +kernel) ⟨Nat.le_of_ble_eq_true rfl, Nat.le_of_ble_eq_true rfl⟩) hK hZ hG hS rfl hl.1 (Nat.le_of_ble_eq_true rfl) dX6_whyNoFill_25 ⟨Nat.zero_le _, Nat.zero_le _⟩ rfl rfl (fun H locs hG hS => ?_)
    exact g_iret hx hb hrt hlocks hS hG (by unfold fX6_whyNoFill_v; rw [if_pos c_1]) rfl dX6_whyNoFill_28
  · --none
    replace hG := g_st (show _ = va_up (cS M X G J S C P Q) 0 P from (cS_u0 _ _ _ _ _ _ _ _ _).symm) hG
    refine g_callV (As := [.int a]) (rest := []) (st1 := [.null]) hF (mX2_wagonAt_n (cS M X G J S C P Q) R O hV0 P c_1) (cwV 1 hts gX6_whyNoFill_X2_wagonAt rfl rfl rfl (by decide +kernel) ⟨Nat.le_of_ble_eq_true rfl, Nat.le_of_ble_eq_true rfl⟩) hK hZ hG hS hV0.c0 (gC_Rd hV0.1) (by decide) rfl rfl hl.1 (Nat.le_of_ble_eq_true rfl) dX6_whyNoFill_5 ⟨Nat.zero_le _, Nat.zero_le _⟩ rfl rfl (fun H locs hG hS => ?_)
    replace hG : GH Γ (cS M X G J S C P Q) R O _ := g_st (cS_u0 _ _ _ _ _ _ _ _ _) hG
    refine lv_astore_nN (lv' := [(2, .null), (0, .ref (gad Γ 475)), (1, .int a)]) hx hb dX6_whyNoFill_8 rfl hl (by decide) rfl (fun ls hl => ?_)
    refine lv_aload_nN hx hb dX6_whyNoFill_9 rfl (lv_at hl 0 rfl) ?_
    refine lv_ifnonnullN hx hb dX6_whyNoFill_10 ?_
    refine lv_iconst (v := (-1)) hx hb dX6_whyNoFill_13 (by decide) ?_
    refine lv_goto (tgt := 25) hx hb dX6_whyNoFill_14 (by decide) ?_
    refine g_callS (As := [.int (-1)]) (rest := []) (st1 := [.int (-1)]) hF (mX6_answered (cS M X G J S C P Q) R O (-1) (by have hr := hr; unfold fX6_whyNoFill_v at hr; rw [if_neg c_1] at hr; exact hr)) (va_cwS 1 hts gX6_whyNoFill_X6_answered rfl rfl rfl (by decide +kernel) ⟨Nat.le_of_ble_eq_true rfl, Nat.le_of_ble_eq_true rfl⟩) hK hZ hG hS rfl hl.1 (Nat.le_of_ble_eq_true rfl) dX6_whyNoFill_25 ⟨Nat.zero_le _, Nat.zero_le _⟩ rfl rfl (fun H locs hG hS => ?_)
    exact g_iret hx hb hrt hlocks hS hG (by unfold fX6_whyNoFill_v; rw [if_neg c_1]) rfl dX6_whyNoFill_28

set_option maxHeartbeats 4000000 in
set_option maxRecDepth 100000 in
theorem tX6_whyNoFill {l : Launch} {Γ : gX} (hst : l.stackTraces = false) (M : Nat → Nat → Int32) (R : Nat → Nat → Option Nat) (O : Int64) (hC : LC Γ R) (X G J S C P Q : Nat → Int32) (a : Int32) {En : String} (hr : xOf (fX6_whyNoFill_v X G J S C P Q a) = some En) : gThr l Γ yX6_whyNoFill wsX6_whyNoFill 7 102 [.ref (gad Γ 475), .int a] (cS M X G J S C P Q) R O En (cS M X G J S C P Q) R O := by
  refine g_startT (cc := cX6_whyNoFill) (maxL := 3) (ret := (some .int)) (by decide) rfl (Nat.le_of_ble_eq_true rfl) ?_
  intro p e s m below meth c ls hx hb hml hrt hts hown hlocks hname hK hZ hG hS hl hX hnx
  have hl : lv_has ls 3 [(0, .ref (gad Γ 475)), (1, .int a)] := hl
  have hown : s.vm.findClass RX6 = some m.cls := hown
  have hF : CallFix p m c cX6_whyNoFill 3 s _ wsX6_whyNoFill RX6 := ⟨hx, hb, hml, hown, hts⟩
  have k_1 : (Cond.fieldLink RX6 19 "RoadDust" "now" "LRoadDust$Road;").before _ s = true := hts _ (by decide +kernel)
  have in_X6 : ∀ w ∈ wsX60, w ∈ wsX6_whyNoFill := by decide +kernel
  have hV0 := hC.2.1 0 (by decide)
  have hV1 := hC.2.1 1 (by decide)
  refine lv_aload_n hx hb dX6_whyNoFill_0 rfl (lv_at hl 0 rfl) ?_
  refine go_getr (C := RX6) (T := TX6) (ci := 6) hx hb hts in_X6 hown hK hG (hC.1 475 (by decide) (by decide)) (show gC 475 = (6, 32, 0) from rfl) (by decide) rfl 1 (by decide) rfl hC.2.2.2.1 k_1 (fun _ h => h) dX6_whyNoFill_1 ?_
  refine lv_iload_n hx hb dX6_whyNoFill_4 rfl (lv_at hl 1 rfl) ?_
  by_cases c_1 : okI a (P 2) 3
  · --ok
    replace hG := g_st (show _ = va_up (cS M X G J S C P Q) 0 P from (cS_u0 _ _ _ _ _ _ _ _ _).symm) hG
    refine g_callV (As := [.int a]) (rest := []) (st1 := [.ref (gad Γ (25 * 0 + 22 + a.toNatClampNeg))]) hF (mX2_wagonAt_y (cS M X G J S C P Q) R O hV0 P c_1 (j := a.toNatClampNeg) rfl) (cwV 1 hts gX6_whyNoFill_X2_wagonAt rfl rfl rfl (by decide +kernel) ⟨Nat.le_of_ble_eq_true rfl, Nat.le_of_ble_eq_true rfl⟩) hK hZ hG hS hV0.c0 (gC_Rd hV0.1) (by decide) rfl rfl hl.1 (Nat.le_of_ble_eq_true rfl) dX6_whyNoFill_5 ⟨Nat.zero_le _, Nat.zero_le _⟩ rfl rfl (fun H locs hG hS => ?_)
    replace hG : GH Γ (cS M X G J S C P Q) R O _ := g_st (cS_u0 _ _ _ _ _ _ _ _ _) hG
    refine lv_astore_n (lv' := [(2, .ref (gad Γ (25 * 0 + 22 + a.toNatClampNeg))), (0, .ref (gad Γ 475)), (1, .int a)]) hx hb dX6_whyNoFill_8 rfl hl (by decide) rfl (fun ls hl => ?_)
    refine lv_aload_n hx hb dX6_whyNoFill_9 rfl (lv_at hl 0 rfl) ?_
    refine lv_ifnonnull (tgt := 17) hx hb dX6_whyNoFill_10 (by decide) ?_
    refine lv_aload_n hx hb dX6_whyNoFill_17 rfl (lv_at hl 1 rfl) ?_
    refine go_getr (C := RX6) (T := TX6) (ci := 6) hx hb hts in_X6 hown hK hG (hC.1 475 (by decide) (by decide)) (show gC 475 = (6, 32, 0) from rfl) (by decide) rfl 1 (by decide) rfl hC.2.2.2.1 k_1 (fun _ h => h) dX6_whyNoFill_18 ?_
    refine lv_aload_n hx hb dX6_whyNoFill_21 rfl (lv_at hl 0 rfl) ?_
    replace hG := g_st (show _ = va_up (cS M X G J S C P Q) 0 P from (cS_u0 _ _ _ _ _ _ _ _ _).symm) hG
    refine g_callV (As := [.ref (gad Γ (25 * 0 + 22 + a.toNatClampNeg))]) (rest := []) (st1 := [.int (fX2_whyNoWater_v P a.toNatClampNeg)]) hF (mX2_whyNoWater (cS M X G J S C P Q) R O hV0 P (i := a.toNatClampNeg) (okI_lt (k := 3) rfl (by decide) c_1)) (cwV 1 hts gX6_whyNoFill_X2_whyNoWater rfl rfl rfl (by decide +kernel) ⟨Nat.le_of_ble_eq_true rfl, Nat.le_of_ble_eq_true rfl⟩) hK hZ hG hS hV0.c0 (gC_Rd hV0.1) (by decide) rfl rfl hl.1 (Nat.le_of_ble_eq_true rfl) dX6_whyNoFill_22 ⟨Nat.zero_le _, Nat.zero_le _⟩ rfl rfl (fun H locs hG hS => ?_)
    replace hG : GH Γ (cS M X G J S C P Q) R O _ := g_st (cS_u0 _ _ _ _ _ _ _ _ _) hG
    exact g_xS (As := [.int (fX2_whyNoWater_v P a.toNatClampNeg)]) (rest := []) hF (tX6_answered hst _ _ _ (fX2_whyNoWater_v P a.toNatClampNeg) (by have hr := hr; unfold fX6_whyNoFill_v at hr; rw [if_pos c_1] at hr; exact hr)) (va_cwS 1 hts gX6_whyNoFill_X6_answered rfl rfl rfl (by decide +kernel) ⟨Nat.le_of_ble_eq_true rfl, Nat.le_of_ble_eq_true rfl⟩) hK hZ hX hG hS rfl hl.1 (Nat.le_of_ble_eq_true rfl) dX6_whyNoFill_25 ⟨Nat.le_of_ble_eq_true rfl, Nat.le_of_ble_eq_true rfl⟩ rfl hnx hlocks
  · --none
    replace hG := g_st (show _ = va_up (cS M X G J S C P Q) 0 P from (cS_u0 _ _ _ _ _ _ _ _ _).symm) hG
    refine g_callV (As := [.int a]) (rest := []) (st1 := [.null]) hF (mX2_wagonAt_n (cS M X G J S C P Q) R O hV0 P c_1) (cwV 1 hts gX6_whyNoFill_X2_wagonAt rfl rfl rfl (by decide +kernel) ⟨Nat.le_of_ble_eq_true rfl, Nat.le_of_ble_eq_true rfl⟩) hK hZ hG hS hV0.c0 (gC_Rd hV0.1) (by decide) rfl rfl hl.1 (Nat.le_of_ble_eq_true rfl) dX6_whyNoFill_5 ⟨Nat.zero_le _, Nat.zero_le _⟩ rfl rfl (fun H locs hG hS => ?_)
    replace hG : GH Γ (cS M X G J S C P Q) R O _ := g_st (cS_u0 _ _ _ _ _ _ _ _ _) hG
    refine lv_astore_nN (lv' := [(2, .null), (0, .ref (gad Γ 475)), (1, .int a)]) hx hb dX6_whyNoFill_8 rfl hl (by decide) rfl (fun ls hl => ?_)
    refine lv_aload_nN hx hb dX6_whyNoFill_9 rfl (lv_at hl 0 rfl) ?_
    refine lv_ifnonnullN hx hb dX6_whyNoFill_10 ?_
    refine lv_iconst (v := (-1)) hx hb dX6_whyNoFill_13 (by decide) ?_
    refine lv_goto (tgt := 25) hx hb dX6_whyNoFill_14 (by decide) ?_
    exact g_xS (As := [.int (-1)]) (rest := []) hF (tX6_answered hst _ _ _ (-1) (by have hr := hr; unfold fX6_whyNoFill_v at hr; rw [if_neg c_1] at hr; exact hr)) (va_cwS 1 hts gX6_whyNoFill_X6_answered rfl rfl rfl (by decide +kernel) ⟨Nat.le_of_ble_eq_true rfl, Nat.le_of_ble_eq_true rfl⟩) hK hZ hX hG hS rfl hl.1 (Nat.le_of_ble_eq_true rfl) dX6_whyNoFill_25 ⟨Nat.le_of_ble_eq_true rfl, Nat.le_of_ble_eq_true rfl⟩ rfl hnx hlocks

