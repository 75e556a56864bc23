/-! THE ROAD. Laid by gen/p07.py. -/
def fX2_buildHouse_v (P : Nat → Int32) (a b : Int32) : Int32 := if okI a (P 0) 10 then if (fX6_within_v b 0 9) = 0 then (-2) else if (P 1) < 0 then (-3) else if (P 1) < 8 then ((upd (fX1_beNew_P P ((P 1).toNatClampNeg) a b) 1 (((fX1_beNew_P P ((P 1).toNatClampNeg) a b) 1) + 1)) 1) - 1 else (-3) else (-1)
def fX2_buildHouse_P (P : Nat → Int32) (a b : Int32) : Nat → Int32 := if okI a (P 0) 10 then if (fX6_within_v b 0 9) = 0 then P else if (P 1) < 0 then P else if (P 1) < 8 then upd (fX1_beNew_P P ((P 1).toNatClampNeg) a b) 1 (((fX1_beNew_P P ((P 1).toNatClampNeg) a b) 1) + 1) else P else P
set_option maxHeartbeats 4000000 in
set_option maxRecDepth 100000 in
theorem mX2_buildHouse {l : Launch} {Γ : gX} (M : Nat → Nat → Int32) (R : Nat → Nat → Option Nat) (O : Int64) {r : Nat} (hV : LV Γ R r) (P : Nat → Int32) (a b : Int32) : gMet l Γ yX2_buildHouse wsX2_buildHouse 1 22 [.ref (gad Γ (25 * r)), .int a, .int b] (va_up M r P) R O (some (.int (fX2_buildHouse_v P a b))) (va_up M r (fX2_buildHouse_P P a b)) R O := by
  refine g_start (cc := cX2_buildHouse) (maxL := 3) (ret := (some .int)) (by decide) rfl (Nat.le_of_ble_eq_true rfl) ?_
  intro p e s m below meth c ls hx hb hml hrt hts hown hlocks hname hK hZ hG hS hl
  have hl : lv_has ls 3 [(0, .ref (gad Γ (25 * r))), (1, .int a), (2, .int b)] := hl
  have hown : s.vm.findClass RX2 = some m.cls := hown
  have hF : CallFix p m c cX2_buildHouse 3 s _ wsX2_buildHouse RX2 := ⟨hx, hb, hml, hown, hts⟩
  have k_1 : (Cond.initialized RX6).before _ s = true := hts _ (by decide +kernel)
  have k_2 : (Cond.static yX6_within).before _ s = true := hts _ (by decide +kernel)
  have k_3 : (Cond.fieldLink RX2 39 "RoadDust$Road" "houses" "I").before _ s = true := hts _ (by decide +kernel)
  have in_X2 : ∀ w ∈ wsX20, w ∈ wsX2_buildHouse := by decide +kernel
  have k_5 : (Cond.fieldLink RX2 19 "RoadDust$Road" "houseRow" "[LRoadDust$House;").before _ s = true := hts _ (by decide +kernel)
  refine lv_aload_n hx hb dX2_buildHouse_0 rfl (lv_at hl 0 rfl) ?_
  refine lv_iload_n hx hb dX2_buildHouse_1 rfl (lv_at hl 1 rfl) ?_
  by_cases c_1 : okI a (P 0) 10
  · --ok
    refine g_callV (As := [.int a]) (rest := []) (st1 := [.ref (gad Γ (25 * r + 4 + a.toNatClampNeg))]) hF (mX2_segmentAt_y M R O hV P c_1 (j := a.toNatClampNeg) rfl) (cwV 1 hts gX2_buildHouse_X2_segmentAt rfl rfl rfl (by decide +kernel) ⟨Nat.le_of_ble_eq_true rfl, Nat.le_of_ble_eq_true rfl⟩) hK hZ hG hS hV.c0 (gC_Rd hV.1) (by decide) rfl rfl hl.1 (Nat.le_of_ble_eq_true rfl) dX2_buildHouse_2 ⟨Nat.zero_le _, Nat.zero_le _⟩ rfl rfl (fun H locs hG hS => ?_)
    refine lv_ifnonnull (tgt := 10) hx hb dX2_buildHouse_5 (by decide) ?_
    refine lv_iload_n hx hb dX2_buildHouse_10 rfl (lv_at hl 2 rfl) ?_
    refine lv_iconst (v := 0) hx hb dX2_buildHouse_11 (by decide) ?_
    refine lv_bipush (v := 9) hx hb dX2_buildHouse_12 (by decide) ?_
    refine g_callSN (As := [.int b, .int 0, .int 9]) (rest := []) (st1 := [.int (fX6_within_v b 0 9)]) hF (mX6_within _ R O b 0 9) ⟨va_cnB 3 hts gX2_buildHouse_X6_within_n103 rfl rfl rfl hK.2.2.2.2.2.2 k_1 (by decide +kernel) ⟨Nat.le_of_ble_eq_true rfl, Nat.le_of_ble_eq_true rfl⟩, k_2, trivial⟩ hK hZ hG hS rfl hl.1 (Nat.le_of_ble_eq_true rfl) dX2_buildHouse_14 ⟨Nat.zero_le _, Nat.zero_le _⟩ rfl rfl (fun H locs hG hS => ?_)
    refine lv_if_ne (tgt := 23) hx hb dX2_buildHouse_17 (by decide) (fun c_2 => ?_) (fun c_2 => ?_)
    · --T
      refine lv_aload_n hx hb dX2_buildHouse_23 rfl (lv_at hl 0 rfl) ?_
      refine gRd_get hx hb hts in_X2 hown hK hG hV.1 hV.c0 1 (by decide) k_3 (fun _ h => h) (j := 1) rfl dX2_buildHouse_24 ?_
      refine lv_if_lt (tgt := 39) hx hb dX2_buildHouse_27 (by decide) (fun c_3 => ?_) (fun c_3 => ?_)
      · --T
        refine lv_bipush (v := (-3)) hx hb dX2_buildHouse_39 (by decide) ?_
        exact g_iret hx hb hrt hlocks hS hG (by unfold fX2_buildHouse_v; rw [if_pos c_1, if_neg c_2, if_pos c_3]) (congrArg (va_up M r) (by unfold fX2_buildHouse_P; rw [if_pos c_1, if_neg c_2, if_pos c_3])) dX2_buildHouse_41
      · --F
        refine lv_aload_n hx hb dX2_buildHouse_30 rfl (lv_at hl 0 rfl) ?_
        refine gRd_get hx hb hts in_X2 hown hK hG hV.1 hV.c0 1 (by decide) k_3 (fun _ h => h) (j := 1) rfl dX2_buildHouse_31 ?_
        refine lv_bipush (v := 8) hx hb dX2_buildHouse_34 (by decide) ?_
        refine lv_icmp_lt (tgt := 42) hx hb dX2_buildHouse_36 (by decide) (fun c_4 => ?_) (fun c_4 => ?_)
        · --T
          refine lv_aload_n hx hb dX2_buildHouse_42 rfl (lv_at hl 0 rfl) ?_
          refine gRd_getr hx hb hts in_X2 hown hK hG hV.1 hV.c0 13 (by decide) rfl hV.2.2.2.1 k_5 (fun _ h => h) dX2_buildHouse_43 ?_
          refine lv_aload_n hx hb dX2_buildHouse_46 rfl (lv_at hl 0 rfl) ?_
          refine gRd_get hx hb hts in_X2 hown hK hG hV.1 hV.c0 1 (by decide) k_3 (fun _ h => h) (j := 1) rfl dX2_buildHouse_47 ?_
          refine g_aald hx hb hK hG (hV.row 2 (by decide)) (gC_row2 hV.1) (by decide) (by decide) rfl (gLen_row2 hV.1) (j := (P 1).toNatClampNeg) rfl (ix_in (n := 8) rfl (by decide) c_3 c_4) (hV.h (i := (P 1).toNatClampNeg) (ix_lt (n := 8) rfl (by decide) c_3 c_4)) dX2_buildHouse_50 ?_
          refine lv_iload_n hx hb dX2_buildHouse_51 rfl (lv_at hl 1 rfl) ?_
          refine lv_iload_n hx hb dX2_buildHouse_52 rfl (lv_at hl 2 rfl) ?_
          refine g_callV (As := [.int a, .int b]) (rest := []) (st1 := []) hF (mX1_beNew M R O hV.1 (ix_lt (n := 8) rfl (by decide) c_3 c_4) (hV.hou (i := (P 1).toNatClampNeg) (ix_lt (n := 8) rfl (by decide) c_3 c_4)) P a b) (cwV 2 hts gX2_buildHouse_X1_beNew rfl rfl rfl (by decide +kernel) ⟨Nat.le_of_ble_eq_true rfl, Nat.le_of_ble_eq_true rfl⟩) hK hZ hG hS (hV.hou (i := (P 1).toNatClampNeg) (ix_lt (n := 8) rfl (by decide) c_3 c_4)) (gC_Hs hV.1 (ix_lt (n := 8) rfl (by decide) c_3 c_4)) (by decide) rfl rfl hl.1 (Nat.le_of_ble_eq_true rfl) dX2_buildHouse_53 ⟨Nat.zero_le _, Nat.zero_le _⟩ rfl rfl (fun H locs hG hS => ?_)
          refine lv_aload_n hx hb dX2_buildHouse_56 rfl (lv_at hl 0 rfl) ?_
          refine lv_dup hx hb dX2_buildHouse_57 rfl ?_
          refine gRd_get hx hb hts in_X2 hown hK hG hV.1 hV.c0 1 (by decide) k_3 (fun _ h => h) (j := 1) rfl dX2_buildHouse_58 ?_
          refine lv_iconst (v := 1) hx hb dX2_buildHouse_61 (by decide) ?_
          refine lv_iadd hx hb dX2_buildHouse_62 ?_
          refine gRd_put hx hb hts in_X2 hown hK hG hS hV.1 hV.c0 1 (by decide) k_3 (fun _ h => h) rfl .int (by decide +kernel) rfl rfl (j := 1) rfl dX2_buildHouse_63 (fun H locs hG hS => ?_)
          refine lv_aload_n hx hb dX2_buildHouse_66 rfl (lv_at hl 0 rfl) ?_
          refine gRd_get hx hb hts in_X2 hown hK hG hV.1 hV.c0 1 (by decide) k_3 (fun _ h => h) (j := 1) rfl dX2_buildHouse_67 ?_
          refine lv_iconst (v := 1) hx hb dX2_buildHouse_70 (by decide) ?_
          refine lv_isub hx hb dX2_buildHouse_71 ?_
          exact g_iret hx hb hrt hlocks hS hG (by unfold fX2_buildHouse_v; rw [if_pos c_1, if_neg c_2, if_neg c_3, if_pos c_4]) (congrArg (va_up M r) (by unfold fX2_buildHouse_P; rw [if_pos c_1, if_neg c_2, if_neg c_3, if_pos c_4])) dX2_buildHouse_72
        · --F
          refine lv_bipush (v := (-3)) hx hb dX2_buildHouse_39 (by decide) ?_
          exact g_iret hx hb hrt hlocks hS hG (by unfold fX2_buildHouse_v; rw [if_pos c_1, if_neg c_2, if_neg c_3, if_neg c_4]) (congrArg (va_up M r) (by unfold fX2_buildHouse_P; rw [if_pos c_1, if_neg c_2, if_neg c_3, if_neg c_4])) dX2_buildHouse_41
    · --F
      refine lv_bipush (v := (-2)) hx hb dX2_buildHouse_20 (by decide) ?_
      exact g_iret hx hb hrt hlocks hS hG (by unfold fX2_buildHouse_v; rw [if_pos c_1, if_pos c_2]) (congrArg (va_up M r) (by unfold fX2_buildHouse_P; rw [if_pos c_1, if_pos c_2])) dX2_buildHouse_22
  · --none
    refine g_callV (As := [.int a]) (rest := []) (st1 := [.null]) hF (mX2_segmentAt_n M R O hV P c_1) (cwV 1 hts gX2_buildHouse_X2_segmentAt rfl rfl rfl (by decide +kernel) ⟨Nat.le_of_ble_eq_true rfl, Nat.le_of_ble_eq_true rfl⟩) hK hZ hG hS hV.c0 (gC_Rd hV.1) (by decide) rfl rfl hl.1 (Nat.le_of_ble_eq_true rfl) dX2_buildHouse_2 ⟨Nat.zero_le _, Nat.zero_le _⟩ rfl rfl (fun H locs hG hS => ?_)
    refine lv_ifnonnullN hx hb dX2_buildHouse_5 ?_
    refine lv_iconst (v := (-1)) hx hb dX2_buildHouse_8 (by decide) ?_
    exact g_iret hx hb hrt hlocks hS hG (by unfold fX2_buildHouse_v; rw [if_neg c_1]) (congrArg (va_up M r) (by unfold fX2_buildHouse_P; rw [if_neg c_1])) dX2_buildHouse_9

def fX2_bringWagon_v (P : Nat → Int32) (a : Int32) : Int32 := if okI a (P 0) 10 then if (P 2) < 0 then (-3) else if (P 2) < 3 then ((upd (fX5_beNew_P P ((P 2).toNatClampNeg) a) 2 (((fX5_beNew_P P ((P 2).toNatClampNeg) a) 2) + 1)) 2) - 1 else (-3) else (-1)
def fX2_bringWagon_P (P : Nat → Int32) (a : Int32) : Nat → Int32 := if okI a (P 0) 10 then if (P 2) < 0 then P else if (P 2) < 3 then upd (fX5_beNew_P P ((P 2).toNatClampNeg) a) 2 (((fX5_beNew_P P ((P 2).toNatClampNeg) a) 2) + 1) else P else P
set_option maxHeartbeats 4000000 in
set_option maxRecDepth 100000 in
theorem mX2_bringWagon {l : Launch} {Γ : gX} (M : Nat → Nat → Int32) (R : Nat → Nat → Option Nat) (O : Int64) {r : Nat} (hV : LV Γ R r) (P : Nat → Int32) (a : Int32) : gMet l Γ yX2_bringWagon wsX2_bringWagon 1 21 [.ref (gad Γ (25 * r)), .int a] (va_up M r P) R O (some (.int (fX2_bringWagon_v P a))) (va_up M r (fX2_bringWagon_P P a)) R O := by
  refine g_start (cc := cX2_bringWagon) (maxL := 2) (ret := (some .int)) (by decide) rfl (Nat.le_of_ble_eq_true rfl) ?_
  intro p e s m below meth c ls hx hb hml hrt hts hown hlocks hname hK hZ hG hS hl
  have hl : lv_has ls 2 [(0, .ref (gad Γ (25 * r))), (1, .int a)] := hl
  have hown : s.vm.findClass RX2 = some m.cls := hown
  have hF : CallFix p m c cX2_bringWagon 2 s _ wsX2_bringWagon RX2 := ⟨hx, hb, hml, hown, hts⟩
  have k_1 : (Cond.fieldLink RX2 42 "RoadDust$Road" "wagons" "I").before _ s = true := hts _ (by decide +kernel)
  have in_X2 : ∀ w ∈ wsX20, w ∈ wsX2_bringWagon := by decide +kernel
  have k_3 : (Cond.fieldLink RX2 25 "RoadDust$Road" "wagonRow" "[LRoadDust$Wagon;").before _ s = true := hts _ (by decide +kernel)
  refine lv_aload_n hx hb dX2_bringWagon_0 rfl (lv_at hl 0 rfl) ?_
  refine lv_iload_n hx hb dX2_bringWagon_1 rfl (lv_at hl 1 rfl) ?_
  by_cases c_1 : okI a (P 0) 10
  · --ok
    refine g_callV (As := [.int a]) (rest := []) (st1 := [.ref (gad Γ (25 * r + 4 + a.toNatClampNeg))]) hF (mX2_segmentAt_y M R O hV P c_1 (j := a.toNatClampNeg) rfl) (cwV 1 hts gX2_bringWagon_X2_segmentAt rfl rfl rfl (by decide +kernel) ⟨Nat.le_of_ble_eq_true rfl, Nat.le_of_ble_eq_true rfl⟩) hK hZ hG hS hV.c0 (gC_Rd hV.1) (by decide) rfl rfl hl.1 (Nat.le_of_ble_eq_true rfl) dX2_bringWagon_2 ⟨Nat.zero_le _, Nat.zero_le _⟩ rfl rfl (fun H locs hG hS => ?_)
    refine lv_ifnonnull (tgt := 10) hx hb dX2_bringWagon_5 (by decide) ?_
    refine lv_aload_n hx hb dX2_bringWagon_10 rfl (lv_at hl 0 rfl) ?_
    refine gRd_get hx hb hts in_X2 hown hK hG hV.1 hV.c0 2 (by decide) k_1 (fun _ h => h) (j := 2) rfl dX2_bringWagon_11 ?_
    refine lv_if_lt (tgt := 25) hx hb dX2_bringWagon_14 (by decide) (fun c_2 => ?_) (fun c_2 => ?_)
    · --T
      refine lv_bipush (v := (-3)) hx hb dX2_bringWagon_25 (by decide) ?_
      exact g_iret hx hb hrt hlocks hS hG (by unfold fX2_bringWagon_v; rw [if_pos c_1, if_pos c_2]) (congrArg (va_up M r) (by unfold fX2_bringWagon_P; rw [if_pos c_1, if_pos c_2])) dX2_bringWagon_27
    · --F
      refine lv_aload_n hx hb dX2_bringWagon_17 rfl (lv_at hl 0 rfl) ?_
      refine gRd_get hx hb hts in_X2 hown hK hG hV.1 hV.c0 2 (by decide) k_1 (fun _ h => h) (j := 2) rfl dX2_bringWagon_18 ?_
      refine lv_iconst (v := 3) hx hb dX2_bringWagon_21 (by decide) ?_
      refine lv_icmp_lt (tgt := 28) hx hb dX2_bringWagon_22 (by decide) (fun c_3 => ?_) (fun c_3 => ?_)
      · --T
        refine lv_aload_n hx hb dX2_bringWagon_28 rfl (lv_at hl 0 rfl) ?_
        refine gRd_getr hx hb hts in_X2 hown hK hG hV.1 hV.c0 14 (by decide) rfl hV.2.2.2.2.1 k_3 (fun _ h => h) dX2_bringWagon_29 ?_
        refine lv_aload_n hx hb dX2_bringWagon_32 rfl (lv_at hl 0 rfl) ?_
        refine gRd_get hx hb hts in_X2 hown hK hG hV.1 hV.c0 2 (by decide) k_1 (fun _ h => h) (j := 2) rfl dX2_bringWagon_33 ?_
        refine g_aald hx hb hK hG (hV.row 3 (by decide)) (gC_row3 hV.1) (by decide) (by decide) rfl (gLen_row3 hV.1) (j := (P 2).toNatClampNeg) rfl (ix_in (n := 3) rfl (by decide) c_2 c_3) (hV.w (i := (P 2).toNatClampNeg) (ix_lt (n := 3) rfl (by decide) c_2 c_3)) dX2_bringWagon_36 ?_
        refine lv_iload_n hx hb dX2_bringWagon_37 rfl (lv_at hl 1 rfl) ?_
        refine g_callV (As := [.int a]) (rest := []) (st1 := []) hF (mX5_beNew M R O hV.1 (ix_lt (n := 3) rfl (by decide) c_2 c_3) (hV.wag (i := (P 2).toNatClampNeg) (ix_lt (n := 3) rfl (by decide) c_2 c_3)) P a) (cwV 1 hts gX2_bringWagon_X5_beNew rfl rfl rfl (by decide +kernel) ⟨Nat.le_of_ble_eq_true rfl, Nat.le_of_ble_eq_true rfl⟩) hK hZ hG hS (hV.wag (i := (P 2).toNatClampNeg) (ix_lt (n := 3) rfl (by decide) c_2 c_3)) (gC_Wg hV.1 (ix_lt (n := 3) rfl (by decide) c_2 c_3)) (by decide) rfl rfl hl.1 (Nat.le_of_ble_eq_true rfl) dX2_bringWagon_38 ⟨Nat.zero_le _, Nat.zero_le _⟩ rfl rfl (fun H locs hG hS => ?_)
        refine lv_aload_n hx hb dX2_bringWagon_41 rfl (lv_at hl 0 rfl) ?_
        refine lv_dup hx hb dX2_bringWagon_42 rfl ?_
        refine gRd_get hx hb hts in_X2 hown hK hG hV.1 hV.c0 2 (by decide) k_1 (fun _ h => h) (j := 2) rfl dX2_bringWagon_43 ?_
        refine lv_iconst (v := 1) hx hb dX2_bringWagon_46 (by decide) ?_
        refine lv_iadd hx hb dX2_bringWagon_47 ?_
        refine gRd_put hx hb hts in_X2 hown hK hG hS hV.1 hV.c0 2 (by decide) k_1 (fun _ h => h) rfl .int (by decide +kernel) rfl rfl (j := 2) rfl dX2_bringWagon_48 (fun H locs hG hS => ?_)
        refine lv_aload_n hx hb dX2_bringWagon_51 rfl (lv_at hl 0 rfl) ?_
        refine gRd_get hx hb hts in_X2 hown hK hG hV.1 hV.c0 2 (by decide) k_1 (fun _ h => h) (j := 2) rfl dX2_bringWagon_52 ?_
        refine lv_iconst (v := 1) hx hb dX2_bringWagon_55 (by decide) ?_
        refine lv_isub hx hb dX2_bringWagon_56 ?_
        exact g_iret hx hb hrt hlocks hS hG (by unfold fX2_bringWagon_v; rw [if_pos c_1, if_neg c_2, if_pos c_3]) (congrArg (va_up M r) (by unfold fX2_bringWagon_P; rw [if_pos c_1, if_neg c_2, if_pos c_3])) dX2_bringWagon_57
      · --F
        refine lv_bipush (v := (-3)) hx hb dX2_bringWagon_25 (by decide) ?_
        exact g_iret hx hb hrt hlocks hS hG (by unfold fX2_bringWagon_v; rw [if_pos c_1, if_neg c_2, if_neg c_3]) (congrArg (va_up M r) (by unfold fX2_bringWagon_P; rw [if_pos c_1, if_neg c_2, if_neg c_3])) dX2_bringWagon_27
  · --none
    refine g_callV (As := [.int a]) (rest := []) (st1 := [.null]) hF (mX2_segmentAt_n M R O hV P c_1) (cwV 1 hts gX2_bringWagon_X2_segmentAt rfl rfl rfl (by decide +kernel) ⟨Nat.le_of_ble_eq_true rfl, Nat.le_of_ble_eq_true rfl⟩) hK hZ hG hS hV.c0 (gC_Rd hV.1) (by decide) rfl rfl hl.1 (Nat.le_of_ble_eq_true rfl) dX2_bringWagon_2 ⟨Nat.zero_le _, Nat.zero_le _⟩ rfl rfl (fun H locs hG hS => ?_)
    refine lv_ifnonnullN hx hb dX2_bringWagon_5 ?_
    refine lv_iconst (v := (-1)) hx hb dX2_bringWagon_8 (by decide) ?_
    exact g_iret hx hb hrt hlocks hS hG (by unfold fX2_bringWagon_v; rw [if_neg c_1]) (congrArg (va_up M r) (by unfold fX2_bringWagon_P; rw [if_neg c_1])) dX2_bringWagon_9

def fX2_changeSurface_v (P : Nat → Int32) (a b : Int32) : Int32 := if okI a (P 0) 10 then if (fX6_within_v b 0 2) = 0 then (-2) else P (12 + 7 * a.toNatClampNeg) else (-1)
def fX2_changeSurface_P (P : Nat → Int32) (a b : Int32) : Nat → Int32 := if okI a (P 0) 10 then if (fX6_within_v b 0 2) = 0 then P else upd P (12 + 7 * a.toNatClampNeg) b else P
set_option maxHeartbeats 4000000 in
set_option maxRecDepth 100000 in
theorem mX2_changeSurface {l : Launch} {Γ : gX} (M : Nat → Nat → Int32) (R : Nat → Nat → Option Nat) (O : Int64) {r : Nat} (hV : LV Γ R r) (P : Nat → Int32) (a b : Int32) : gMet l Γ yX2_changeSurface wsX2_changeSurface 1 22 [.ref (gad Γ (25 * r)), .int a, .int b] (va_up M r P) R O (some (.int (fX2_changeSurface_v P a b))) (va_up M r (fX2_changeSurface_P P a b)) R O := by
  refine g_start (cc := cX2_changeSurface) (maxL := 5) (ret := (some .int)) (by decide) rfl (Nat.le_of_ble_eq_true rfl) ?_
  intro p e s m below meth c ls hx hb hml hrt hts hown hlocks hname hK hZ hG hS hl
  have hl : lv_has ls 5 [(0, .ref (gad Γ (25 * r))), (1, .int a), (2, .int b)] := hl
  have hown : s.vm.findClass RX2 = some m.cls := hown
  have hF : CallFix p m c cX2_changeSurface 5 s _ wsX2_changeSurface RX2 := ⟨hx, hb, hml, hown, hts⟩
  have k_1 : (Cond.initialized RX6).before _ s = true := hts _ (by decide +kernel)
  have k_2 : (Cond.static yX6_within).before _ s = true := hts _ (by decide +kernel)
  have k_3 : (Cond.fieldLink RX2 112 "RoadDust$Segment" "surface" "I").before _ s = true := hts _ (by decide +kernel)
  have in_X3 : ∀ w ∈ wsX30, w ∈ wsX2_changeSurface := by decide +kernel
  refine lv_aload_n hx hb dX2_changeSurface_0 rfl (lv_at hl 0 rfl) ?_
  refine lv_iload_n hx hb dX2_changeSurface_1 rfl (lv_at hl 1 rfl) ?_
  by_cases c_1 : okI a (P 0) 10
  · --ok
    refine g_callV (As := [.int a]) (rest := []) (st1 := [.ref (gad Γ (25 * r + 4 + a.toNatClampNeg))]) hF (mX2_segmentAt_y M R O hV P c_1 (j := a.toNatClampNeg) rfl) (cwV 1 hts gX2_changeSurface_X2_segmentAt rfl rfl rfl (by decide +kernel) ⟨Nat.le_of_ble_eq_true rfl, Nat.le_of_ble_eq_true rfl⟩) hK hZ hG hS hV.c0 (gC_Rd hV.1) (by decide) rfl rfl hl.1 (Nat.le_of_ble_eq_true rfl) dX2_changeSurface_2 ⟨Nat.zero_le _, Nat.zero_le _⟩ rfl rfl (fun H locs hG hS => ?_)
    refine lv_astore_n (lv' := [(3, .ref (gad Γ (25 * r + 4 + a.toNatClampNeg))), (0, .ref (gad Γ (25 * r))), (1, .int a), (2, .int b)]) hx hb dX2_changeSurface_5 rfl hl (by decide) rfl (fun ls hl => ?_)
    refine lv_aload_n hx hb dX2_changeSurface_6 rfl (lv_at hl 0 rfl) ?_
    refine lv_ifnonnull (tgt := 12) hx hb dX2_changeSurface_7 (by decide) ?_
    refine lv_iload_n hx hb dX2_changeSurface_12 rfl (lv_at hl 3 rfl) ?_
    refine lv_iconst (v := 0) hx hb dX2_changeSurface_13 (by decide) ?_
    refine lv_iconst (v := 2) hx hb dX2_changeSurface_14 (by decide) ?_
    refine g_callSN (As := [.int b, .int 0, .int 2]) (rest := []) (st1 := [.int (fX6_within_v b 0 2)]) hF (mX6_within _ R O b 0 2) ⟨va_cnB 3 hts gX2_changeSurface_X6_within_n103 rfl rfl rfl hK.2.2.2.2.2.2 k_1 (by decide +kernel) ⟨Nat.le_of_ble_eq_true rfl, Nat.le_of_ble_eq_true rfl⟩, k_2, trivial⟩ hK hZ hG hS rfl hl.1 (Nat.le_of_ble_eq_true rfl) dX2_changeSurface_15 ⟨Nat.zero_le _, Nat.zero_le _⟩ rfl rfl (fun H locs hG hS => ?_)
    refine lv_if_ne (tgt := 24) hx hb dX2_changeSurface_18 (by decide) (fun c_2 => ?_) (fun c_2 => ?_)
    · --T
      refine lv_aload_n hx hb dX2_changeSurface_24 rfl (lv_at hl 0 rfl) ?_
      refine gS_get hx hb hts in_X3 hown hK hG hV.1 (okI_lt (k := 10) rfl (by decide) c_1) (hV.seg (i := a.toNatClampNeg) (okI_lt (k := 10) rfl (by decide) c_1)) 0 (by decide) k_3 (fun _ h => h) (j := 12 + 7 * a.toNatClampNeg) rfl dX2_changeSurface_25 ?_
      refine lv_istore (lv' := [(4, .int (P (12 + 7 * a.toNatClampNeg))), (3, .ref (gad Γ (25 * r + 4 + a.toNatClampNeg))), (0, .ref (gad Γ (25 * r))), (1, .int a), (2, .int b)]) hx hb dX2_changeSurface_28 hl (by decide) rfl (fun ls hl => ?_)
      refine lv_aload_n hx hb dX2_changeSurface_30 rfl (lv_at hl 1 rfl) ?_
      refine lv_iload_n hx hb dX2_changeSurface_31 rfl (lv_at hl 4 rfl) ?_
      refine gS_put hx hb hts in_X3 hown hK hG hS hV.1 (okI_lt (k := 10) rfl (by decide) c_1) (hV.seg (i := a.toNatClampNeg) (okI_lt (k := 10) rfl (by decide) c_1)) 0 (by decide) k_3 (fun _ h => h) rfl .int (by decide +kernel) rfl rfl (j := 12 + 7 * a.toNatClampNeg) rfl dX2_changeSurface_32 (fun H locs hG hS => ?_)
      refine lv_iload hx hb dX2_changeSurface_35 (lv_at hl 0 rfl) ?_
      exact g_iret hx hb hrt hlocks hS hG (by unfold fX2_changeSurface_v; rw [if_pos c_1, if_neg c_2]) (congrArg (va_up M r) (by unfold fX2_changeSurface_P; rw [if_pos c_1, if_neg c_2])) dX2_changeSurface_37
    · --F
      refine lv_bipush (v := (-2)) hx hb dX2_changeSurface_21 (by decide) ?_
      exact g_iret hx hb hrt hlocks hS hG (by unfold fX2_changeSurface_v; rw [if_pos c_1, if_pos c_2]) (congrArg (va_up M r) (by unfold fX2_changeSurface_P; rw [if_pos c_1, if_pos c_2])) dX2_changeSurface_23
  · --none
    refine g_callV (As := [.int a]) (rest := []) (st1 := [.null]) hF (mX2_segmentAt_n M R O hV P c_1) (cwV 1 hts gX2_changeSurface_X2_segmentAt rfl rfl rfl (by decide +kernel) ⟨Nat.le_of_ble_eq_true rfl, Nat.le_of_ble_eq_true rfl⟩) hK hZ hG hS hV.c0 (gC_Rd hV.1) (by decide) rfl rfl hl.1 (Nat.le_of_ble_eq_true rfl) dX2_changeSurface_2 ⟨Nat.zero_le _, Nat.zero_le _⟩ rfl rfl (fun H locs hG hS => ?_)
    refine lv_astore_nN (lv' := [(3, .null), (0, .ref (gad Γ (25 * r))), (1, .int a), (2, .int b)]) hx hb dX2_changeSurface_5 rfl hl (by decide) rfl (fun ls hl => ?_)
    refine lv_aload_nN hx hb dX2_changeSurface_6 rfl (lv_at hl 0 rfl) ?_
    refine lv_ifnonnullN hx hb dX2_changeSurface_7 ?_
    refine lv_iconst (v := (-1)) hx hb dX2_changeSurface_10 (by decide) ?_
    exact g_iret hx hb hrt hlocks hS hG (by unfold fX2_changeSurface_v; rw [if_neg c_1]) (congrArg (va_up M r) (by unfold fX2_changeSurface_P; rw [if_neg c_1])) dX2_changeSurface_11

def fX2_changeLimit_v (P : Nat → Int32) (a b : Int32) : Int32 := if okI a (P 0) 10 then if (fX6_within_v b 1 5) = 0 then (-2) else if b ≤ (fX3_greatestLimit_v P a.toNatClampNeg) then P (12 + 7 * a.toNatClampNeg + 1) else (-3) else (-1)
def fX2_changeLimit_P (P : Nat → Int32) (a b : Int32) : Nat → Int32 := if okI a (P 0) 10 then if (fX6_within_v b 1 5) = 0 then P else if b ≤ (fX3_greatestLimit_v P a.toNatClampNeg) then upd P (12 + 7 * a.toNatClampNeg + 1) b else P else P
set_option maxHeartbeats 4000000 in
set_option maxRecDepth 100000 in
theorem mX2_changeLimit {l : Launch} {Γ : gX} (M : Nat → Nat → Int32) (R : Nat → Nat → Option Nat) (O : Int64) {r : Nat} (hV : LV Γ R r) (P : Nat → Int32) (a b : Int32) : gMet l Γ yX2_changeLimit wsX2_changeLimit 1 22 [.ref (gad Γ (25 * r)), .int a, .int b] (va_up M r P) R O (some (.int (fX2_changeLimit_v P a b))) (va_up M r (fX2_changeLimit_P P a b)) R O := by
  refine g_start (cc := cX2_changeLimit) (maxL := 5) (ret := (some .int)) (by decide) rfl (Nat.le_of_ble_eq_true rfl) ?_
  intro p e s m below meth c ls hx hb hml hrt hts hown hlocks hname hK hZ hG hS hl
  have hl : lv_has ls 5 [(0, .ref (gad Γ (25 * r))), (1, .int a), (2, .int b)] := hl
  have hown : s.vm.findClass RX2 = some m.cls := hown
  have hF : CallFix p m c cX2_changeLimit 5 s _ wsX2_changeLimit RX2 := ⟨hx, hb, hml, hown, hts⟩
  have k_1 : (Cond.initialized RX6).before _ s = true := hts _ (by decide +kernel)
  have k_2 : (Cond.static yX6_within).before _ s = true := hts _ (by decide +kernel)
  have k_3 : (Cond.fieldLink RX2 118 "RoadDust$Segment" "limit" "I").before _ s = true := hts _ (by decide +kernel)
  have in_X3 : ∀ w ∈ wsX30, w ∈ wsX2_changeLimit := by decide +kernel
  refine lv_aload_n hx hb dX2_changeLimit_0 rfl (lv_at hl 0 rfl) ?_
  refine lv_iload_n hx hb dX2_changeLimit_1 rfl (lv_at hl 1 rfl) ?_
  by_cases c_1 : okI a (P 0) 10
  · --ok
    refine g_callV (As := [.int a]) (rest := []) (st1 := [.ref (gad Γ (25 * r + 4 + a.toNatClampNeg))]) hF (mX2_segmentAt_y M R O hV P c_1 (j := a.toNatClampNeg) rfl) (cwV 1 hts gX2_changeLimit_X2_segmentAt rfl rfl rfl (by decide +kernel) ⟨Nat.le_of_ble_eq_true rfl, Nat.le_of_ble_eq_true rfl⟩) hK hZ hG hS hV.c0 (gC_Rd hV.1) (by decide) rfl rfl hl.1 (Nat.le_of_ble_eq_true rfl) dX2_changeLimit_2 ⟨Nat.zero_le _, Nat.zero_le _⟩ rfl rfl (fun H locs hG hS => ?_)
    refine lv_astore_n (lv' := [(3, .ref (gad Γ (25 * r + 4 + a.toNatClampNeg))), (0, .ref (gad Γ (25 * r))), (1, .int a), (2, .int b)]) hx hb dX2_changeLimit_5 rfl hl (by decide) rfl (fun ls hl => ?_)
    refine lv_aload_n hx hb dX2_changeLimit_6 rfl (lv_at hl 0 rfl) ?_
    refine lv_ifnonnull (tgt := 12) hx hb dX2_changeLimit_7 (by decide) ?_
    refine lv_iload_n hx hb dX2_changeLimit_12 rfl (lv_at hl 3 rfl) ?_
    refine lv_iconst (v := 1) hx hb dX2_changeLimit_13 (by decide) ?_
    refine lv_iconst (v := 5) hx hb dX2_changeLimit_14 (by decide) ?_
    refine g_callSN (As := [.int b, .int 1, .int 5]) (rest := []) (st1 := [.int (fX6_within_v b 1 5)]) hF (mX6_within _ R O b 1 5) ⟨va_cnB 3 hts gX2_changeLimit_X6_within_n103 rfl rfl rfl hK.2.2.2.2.2.2 k_1 (by decide +kernel) ⟨Nat.le_of_ble_eq_true rfl, Nat.le_of_ble_eq_true rfl⟩, k_2, trivial⟩ hK hZ hG hS rfl hl.1 (Nat.le_of_ble_eq_true rfl) dX2_changeLimit_15 ⟨Nat.zero_le _, Nat.zero_le _⟩ rfl rfl (fun H locs hG hS => ?_)
    refine lv_if_ne (tgt := 24) hx hb dX2_changeLimit_18 (by decide) (fun c_2 => ?_) (fun c_2 => ?_)
    · --T
      refine lv_iload_n hx hb dX2_changeLimit_24 rfl (lv_at hl 3 rfl) ?_
      refine lv_aload_n hx hb dX2_changeLimit_25 rfl (lv_at hl 0 rfl) ?_
      refine g_callV (As := []) (rest := [.int b]) (st1 := [.int (fX3_greatestLimit_v P a.toNatClampNeg), .int b]) hF (mX3_greatestLimit M R O hV.1 (okI_lt (k := 10) rfl (by decide) c_1) (hV.seg (i := a.toNatClampNeg) (okI_lt (k := 10) rfl (by decide) c_1)) P ) (cwV 0 hts gX2_changeLimit_X3_greatestLimit rfl rfl rfl (by decide +kernel) ⟨Nat.le_of_ble_eq_true rfl, Nat.le_of_ble_eq_true rfl⟩) hK hZ hG hS (hV.seg (i := a.toNatClampNeg) (okI_lt (k := 10) rfl (by decide) c_1)) (gC_S hV.1 (okI_lt (k := 10) rfl (by decide) c_1)) (by decide) rfl rfl hl.1 (Nat.le_of_ble_eq_true rfl) dX2_changeLimit_26 ⟨Nat.zero_le _, Nat.zero_le _⟩ rfl rfl (fun H locs hG hS => ?_)
      refine lv_icmp_le (tgt := 35) hx hb dX2_changeLimit_29 (by decide) (fun c_3 => ?_) (fun c_3 => ?_)
      · --T
        refine lv_aload_n hx hb dX2_changeLimit_35 rfl (lv_at hl 0 rfl) ?_
        refine gS_get hx hb hts in_X3 hown hK hG hV.1 (okI_lt (k := 10) rfl (by decide) c_1) (hV.seg (i := a.toNatClampNeg) (okI_lt (k := 10) rfl (by decide) c_1)) 1 (by decide) k_3 (fun _ h => h) (j := 12 + 7 * a.toNatClampNeg + 1) rfl dX2_changeLimit_36 ?_
        refine lv_istore (lv' := [(4, .int (P (12 + 7 * a.toNatClampNeg + 1))), (3, .ref (gad Γ (25 * r + 4 + a.toNatClampNeg))), (0, .ref (gad Γ (25 * r))), (1, .int a), (2, .int b)]) hx hb dX2_changeLimit_39 hl (by decide) rfl (fun ls hl => ?_)
        refine lv_aload_n hx hb dX2_changeLimit_41 rfl (lv_at hl 1 rfl) ?_
        refine lv_iload_n hx hb dX2_changeLimit_42 rfl (lv_at hl 4 rfl) ?_
        refine gS_put hx hb hts in_X3 hown hK hG hS hV.1 (okI_lt (k := 10) rfl (by decide) c_1) (hV.seg (i := a.toNatClampNeg) (okI_lt (k := 10) rfl (by decide) c_1)) 1 (by decide) k_3 (fun _ h => h) rfl .int (by decide +kernel) rfl rfl (j := 12 + 7 * a.toNatClampNeg + 1) rfl dX2_changeLimit_43 (fun H locs hG hS => ?_)
        refine lv_iload hx hb dX2_changeLimit_46 (lv_at hl 0 rfl) ?_
        exact g_iret hx hb hrt hlocks hS hG (by unfold fX2_changeLimit_v; rw [if_pos c_1, if_neg c_2, if_pos c_3]) (congrArg (va_up M r) (by unfold fX2_changeLimit_P; rw [if_pos c_1, if_neg c_2, if_pos c_3])) dX2_changeLimit_48
      · --F
        refine lv_bipush (v := (-3)) hx hb dX2_changeLimit_32 (by decide) ?_
        exact g_iret hx hb hrt hlocks hS hG (by unfold fX2_changeLimit_v; rw [if_pos c_1, if_neg c_2, if_neg c_3]) (congrArg (va_up M r) (by unfold fX2_changeLimit_P; rw [if_pos c_1, if_neg c_2, if_neg c_3])) dX2_changeLimit_34
    · --F
      refine lv_bipush (v := (-2)) hx hb dX2_changeLimit_21 (by decide) ?_
      exact g_iret hx hb hrt hlocks hS hG (by unfold fX2_changeLimit_v; rw [if_pos c_1, if_pos c_2]) (congrArg (va_up M r) (by unfold fX2_changeLimit_P; rw [if_pos c_1, if_pos c_2])) dX2_changeLimit_23
  · --none
    refine g_callV (As := [.int a]) (rest := []) (st1 := [.null]) hF (mX2_segmentAt_n M R O hV P c_1) (cwV 1 hts gX2_changeLimit_X2_segmentAt rfl rfl rfl (by decide +kernel) ⟨Nat.le_of_ble_eq_true rfl, Nat.le_of_ble_eq_true rfl⟩) hK hZ hG hS hV.c0 (gC_Rd hV.1) (by decide) rfl rfl hl.1 (Nat.le_of_ble_eq_true rfl) dX2_changeLimit_2 ⟨Nat.zero_le _, Nat.zero_le _⟩ rfl rfl (fun H locs hG hS => ?_)
    refine lv_astore_nN (lv' := [(3, .null), (0, .ref (gad Γ (25 * r))), (1, .int a), (2, .int b)]) hx hb dX2_changeLimit_5 rfl hl (by decide) rfl (fun ls hl => ?_)
    refine lv_aload_nN hx hb dX2_changeLimit_6 rfl (lv_at hl 0 rfl) ?_
    refine lv_ifnonnullN hx hb dX2_changeLimit_7 ?_
    refine lv_iconst (v := (-1)) hx hb dX2_changeLimit_10 (by decide) ?_
    exact g_iret hx hb hrt hlocks hS hG (by unfold fX2_changeLimit_v; rw [if_neg c_1]) (congrArg (va_up M r) (by unfold fX2_changeLimit_P; rw [if_neg c_1])) dX2_changeLimit_11

def fX2_changeNumber_v (P : Nat → Int32) (a b : Int32) : Int32 := if a = 5 then if (fX6_within_v b 0 20) = 0 then if a = 6 then if (fX6_within_v b 0 9) = 0 then if a = 7 then if (fX6_within_v b 1 200) = 0 then if a = 8 then if (fX6_within_v b 0 99) = 0 then (-2) else fX2_number_v P a else (-2) else fX2_number_v P a else if a = 8 then if (fX6_within_v b 0 99) = 0 then (-2) else fX2_number_v P a else (-2) else fX2_number_v P a else if a = 7 then if (fX6_within_v b 1 200) = 0 then if a = 8 then if (fX6_within_v b 0 99) = 0 then (-2) else fX2_number_v P a else (-2) else fX2_number_v P a else if a = 8 then if (fX6_within_v b 0 99) = 0 then (-2) else fX2_number_v P a else (-2) else fX2_number_v P a else if a = 6 then if (fX6_within_v b 0 9) = 0 then if a = 7 then if (fX6_within_v b 1 200) = 0 then if a = 8 then if (fX6_within_v b 0 99) = 0 then (-2) else fX2_number_v P a else (-2) else fX2_number_v P a else if a = 8 then if (fX6_within_v b 0 99) = 0 then (-2) else fX2_number_v P a else (-2) else fX2_number_v P a else if a = 7 then if (fX6_within_v b 1 200) = 0 then if a = 8 then if (fX6_within_v b 0 99) = 0 then (-2) else fX2_number_v P a else (-2) else fX2_number_v P a else if a = 8 then if (fX6_within_v b 0 99) = 0 then (-2) else fX2_number_v P a else (-2)
def fX2_changeNumber_P (P : Nat → Int32) (a b : Int32) : Nat → Int32 := if a = 5 then if (fX6_within_v b 0 20) = 0 then if a = 6 then if (fX6_within_v b 0 9) = 0 then if a = 7 then if (fX6_within_v b 1 200) = 0 then if a = 8 then if (fX6_within_v b 0 99) = 0 then P else upd P 8 b else P else upd P 7 b else if a = 8 then if (fX6_within_v b 0 99) = 0 then P else upd P 8 b else P else upd P 6 b else if a = 7 then if (fX6_within_v b 1 200) = 0 then if a = 8 then if (fX6_within_v b 0 99) = 0 then P else upd P 8 b else P else upd P 7 b else if a = 8 then if (fX6_within_v b 0 99) = 0 then P else upd P 8 b else P else upd P 5 b else if a = 6 then if (fX6_within_v b 0 9) = 0 then if a = 7 then if (fX6_within_v b 1 200) = 0 then if a = 8 then if (fX6_within_v b 0 99) = 0 then P else upd P 8 b else P else upd P 7 b else if a = 8 then if (fX6_within_v b 0 99) = 0 then P else upd P 8 b else P else upd P 6 b else if a = 7 then if (fX6_within_v b 1 200) = 0 then if a = 8 then if (fX6_within_v b 0 99) = 0 then P else upd P 8 b else P else upd P 7 b else if a = 8 then if (fX6_within_v b 0 99) = 0 then P else upd P 8 b else P
set_option maxHeartbeats 4000000 in
set_option maxRecDepth 100000 in
theorem mX2_changeNumber {l : Launch} {Γ : gX} (M : Nat → Nat → Int32) (R : Nat → Nat → Option Nat) (O : Int64) {r : Nat} (hV : LV Γ R r) (P : Nat → Int32) (a b : Int32) : gMet l Γ yX2_changeNumber wsX2_changeNumber 3 64 [.ref (gad Γ (25 * r)), .int a, .int b] (va_up M r P) R O (some (.int (fX2_changeNumber_v P a b))) (va_up M r (fX2_changeNumber_P P a b)) R O := by
  refine g_start (cc := cX2_changeNumber) (maxL := 4) (ret := (some .int)) (by decide) rfl (Nat.le_of_ble_eq_true rfl) ?_
  intro p e s m below meth c ls hx hb hml hrt hts hown hlocks hname hK hZ hG hS hl
  have hl : lv_has ls 4 [(0, .ref (gad Γ (25 * r))), (1, .int a), (2, .int b)] := hl
  have hown : s.vm.findClass RX2 = some m.cls := hown
  have hF : CallFix p m c cX2_changeNumber 4 s _ wsX2_changeNumber RX2 := ⟨hx, hb, hml, hown, hts⟩
  have k_1 : (Cond.initialized RX6).before _ s = true := hts _ (by decide +kernel)
  have k_2 : (Cond.static yX6_within).before _ s = true := hts _ (by decide +kernel)
  have k_3 : (Cond.fieldLink RX2 60 "RoadDust$Road" "right" "I").before _ s = true := hts _ (by decide +kernel)
  have in_X2 : ∀ w ∈ wsX20, w ∈ wsX2_changeNumber := by decide +kernel
  have k_5 : (Cond.fieldLink RX2 57 "RoadDust$Road" "bound" "I").before _ s = true := hts _ (by decide +kernel)
  have k_6 : (Cond.fieldLink RX2 54 "RoadDust$Road" "sun" "I").before _ s = true := hts _ (by decide +kernel)
  have k_7 : (Cond.fieldLink RX2 51 "RoadDust$Road" "lorries" "I").before _ s = true := hts _ (by decide +kernel)
  refine lv_aload_n hx hb dX2_changeNumber_0 rfl (lv_at hl 0 rfl) ?_
  refine lv_iload_n hx hb dX2_changeNumber_1 rfl (lv_at hl 1 rfl) ?_
  refine g_callV (As := [.int a]) (rest := []) (st1 := [.int (fX2_number_v P a)]) hF (mX2_number M R O hV P a) (cwV 1 hts gX2_changeNumber_X2_number rfl rfl rfl (by decide +kernel) ⟨Nat.le_of_ble_eq_true rfl, Nat.le_of_ble_eq_true rfl⟩) hK hZ hG hS hV.c0 (gC_Rd hV.1) (by decide) rfl rfl hl.1 (Nat.le_of_ble_eq_true rfl) dX2_changeNumber_2 ⟨Nat.zero_le _, Nat.zero_le _⟩ rfl rfl (fun H locs hG hS => ?_)
  refine lv_istore_n (lv' := [(3, .int (fX2_number_v P a)), (0, .ref (gad Γ (25 * r))), (1, .int a), (2, .int b)]) hx hb dX2_changeNumber_5 rfl hl (by decide) rfl (fun ls hl => ?_)
  refine lv_iload_n hx hb dX2_changeNumber_6 rfl (lv_at hl 2 rfl) ?_
  refine lv_iconst (v := 5) hx hb dX2_changeNumber_7 (by decide) ?_
  refine lv_icmp_ne (tgt := 29) hx hb dX2_changeNumber_8 (by decide) (fun c_1 => ?_) (fun c_1 => ?_)
  · --T
    refine lv_iload_n hx hb dX2_changeNumber_29 rfl (lv_at hl 2 rfl) ?_
    refine lv_bipush (v := 6) hx hb dX2_changeNumber_30 (by decide) ?_
    refine lv_icmp_ne (tgt := 53) hx hb dX2_changeNumber_32 (by decide) (fun c_2 => ?_) (fun c_2 => ?_)
    · --T
      refine lv_iload_n hx hb dX2_changeNumber_53 rfl (lv_at hl 2 rfl) ?_
      refine lv_bipush (v := 7) hx hb dX2_changeNumber_54 (by decide) ?_
      refine lv_icmp_ne (tgt := 78) hx hb dX2_changeNumber_56 (by decide) (fun c_3 => ?_) (fun c_3 => ?_)
      · --T
        refine lv_iload_n hx hb dX2_changeNumber_78 rfl (lv_at hl 2 rfl) ?_
        refine lv_bipush (v := 8) hx hb dX2_changeNumber_79 (by decide) ?_
        refine lv_icmp_ne (tgt := 102) hx hb dX2_changeNumber_81 (by decide) (fun c_4 => ?_) (fun c_4 => ?_)
        · --T
          refine lv_bipush (v := (-2)) hx hb dX2_changeNumber_102 (by decide) ?_
          exact g_iret hx hb hrt hlocks hS hG (by unfold fX2_changeNumber_v; rw [if_neg c_1, if_neg c_2, if_neg c_3, if_neg c_4]) (congrArg (va_up M r) (by unfold fX2_changeNumber_P; rw [if_neg c_1, if_neg c_2, if_neg c_3, if_neg c_4])) dX2_changeNumber_104
        · --F
          refine lv_iload_n hx hb dX2_changeNumber_84 rfl (lv_at hl 3 rfl) ?_
          refine lv_iconst (v := 0) hx hb dX2_changeNumber_85 (by decide) ?_
          refine lv_bipush (v := 99) hx hb dX2_changeNumber_86 (by decide) ?_
          refine g_callSN (As := [.int b, .int 0, .int 99]) (rest := []) (st1 := [.int (fX6_within_v b 0 99)]) hF (mX6_within _ R O b 0 99) ⟨va_cnB 3 hts gX2_changeNumber_X6_within_n103 rfl rfl rfl hK.2.2.2.2.2.2 k_1 (by decide +kernel) ⟨Nat.le_of_ble_eq_true rfl, Nat.le_of_ble_eq_true rfl⟩, k_2, trivial⟩ hK hZ hG hS rfl hl.1 (Nat.le_of_ble_eq_true rfl) dX2_changeNumber_88 ⟨Nat.zero_le _, Nat.zero_le _⟩ rfl rfl (fun H locs hG hS => ?_)
          refine lv_if_eq (tgt := 102) hx hb dX2_changeNumber_91 (by decide) (fun c_5 => ?_) (fun c_5 => ?_)
          · --T
            refine lv_bipush (v := (-2)) hx hb dX2_changeNumber_102 (by decide) ?_
            exact g_iret hx hb hrt hlocks hS hG (by unfold fX2_changeNumber_v; rw [if_neg c_1, if_neg c_2, if_neg c_3, if_pos c_4, if_pos c_5]) (congrArg (va_up M r) (by unfold fX2_changeNumber_P; rw [if_neg c_1, if_neg c_2, if_neg c_3, if_pos c_4, if_pos c_5])) dX2_changeNumber_104
          · --F
            refine lv_aload_n hx hb dX2_changeNumber_94 rfl (lv_at hl 1 rfl) ?_
            refine lv_iload_n hx hb dX2_changeNumber_95 rfl (lv_at hl 3 rfl) ?_
            refine gRd_put hx hb hts in_X2 hown hK hG hS hV.1 hV.c0 8 (by decide) k_3 (fun _ h => h) rfl .int (by decide +kernel) rfl rfl (j := 8) rfl dX2_changeNumber_96 (fun H locs hG hS => ?_)
            refine lv_goto (tgt := 105) hx hb dX2_changeNumber_99 (by decide) ?_
            refine lv_iload_n hx hb dX2_changeNumber_105 rfl (lv_at hl 0 rfl) ?_
            exact g_iret hx hb hrt hlocks hS hG (by unfold fX2_changeNumber_v; rw [if_neg c_1, if_neg c_2, if_neg c_3, if_pos c_4, if_neg c_5]) (congrArg (va_up M r) (by unfold fX2_changeNumber_P; rw [if_neg c_1, if_neg c_2, if_neg c_3, if_pos c_4, if_neg c_5])) dX2_changeNumber_106
      · --F
        refine lv_iload_n hx hb dX2_changeNumber_59 rfl (lv_at hl 3 rfl) ?_
        refine lv_iconst (v := 1) hx hb dX2_changeNumber_60 (by decide) ?_
        refine lv_sipush (v := 200) hx hb dX2_changeNumber_61 (by decide) ?_
        refine g_callSN (As := [.int b, .int 1, .int 200]) (rest := []) (st1 := [.int (fX6_within_v b 1 200)]) hF (mX6_within _ R O b 1 200) ⟨va_cnB 3 hts gX2_changeNumber_X6_within_n103 rfl rfl rfl hK.2.2.2.2.2.2 k_1 (by decide +kernel) ⟨Nat.le_of_ble_eq_true rfl, Nat.le_of_ble_eq_true rfl⟩, k_2, trivial⟩ hK hZ hG hS rfl hl.1 (Nat.le_of_ble_eq_true rfl) dX2_changeNumber_64 ⟨Nat.zero_le _, Nat.zero_le _⟩ rfl rfl (fun H locs hG hS => ?_)
        refine lv_if_eq (tgt := 78) hx hb dX2_changeNumber_67 (by decide) (fun c_6 => ?_) (fun c_6 => ?_)
        · --T
          refine lv_iload_n hx hb dX2_changeNumber_78 rfl (lv_at hl 2 rfl) ?_
          refine lv_bipush (v := 8) hx hb dX2_changeNumber_79 (by decide) ?_
          refine lv_icmp_ne (tgt := 102) hx hb dX2_changeNumber_81 (by decide) (fun c_7 => ?_) (fun c_7 => ?_)
          · --T
            refine lv_bipush (v := (-2)) hx hb dX2_changeNumber_102 (by decide) ?_
            exact g_iret hx hb hrt hlocks hS hG (by unfold fX2_changeNumber_v; rw [if_neg c_1, if_neg c_2, if_pos c_3, if_pos c_6, if_neg c_7]) (congrArg (va_up M r) (by unfold fX2_changeNumber_P; rw [if_neg c_1, if_neg c_2, if_pos c_3, if_pos c_6, if_neg c_7])) dX2_changeNumber_104
          · --F
            refine lv_iload_n hx hb dX2_changeNumber_84 rfl (lv_at hl 3 rfl) ?_
            refine lv_iconst (v := 0) hx hb dX2_changeNumber_85 (by decide) ?_
            refine lv_bipush (v := 99) hx hb dX2_changeNumber_86 (by decide) ?_
            refine g_callSN (As := [.int b, .int 0, .int 99]) (rest := []) (st1 := [.int (fX6_within_v b 0 99)]) hF (mX6_within _ R O b 0 99) ⟨va_cnB 3 hts gX2_changeNumber_X6_within_n103 rfl rfl rfl hK.2.2.2.2.2.2 k_1 (by decide +kernel) ⟨Nat.le_of_ble_eq_true rfl, Nat.le_of_ble_eq_true rfl⟩, k_2, trivial⟩ hK hZ hG hS rfl hl.1 (Nat.le_of_ble_eq_true rfl) dX2_changeNumber_88 ⟨Nat.zero_le _, Nat.zero_le _⟩ rfl rfl (fun H locs hG hS => ?_)
            refine lv_if_eq (tgt := 102) hx hb dX2_changeNumber_91 (by decide) (fun c_8 => ?_) (fun c_8 => ?_)
            · --T
              refine lv_bipush (v := (-2)) hx hb dX2_changeNumber_102 (by decide) ?_
              exact g_iret hx hb hrt hlocks hS hG (by unfold fX2_changeNumber_v; rw [if_neg c_1, if_neg c_2, if_pos c_3, if_pos c_6, if_pos c_7, if_pos c_8]) (congrArg (va_up M r) (by unfold fX2_changeNumber_P; rw [if_neg c_1, if_neg c_2, if_pos c_3, if_pos c_6, if_pos c_7, if_pos c_8])) dX2_changeNumber_104
            · --F
              refine lv_aload_n hx hb dX2_changeNumber_94 rfl (lv_at hl 1 rfl) ?_
              refine lv_iload_n hx hb dX2_changeNumber_95 rfl (lv_at hl 3 rfl) ?_
              refine gRd_put hx hb hts in_X2 hown hK hG hS hV.1 hV.c0 8 (by decide) k_3 (fun _ h => h) rfl .int (by decide +kernel) rfl rfl (j := 8) rfl dX2_changeNumber_96 (fun H locs hG hS => ?_)
              refine lv_goto (tgt := 105) hx hb dX2_changeNumber_99 (by decide) ?_
              refine lv_iload_n hx hb dX2_changeNumber_105 rfl (lv_at hl 0 rfl) ?_
              exact g_iret hx hb hrt hlocks hS hG (by unfold fX2_changeNumber_v; rw [if_neg c_1, if_neg c_2, if_pos c_3, if_pos c_6, if_pos c_7, if_neg c_8]) (congrArg (va_up M r) (by unfold fX2_changeNumber_P; rw [if_neg c_1, if_neg c_2, if_pos c_3, if_pos c_6, if_pos c_7, if_neg c_8])) dX2_changeNumber_106
        · --F
          refine lv_aload_n hx hb dX2_changeNumber_70 rfl (lv_at hl 1 rfl) ?_
          refine lv_iload_n hx hb dX2_changeNumber_71 rfl (lv_at hl 3 rfl) ?_
          refine gRd_put hx hb hts in_X2 hown hK hG hS hV.1 hV.c0 7 (by decide) k_5 (fun _ h => h) rfl .int (by decide +kernel) rfl rfl (j := 7) rfl dX2_changeNumber_72 (fun H locs hG hS => ?_)
          refine lv_goto (tgt := 105) hx hb dX2_changeNumber_75 (by decide) ?_
          refine lv_iload_n hx hb dX2_changeNumber_105 rfl (lv_at hl 0 rfl) ?_
          exact g_iret hx hb hrt hlocks hS hG (by unfold fX2_changeNumber_v; rw [if_neg c_1, if_neg c_2, if_pos c_3, if_neg c_6]) (congrArg (va_up M r) (by unfold fX2_changeNumber_P; rw [if_neg c_1, if_neg c_2, if_pos c_3, if_neg c_6])) dX2_changeNumber_106
    · --F
      refine lv_iload_n hx hb dX2_changeNumber_35 rfl (lv_at hl 3 rfl) ?_
      refine lv_iconst (v := 0) hx hb dX2_changeNumber_36 (by decide) ?_
      refine lv_bipush (v := 9) hx hb dX2_changeNumber_37 (by decide) ?_
      refine g_callSN (As := [.int b, .int 0, .int 9]) (rest := []) (st1 := [.int (fX6_within_v b 0 9)]) hF (mX6_within _ R O b 0 9) ⟨va_cnB 3 hts gX2_changeNumber_X6_within_n103 rfl rfl rfl hK.2.2.2.2.2.2 k_1 (by decide +kernel) ⟨Nat.le_of_ble_eq_true rfl, Nat.le_of_ble_eq_true rfl⟩, k_2, trivial⟩ hK hZ hG hS rfl hl.1 (Nat.le_of_ble_eq_true rfl) dX2_changeNumber_39 ⟨Nat.zero_le _, Nat.zero_le _⟩ rfl rfl (fun H locs hG hS => ?_)
      refine lv_if_eq (tgt := 53) hx hb dX2_changeNumber_42 (by decide) (fun c_9 => ?_) (fun c_9 => ?_)
      · --T
        refine lv_iload_n hx hb dX2_changeNumber_53 rfl (lv_at hl 2 rfl) ?_
        refine lv_bipush (v := 7) hx hb dX2_changeNumber_54 (by decide) ?_
        refine lv_icmp_ne (tgt := 78) hx hb dX2_changeNumber_56 (by decide) (fun c_10 => ?_) (fun c_10 => ?_)
        · --T
          refine lv_iload_n hx hb dX2_changeNumber_78 rfl (lv_at hl 2 rfl) ?_
          refine lv_bipush (v := 8) hx hb dX2_changeNumber_79 (by decide) ?_
          refine lv_icmp_ne (tgt := 102) hx hb dX2_changeNumber_81 (by decide) (fun c_11 => ?_) (fun c_11 => ?_)
          · --T
            refine lv_bipush (v := (-2)) hx hb dX2_changeNumber_102 (by decide) ?_
            exact g_iret hx hb hrt hlocks hS hG (by unfold fX2_changeNumber_v; rw [if_neg c_1, if_pos c_2, if_pos c_9, if_neg c_10, if_neg c_11]) (congrArg (va_up M r) (by unfold fX2_changeNumber_P; rw [if_neg c_1, if_pos c_2, if_pos c_9, if_neg c_10, if_neg c_11])) dX2_changeNumber_104
          · --F
            refine lv_iload_n hx hb dX2_changeNumber_84 rfl (lv_at hl 3 rfl) ?_
            refine lv_iconst (v := 0) hx hb dX2_changeNumber_85 (by decide) ?_
            refine lv_bipush (v := 99) hx hb dX2_changeNumber_86 (by decide) ?_
            refine g_callSN (As := [.int b, .int 0, .int 99]) (rest := []) (st1 := [.int (fX6_within_v b 0 99)]) hF (mX6_within _ R O b 0 99) ⟨va_cnB 3 hts gX2_changeNumber_X6_within_n103 rfl rfl rfl hK.2.2.2.2.2.2 k_1 (by decide +kernel) ⟨Nat.le_of_ble_eq_true rfl, Nat.le_of_ble_eq_true rfl⟩, k_2, trivial⟩ hK hZ hG hS rfl hl.1 (Nat.le_of_ble_eq_true rfl) dX2_changeNumber_88 ⟨Nat.zero_le _, Nat.zero_le _⟩ rfl rfl (fun H locs hG hS => ?_)
            refine lv_if_eq (tgt := 102) hx hb dX2_changeNumber_91 (by decide) (fun c_12 => ?_) (fun c_12 => ?_)
            · --T
              refine lv_bipush (v := (-2)) hx hb dX2_changeNumber_102 (by decide) ?_
              exact g_iret hx hb hrt hlocks hS hG (by unfold fX2_changeNumber_v; rw [if_neg c_1, if_pos c_2, if_pos c_9, if_neg c_10, if_pos c_11, if_pos c_12]) (congrArg (va_up M r) (by unfold fX2_changeNumber_P; rw [if_neg c_1, if_pos c_2, if_pos c_9, if_neg c_10, if_pos c_11, if_pos c_12])) dX2_changeNumber_104
            · --F
              refine lv_aload_n hx hb dX2_changeNumber_94 rfl (lv_at hl 1 rfl) ?_
              refine lv_iload_n hx hb dX2_changeNumber_95 rfl (lv_at hl 3 rfl) ?_
              refine gRd_put hx hb hts in_X2 hown hK hG hS hV.1 hV.c0 8 (by decide) k_3 (fun _ h => h) rfl .int (by decide +kernel) rfl rfl (j := 8) rfl dX2_changeNumber_96 (fun H locs hG hS => ?_)
              refine lv_goto (tgt := 105) hx hb dX2_changeNumber_99 (by decide) ?_
              refine lv_iload_n hx hb dX2_changeNumber_105 rfl (lv_at hl 0 rfl) ?_
              exact g_iret hx hb hrt hlocks hS hG (by unfold fX2_changeNumber_v; rw [if_neg c_1, if_pos c_2, if_pos c_9, if_neg c_10, if_pos c_11, if_neg c_12]) (congrArg (va_up M r) (by unfold fX2_changeNumber_P; rw [if_neg c_1, if_pos c_2, if_pos c_9, if_neg c_10, if_pos c_11, if_neg c_12])) dX2_changeNumber_106
        · --F
          refine lv_iload_n hx hb dX2_changeNumber_59 rfl (lv_at hl 3 rfl) ?_
          refine lv_iconst (v := 1) hx hb dX2_changeNumber_60 (by decide) ?_
          refine lv_sipush (v := 200) hx hb dX2_changeNumber_61 (by decide) ?_
          refine g_callSN (As := [.int b, .int 1, .int 200]) (rest := []) (st1 := [.int (fX6_within_v b 1 200)]) hF (mX6_within _ R O b 1 200) ⟨va_cnB 3 hts gX2_changeNumber_X6_within_n103 rfl rfl rfl hK.2.2.2.2.2.2 k_1 (by decide +kernel) ⟨Nat.le_of_ble_eq_true rfl, Nat.le_of_ble_eq_true rfl⟩, k_2, trivial⟩ hK hZ hG hS rfl hl.1 (Nat.le_of_ble_eq_true rfl) dX2_changeNumber_64 ⟨Nat.zero_le _, Nat.zero_le _⟩ rfl rfl (fun H locs hG hS => ?_)
          refine lv_if_eq (tgt := 78) hx hb dX2_changeNumber_67 (by decide) (fun c_13 => ?_) (fun c_13 => ?_)
          · --T
            refine lv_iload_n hx hb dX2_changeNumber_78 rfl (lv_at hl 2 rfl) ?_
            refine lv_bipush (v := 8) hx hb dX2_changeNumber_79 (by decide) ?_
            refine lv_icmp_ne (tgt := 102) hx hb dX2_changeNumber_81 (by decide) (fun c_14 => ?_) (fun c_14 => ?_)
            · --T
              refine lv_bipush (v := (-2)) hx hb dX2_changeNumber_102 (by decide) ?_
              exact g_iret hx hb hrt hlocks hS hG (by unfold fX2_changeNumber_v; rw [if_neg c_1, if_pos c_2, if_pos c_9, if_pos c_10, if_pos c_13, if_neg c_14]) (congrArg (va_up M r) (by unfold fX2_changeNumber_P; rw [if_neg c_1, if_pos c_2, if_pos c_9, if_pos c_10, if_pos c_13, if_neg c_14])) dX2_changeNumber_104
            · --F
              refine lv_iload_n hx hb dX2_changeNumber_84 rfl (lv_at hl 3 rfl) ?_
              refine lv_iconst (v := 0) hx hb dX2_changeNumber_85 (by decide) ?_
              refine lv_bipush (v := 99) hx hb dX2_changeNumber_86 (by decide) ?_
              refine g_callSN (As := [.int b, .int 0, .int 99]) (rest := []) (st1 := [.int (fX6_within_v b 0 99)]) hF (mX6_within _ R O b 0 99) ⟨va_cnB 3 hts gX2_changeNumber_X6_within_n103 rfl rfl rfl hK.2.2.2.2.2.2 k_1 (by decide +kernel) ⟨Nat.le_of_ble_eq_true rfl, Nat.le_of_ble_eq_true rfl⟩, k_2, trivial⟩ hK hZ hG hS rfl hl.1 (Nat.le_of_ble_eq_true rfl) dX2_changeNumber_88 ⟨Nat.zero_le _, Nat.zero_le _⟩ rfl rfl (fun H locs hG hS => ?_)
              refine lv_if_eq (tgt := 102) hx hb dX2_changeNumber_91 (by decide) (fun c_15 => ?_) (fun c_15 => ?_)
              · --T
                refine lv_bipush (v := (-2)) hx hb dX2_changeNumber_102 (by decide) ?_
                exact g_iret hx hb hrt hlocks hS hG (by unfold fX2_changeNumber_v; rw [if_neg c_1, if_pos c_2, if_pos c_9, if_pos c_10, if_pos c_13, if_pos c_14, if_pos c_15]) (congrArg (va_up M r) (by unfold fX2_changeNumber_P; rw [if_neg c_1, if_pos c_2, if_pos c_9, if_pos c_10, if_pos c_13, if_pos c_14, if_pos c_15])) dX2_changeNumber_104
              · --F
                refine lv_aload_n hx hb dX2_changeNumber_94 rfl (lv_at hl 1 rfl) ?_
                refine lv_iload_n hx hb dX2_changeNumber_95 rfl (lv_at hl 3 rfl) ?_
                refine gRd_put hx hb hts in_X2 hown hK hG hS hV.1 hV.c0 8 (by decide) k_3 (fun _ h => h) rfl .int (by decide +kernel) rfl rfl (j := 8) rfl dX2_changeNumber_96 (fun H locs hG hS => ?_)
                refine lv_goto (tgt := 105) hx hb dX2_changeNumber_99 (by decide) ?_
                refine lv_iload_n hx hb dX2_changeNumber_105 rfl (lv_at hl 0 rfl) ?_
                exact g_iret hx hb hrt hlocks hS hG (by unfold fX2_changeNumber_v; rw [if_neg c_1, if_pos c_2, if_pos c_9, if_pos c_10, if_pos c_13, if_pos c_14, if_neg c_15]) (congrArg (va_up M r) (by unfold fX2_changeNumber_P; rw [if_neg c_1, if_pos c_2, if_pos c_9, if_pos c_10, if_pos c_13, if_pos c_14, if_neg c_15])) dX2_changeNumber_106
          · --F
            refine lv_aload_n hx hb dX2_changeNumber_70 rfl (lv_at hl 1 rfl) ?_
            refine lv_iload_n hx hb dX2_changeNumber_71 rfl (lv_at hl 3 rfl) ?_
            refine gRd_put hx hb hts in_X2 hown hK hG hS hV.1 hV.c0 7 (by decide) k_5 (fun _ h => h) rfl .int (by decide +kernel) rfl rfl (j := 7) rfl dX2_changeNumber_72 (fun H locs hG hS => ?_)
            refine lv_goto (tgt := 105) hx hb dX2_changeNumber_75 (by decide) ?_
            refine lv_iload_n hx hb dX2_changeNumber_105 rfl (lv_at hl 0 rfl) ?_
            exact g_iret hx hb hrt hlocks hS hG (by unfold fX2_changeNumber_v; rw [if_neg c_1, if_pos c_2, if_pos c_9, if_pos c_10, if_neg c_13]) (congrArg (va_up M r) (by unfold fX2_changeNumber_P; rw [if_neg c_1, if_pos c_2, if_pos c_9, if_pos c_10, if_neg c_13])) dX2_changeNumber_106
      · --F
        refine lv_aload_n hx hb dX2_changeNumber_45 rfl (lv_at hl 1 rfl) ?_
        refine lv_iload_n hx hb dX2_changeNumber_46 rfl (lv_at hl 3 rfl) ?_
        refine gRd_put hx hb hts in_X2 hown hK hG hS hV.1 hV.c0 6 (by decide) k_6 (fun _ h => h) rfl .int (by decide +kernel) rfl rfl (j := 6) rfl dX2_changeNumber_47 (fun H locs hG hS => ?_)
        refine lv_goto (tgt := 105) hx hb dX2_changeNumber_50 (by decide) ?_
        refine lv_iload_n hx hb dX2_changeNumber_105 rfl (lv_at hl 0 rfl) ?_
        exact g_iret hx hb hrt hlocks hS hG (by unfold fX2_changeNumber_v; rw [if_neg c_1, if_pos c_2, if_neg c_9]) (congrArg (va_up M r) (by unfold fX2_changeNumber_P; rw [if_neg c_1, if_pos c_2, if_neg c_9])) dX2_changeNumber_106
  · --F
    refine lv_iload_n hx hb dX2_changeNumber_11 rfl (lv_at hl 3 rfl) ?_
    refine lv_iconst (v := 0) hx hb dX2_changeNumber_12 (by decide) ?_
    refine lv_bipush (v := 20) hx hb dX2_changeNumber_13 (by decide) ?_
    refine g_callSN (As := [.int b, .int 0, .int 20]) (rest := []) (st1 := [.int (fX6_within_v b 0 20)]) hF (mX6_within _ R O b 0 20) ⟨va_cnB 3 hts gX2_changeNumber_X6_within_n103 rfl rfl rfl hK.2.2.2.2.2.2 k_1 (by decide +kernel) ⟨Nat.le_of_ble_eq_true rfl, Nat.le_of_ble_eq_true rfl⟩, k_2, trivial⟩ hK hZ hG hS rfl hl.1 (Nat.le_of_ble_eq_true rfl) dX2_changeNumber_15 ⟨Nat.zero_le _, Nat.zero_le _⟩ rfl rfl (fun H locs hG hS => ?_)
    refine lv_if_eq (tgt := 29) hx hb dX2_changeNumber_18 (by decide) (fun c_16 => ?_) (fun c_16 => ?_)
    · --T
      refine lv_iload_n hx hb dX2_changeNumber_29 rfl (lv_at hl 2 rfl) ?_
      refine lv_bipush (v := 6) hx hb dX2_changeNumber_30 (by decide) ?_
      refine lv_icmp_ne (tgt := 53) hx hb dX2_changeNumber_32 (by decide) (fun c_17 => ?_) (fun c_17 => ?_)
      · --T
        refine lv_iload_n hx hb dX2_changeNumber_53 rfl (lv_at hl 2 rfl) ?_
        refine lv_bipush (v := 7) hx hb dX2_changeNumber_54 (by decide) ?_
        refine lv_icmp_ne (tgt := 78) hx hb dX2_changeNumber_56 (by decide) (fun c_18 => ?_) (fun c_18 => ?_)
        · --T
          refine lv_iload_n hx hb dX2_changeNumber_78 rfl (lv_at hl 2 rfl) ?_
          refine lv_bipush (v := 8) hx hb dX2_changeNumber_79 (by decide) ?_
          refine lv_icmp_ne (tgt := 102) hx hb dX2_changeNumber_81 (by decide) (fun c_19 => ?_) (fun c_19 => ?_)
          · --T
            refine lv_bipush (v := (-2)) hx hb dX2_changeNumber_102 (by decide) ?_
            exact g_iret hx hb hrt hlocks hS hG (by unfold fX2_changeNumber_v; rw [if_pos c_1, if_pos c_16, if_neg c_17, if_neg c_18, if_neg c_19]) (congrArg (va_up M r) (by unfold fX2_changeNumber_P; rw [if_pos c_1, if_pos c_16, if_neg c_17, if_neg c_18, if_neg c_19])) dX2_changeNumber_104
          · --F
            refine lv_iload_n hx hb dX2_changeNumber_84 rfl (lv_at hl 3 rfl) ?_
            refine lv_iconst (v := 0) hx hb dX2_changeNumber_85 (by decide) ?_
            refine lv_bipush (v := 99) hx hb dX2_changeNumber_86 (by decide) ?_
            refine g_callSN (As := [.int b, .int 0, .int 99]) (rest := []) (st1 := [.int (fX6_within_v b 0 99)]) hF (mX6_within _ R O b 0 99) ⟨va_cnB 3 hts gX2_changeNumber_X6_within_n103 rfl rfl rfl hK.2.2.2.2.2.2 k_1 (by decide +kernel) ⟨Nat.le_of_ble_eq_true rfl, Nat.le_of_ble_eq_true rfl⟩, k_2, trivial⟩ hK hZ hG hS rfl hl.1 (Nat.le_of_ble_eq_true rfl) dX2_changeNumber_88 ⟨Nat.zero_le _, Nat.zero_le _⟩ rfl rfl (fun H locs hG hS => ?_)
            refine lv_if_eq (tgt := 102) hx hb dX2_changeNumber_91 (by decide) (fun c_20 => ?_) (fun c_20 => ?_)
            · --T
              refine lv_bipush (v := (-2)) hx hb dX2_changeNumber_102 (by decide) ?_
              exact g_iret hx hb hrt hlocks hS hG (by unfold fX2_changeNumber_v; rw [if_pos c_1, if_pos c_16, if_neg c_17, if_neg c_18, if_pos c_19, if_pos c_20]) (congrArg (va_up M r) (by unfold fX2_changeNumber_P; rw [if_pos c_1, if_pos c_16, if_neg c_17, if_neg c_18, if_pos c_19, if_pos c_20])) dX2_changeNumber_104
            · --F
              refine lv_aload_n hx hb dX2_changeNumber_94 rfl (lv_at hl 1 rfl) ?_
              refine lv_iload_n hx hb dX2_changeNumber_95 rfl (lv_at hl 3 rfl) ?_
              refine gRd_put hx hb hts in_X2 hown hK hG hS hV.1 hV.c0 8 (by decide) k_3 (fun _ h => h) rfl .int (by decide +kernel) rfl rfl (j := 8) rfl dX2_changeNumber_96 (fun H locs hG hS => ?_)
              refine lv_goto (tgt := 105) hx hb dX2_changeNumber_99 (by decide) ?_
              refine lv_iload_n hx hb dX2_changeNumber_105 rfl (lv_at hl 0 rfl) ?_
              exact g_iret hx hb hrt hlocks hS hG (by unfold fX2_changeNumber_v; rw [if_pos c_1, if_pos c_16, if_neg c_17, if_neg c_18, if_pos c_19, if_neg c_20]) (congrArg (va_up M r) (by unfold fX2_changeNumber_P; rw [if_pos c_1, if_pos c_16, if_neg c_17, if_neg c_18, if_pos c_19, if_neg c_20])) dX2_changeNumber_106
        · --F
          refine lv_iload_n hx hb dX2_changeNumber_59 rfl (lv_at hl 3 rfl) ?_
          refine lv_iconst (v := 1) hx hb dX2_changeNumber_60 (by decide) ?_
          refine lv_sipush (v := 200) hx hb dX2_changeNumber_61 (by decide) ?_
          refine g_callSN (As := [.int b, .int 1, .int 200]) (rest := []) (st1 := [.int (fX6_within_v b 1 200)]) hF (mX6_within _ R O b 1 200) ⟨va_cnB 3 hts gX2_changeNumber_X6_within_n103 rfl rfl rfl hK.2.2.2.2.2.2 k_1 (by decide +kernel) ⟨Nat.le_of_ble_eq_true rfl, Nat.le_of_ble_eq_true rfl⟩, k_2, trivial⟩ hK hZ hG hS rfl hl.1 (Nat.le_of_ble_eq_true rfl) dX2_changeNumber_64 ⟨Nat.zero_le _, Nat.zero_le _⟩ rfl rfl (fun H locs hG hS => ?_)
          refine lv_if_eq (tgt := 78) hx hb dX2_changeNumber_67 (by decide) (fun c_21 => ?_) (fun c_21 => ?_)
          · --T
            refine lv_iload_n hx hb dX2_changeNumber_78 rfl (lv_at hl 2 rfl) ?_
            refine lv_bipush (v := 8) hx hb dX2_changeNumber_79 (by decide) ?_
            refine lv_icmp_ne (tgt := 102) hx hb dX2_changeNumber_81 (by decide) (fun c_22 => ?_) (fun c_22 => ?_)
            · --T
              refine lv_bipush (v := (-2)) hx hb dX2_changeNumber_102 (by decide) ?_
              exact g_iret hx hb hrt hlocks hS hG (by unfold fX2_changeNumber_v; rw [if_pos c_1, if_pos c_16, if_neg c_17, if_pos c_18, if_pos c_21, if_neg c_22]) (congrArg (va_up M r) (by unfold fX2_changeNumber_P; rw [if_pos c_1, if_pos c_16, if_neg c_17, if_pos c_18, if_pos c_21, if_neg c_22])) dX2_changeNumber_104
            · --F
              refine lv_iload_n hx hb dX2_changeNumber_84 rfl (lv_at hl 3 rfl) ?_
              refine lv_iconst (v := 0) hx hb dX2_changeNumber_85 (by decide) ?_
              refine lv_bipush (v := 99) hx hb dX2_changeNumber_86 (by decide) ?_
              refine g_callSN (As := [.int b, .int 0, .int 99]) (rest := []) (st1 := [.int (fX6_within_v b 0 99)]) hF (mX6_within _ R O b 0 99) ⟨va_cnB 3 hts gX2_changeNumber_X6_within_n103 rfl rfl rfl hK.2.2.2.2.2.2 k_1 (by decide +kernel) ⟨Nat.le_of_ble_eq_true rfl, Nat.le_of_ble_eq_true rfl⟩, k_2, trivial⟩ hK hZ hG hS rfl hl.1 (Nat.le_of_ble_eq_true rfl) dX2_changeNumber_88 ⟨Nat.zero_le _, Nat.zero_le _⟩ rfl rfl (fun H locs hG hS => ?_)
              refine lv_if_eq (tgt := 102) hx hb dX2_changeNumber_91 (by decide) (fun c_23 => ?_) (fun c_23 => ?_)
              · --T
                refine lv_bipush (v := (-2)) hx hb dX2_changeNumber_102 (by decide) ?_
                exact g_iret hx hb hrt hlocks hS hG (by unfold fX2_changeNumber_v; rw [if_pos c_1, if_pos c_16, if_neg c_17, if_pos c_18, if_pos c_21, if_pos c_22, if_pos c_23]) (congrArg (va_up M r) (by unfold fX2_changeNumber_P; rw [if_pos c_1, if_pos c_16, if_neg c_17, if_pos c_18, if_pos c_21, if_pos c_22, if_pos c_23])) dX2_changeNumber_104
              · --F
                refine lv_aload_n hx hb dX2_changeNumber_94 rfl (lv_at hl 1 rfl) ?_
                refine lv_iload_n hx hb dX2_changeNumber_95 rfl (lv_at hl 3 rfl) ?_
                refine gRd_put hx hb hts in_X2 hown hK hG hS hV.1 hV.c0 8 (by decide) k_3 (fun _ h => h) rfl .int (by decide +kernel) rfl rfl (j := 8) rfl dX2_changeNumber_96 (fun H locs hG hS => ?_)
                refine lv_goto (tgt := 105) hx hb dX2_changeNumber_99 (by decide) ?_
                refine lv_iload_n hx hb dX2_changeNumber_105 rfl (lv_at hl 0 rfl) ?_
                exact g_iret hx hb hrt hlocks hS hG (by unfold fX2_changeNumber_v; rw [if_pos c_1, if_pos c_16, if_neg c_17, if_pos c_18, if_pos c_21, if_pos c_22, if_neg c_23]) (congrArg (va_up M r) (by unfold fX2_changeNumber_P; rw [if_pos c_1, if_pos c_16, if_neg c_17, if_pos c_18, if_pos c_21, if_pos c_22, if_neg c_23])) dX2_changeNumber_106
          · --F
            refine lv_aload_n hx hb dX2_changeNumber_70 rfl (lv_at hl 1 rfl) ?_
            refine lv_iload_n hx hb dX2_changeNumber_71 rfl (lv_at hl 3 rfl) ?_
            refine gRd_put hx hb hts in_X2 hown hK hG hS hV.1 hV.c0 7 (by decide) k_5 (fun _ h => h) rfl .int (by decide +kernel) rfl rfl (j := 7) rfl dX2_changeNumber_72 (fun H locs hG hS => ?_)
            refine lv_goto (tgt := 105) hx hb dX2_changeNumber_75 (by decide) ?_
            refine lv_iload_n hx hb dX2_changeNumber_105 rfl (lv_at hl 0 rfl) ?_
            exact g_iret hx hb hrt hlocks hS hG (by unfold fX2_changeNumber_v; rw [if_pos c_1, if_pos c_16, if_neg c_17, if_pos c_18, if_neg c_21]) (congrArg (va_up M r) (by unfold fX2_changeNumber_P; rw [if_pos c_1, if_pos c_16, if_neg c_17, if_pos c_18, if_neg c_21])) dX2_changeNumber_106
      · --F
        refine lv_iload_n hx hb dX2_changeNumber_35 rfl (lv_at hl 3 rfl) ?_
        refine lv_iconst (v := 0) hx hb dX2_changeNumber_36 (by decide) ?_
        refine lv_bipush (v := 9) hx hb dX2_changeNumber_37 (by decide) ?_
        refine g_callSN (As := [.int b, .int 0, .int 9]) (rest := []) (st1 := [.int (fX6_within_v b 0 9)]) hF (mX6_within _ R O b 0 9) ⟨va_cnB 3 hts gX2_changeNumber_X6_within_n103 rfl rfl rfl hK.2.2.2.2.2.2 k_1 (by decide +kernel) ⟨Nat.le_of_ble_eq_true rfl, Nat.le_of_ble_eq_true rfl⟩, k_2, trivial⟩ hK hZ hG hS rfl hl.1 (Nat.le_of_ble_eq_true rfl) dX2_changeNumber_39 ⟨Nat.zero_le _, Nat.zero_le _⟩ rfl rfl (fun H locs hG hS => ?_)
        refine lv_if_eq (tgt := 53) hx hb dX2_changeNumber_42 (by decide) (fun c_24 => ?_) (fun c_24 => ?_)
        · --T
          refine lv_iload_n hx hb dX2_changeNumber_53 rfl (lv_at hl 2 rfl) ?_
          refine lv_bipush (v := 7) hx hb dX2_changeNumber_54 (by decide) ?_
          refine lv_icmp_ne (tgt := 78) hx hb dX2_changeNumber_56 (by decide) (fun c_25 => ?_) (fun c_25 => ?_)
          · --T
            refine lv_iload_n hx hb dX2_changeNumber_78 rfl (lv_at hl 2 rfl) ?_
            refine lv_bipush (v := 8) hx hb dX2_changeNumber_79 (by decide) ?_
            refine lv_icmp_ne (tgt := 102) hx hb dX2_changeNumber_81 (by decide) (fun c_26 => ?_) (fun c_26 => ?_)
            · --T
              refine lv_bipush (v := (-2)) hx hb dX2_changeNumber_102 (by decide) ?_
              exact g_iret hx hb hrt hlocks hS hG (by unfold fX2_changeNumber_v; rw [if_pos c_1, if_pos c_16, if_pos c_17, if_pos c_24, if_neg c_25, if_neg c_26]) (congrArg (va_up M r) (by unfold fX2_changeNumber_P; rw [if_pos c_1, if_pos c_16, if_pos c_17, if_pos c_24, if_neg c_25, if_neg c_26])) dX2_changeNumber_104
            · --F
              refine lv_iload_n hx hb dX2_changeNumber_84 rfl (lv_at hl 3 rfl) ?_
              refine lv_iconst (v := 0) hx hb dX2_changeNumber_85 (by decide) ?_
              refine lv_bipush (v := 99) hx hb dX2_changeNumber_86 (by decide) ?_
              refine g_callSN (As := [.int b, .int 0, .int 99]) (rest := []) (st1 := [.int (fX6_within_v b 0 99)]) hF (mX6_within _ R O b 0 99) ⟨va_cnB 3 hts gX2_changeNumber_X6_within_n103 rfl rfl rfl hK.2.2.2.2.2.2 k_1 (by decide +kernel) ⟨Nat.le_of_ble_eq_true rfl, Nat.le_of_ble_eq_true rfl⟩, k_2, trivial⟩ hK hZ hG hS rfl hl.1 (Nat.le_of_ble_eq_true rfl) dX2_changeNumber_88 ⟨Nat.zero_le _, Nat.zero_le _⟩ rfl rfl (fun H locs hG hS => ?_)
              refine lv_if_eq (tgt := 102) hx hb dX2_changeNumber_91 (by decide) (fun c_27 => ?_) (fun c_27 => ?_)
              · --T
                refine lv_bipush (v := (-2)) hx hb dX2_changeNumber_102 (by decide) ?_
                exact g_iret hx hb hrt hlocks hS hG (by unfold fX2_changeNumber_v; rw [if_pos c_1, if_pos c_16, if_pos c_17, if_pos c_24, if_neg c_25, if_pos c_26, if_pos c_27]) (congrArg (va_up M r) (by unfold fX2_changeNumber_P; rw [if_pos c_1, if_pos c_16, if_pos c_17, if_pos c_24, if_neg c_25, if_pos c_26, if_pos c_27])) dX2_changeNumber_104
              · --F
                refine lv_aload_n hx hb dX2_changeNumber_94 rfl (lv_at hl 1 rfl) ?_
                refine lv_iload_n hx hb dX2_changeNumber_95 rfl (lv_at hl 3 rfl) ?_
                refine gRd_put hx hb hts in_X2 hown hK hG hS hV.1 hV.c0 8 (by decide) k_3 (fun _ h => h) rfl .int (by decide +kernel) rfl rfl (j := 8) rfl dX2_changeNumber_96 (fun H locs hG hS => ?_)
                refine lv_goto (tgt := 105) hx hb dX2_changeNumber_99 (by decide) ?_
                refine lv_iload_n hx hb dX2_changeNumber_105 rfl (lv_at hl 0 rfl) ?_
                exact g_iret hx hb hrt hlocks hS hG (by unfold fX2_changeNumber_v; rw [if_pos c_1, if_pos c_16, if_pos c_17, if_pos c_24, if_neg c_25, if_pos c_26, if_neg c_27]) (congrArg (va_up M r) (by unfold fX2_changeNumber_P; rw [if_pos c_1, if_pos c_16, if_pos c_17, if_pos c_24, if_neg c_25, if_pos c_26, if_neg c_27])) dX2_changeNumber_106
          · --F
            refine lv_iload_n hx hb dX2_changeNumber_59 rfl (lv_at hl 3 rfl) ?_
            refine lv_iconst (v := 1) hx hb dX2_changeNumber_60 (by decide) ?_
            refine lv_sipush (v := 200) hx hb dX2_changeNumber_61 (by decide) ?_
            refine g_callSN (As := [.int b, .int 1, .int 200]) (rest := []) (st1 := [.int (fX6_within_v b 1 200)]) hF (mX6_within _ R O b 1 200) ⟨va_cnB 3 hts gX2_changeNumber_X6_within_n103 rfl rfl rfl hK.2.2.2.2.2.2 k_1 (by decide +kernel) ⟨Nat.le_of_ble_eq_true rfl, Nat.le_of_ble_eq_true rfl⟩, k_2, trivial⟩ hK hZ hG hS rfl hl.1 (Nat.le_of_ble_eq_true rfl) dX2_changeNumber_64 ⟨Nat.zero_le _, Nat.zero_le _⟩ rfl rfl (fun H locs hG hS => ?_)
            refine lv_if_eq (tgt := 78) hx hb dX2_changeNumber_67 (by decide) (fun c_28 => ?_) (fun c_28 => ?_)
            · --T
              refine lv_iload_n hx hb dX2_changeNumber_78 rfl (lv_at hl 2 rfl) ?_
              refine lv_bipush (v := 8) hx hb dX2_changeNumber_79 (by decide) ?_
              refine lv_icmp_ne (tgt := 102) hx hb dX2_changeNumber_81 (by decide) (fun c_29 => ?_) (fun c_29 => ?_)
              · --T
                refine lv_bipush (v := (-2)) hx hb dX2_changeNumber_102 (by decide) ?_
                exact g_iret hx hb hrt hlocks hS hG (by unfold fX2_changeNumber_v; rw [if_pos c_1, if_pos c_16, if_pos c_17, if_pos c_24, if_pos c_25, if_pos c_28, if_neg c_29]) (congrArg (va_up M r) (by unfold fX2_changeNumber_P; rw [if_pos c_1, if_pos c_16, if_pos c_17, if_pos c_24, if_pos c_25, if_pos c_28, if_neg c_29])) dX2_changeNumber_104
              · --F
                refine lv_iload_n hx hb dX2_changeNumber_84 rfl (lv_at hl 3 rfl) ?_
                refine lv_iconst (v := 0) hx hb dX2_changeNumber_85 (by decide) ?_
                refine lv_bipush (v := 99) hx hb dX2_changeNumber_86 (by decide) ?_
                refine g_callSN (As := [.int b, .int 0, .int 99]) (rest := []) (st1 := [.int (fX6_within_v b 0 99)]) hF (mX6_within _ R O b 0 99) ⟨va_cnB 3 hts gX2_changeNumber_X6_within_n103 rfl rfl rfl hK.2.2.2.2.2.2 k_1 (by decide +kernel) ⟨Nat.le_of_ble_eq_true rfl, Nat.le_of_ble_eq_true rfl⟩, k_2, trivial⟩ hK hZ hG hS rfl hl.1 (Nat.le_of_ble_eq_true rfl) dX2_changeNumber_88 ⟨Nat.zero_le _, Nat.zero_le _⟩ rfl rfl (fun H locs hG hS => ?_)
                refine lv_if_eq (tgt := 102) hx hb dX2_changeNumber_91 (by decide) (fun c_30 => ?_) (fun c_30 => ?_)
                · --T
                  refine lv_bipush (v := (-2)) hx hb dX2_changeNumber_102 (by decide) ?_
                  exact g_iret hx hb hrt hlocks hS hG (by unfold fX2_changeNumber_v; rw [if_pos c_1, if_pos c_16, if_pos c_17, if_pos c_24, if_pos c_25, if_pos c_28, if_pos c_29, if_pos c_30]) (congrArg (va_up M r) (by unfold fX2_changeNumber_P; rw [if_pos c_1, if_pos c_16, if_pos c_17, if_pos c_24, if_pos c_25, if_pos c_28, if_pos c_29, if_pos c_30])) dX2_changeNumber_104
                · --F
                  refine lv_aload_n hx hb dX2_changeNumber_94 rfl (lv_at hl 1 rfl) ?_
                  refine lv_iload_n hx hb dX2_changeNumber_95 rfl (lv_at hl 3 rfl) ?_
                  refine gRd_put hx hb hts in_X2 hown hK hG hS hV.1 hV.c0 8 (by decide) k_3 (fun _ h => h) rfl .int (by decide +kernel) rfl rfl (j := 8) rfl dX2_changeNumber_96 (fun H locs hG hS => ?_)
                  refine lv_goto (tgt := 105) hx hb dX2_changeNumber_99 (by decide) ?_
                  refine lv_iload_n hx hb dX2_changeNumber_105 rfl (lv_at hl 0 rfl) ?_
                  exact g_iret hx hb hrt hlocks hS hG (by unfold fX2_changeNumber_v; rw [if_pos c_1, if_pos c_16, if_pos c_17, if_pos c_24, if_pos c_25, if_pos c_28, if_pos c_29, if_neg c_30]) (congrArg (va_up M r) (by unfold fX2_changeNumber_P; rw [if_pos c_1, if_pos c_16, if_pos c_17, if_pos c_24, if_pos c_25, if_pos c_28, if_pos c_29, if_neg c_30])) dX2_changeNumber_106
            · --F
              refine lv_aload_n hx hb dX2_changeNumber_70 rfl (lv_at hl 1 rfl) ?_
              refine lv_iload_n hx hb dX2_changeNumber_71 rfl (lv_at hl 3 rfl) ?_
              refine gRd_put hx hb hts in_X2 hown hK hG hS hV.1 hV.c0 7 (by decide) k_5 (fun _ h => h) rfl .int (by decide +kernel) rfl rfl (j := 7) rfl dX2_changeNumber_72 (fun H locs hG hS => ?_)
              refine lv_goto (tgt := 105) hx hb dX2_changeNumber_75 (by decide) ?_
              refine lv_iload_n hx hb dX2_changeNumber_105 rfl (lv_at hl 0 rfl) ?_
              exact g_iret hx hb hrt hlocks hS hG (by unfold fX2_changeNumber_v; rw [if_pos c_1, if_pos c_16, if_pos c_17, if_pos c_24, if_pos c_25, if_neg c_28]) (congrArg (va_up M r) (by unfold fX2_changeNumber_P; rw [if_pos c_1, if_pos c_16, if_pos c_17, if_pos c_24, if_pos c_25, if_neg c_28])) dX2_changeNumber_106
        · --F
          refine lv_aload_n hx hb dX2_changeNumber_45 rfl (lv_at hl 1 rfl) ?_
          refine lv_iload_n hx hb dX2_changeNumber_46 rfl (lv_at hl 3 rfl) ?_
          refine gRd_put hx hb hts in_X2 hown hK hG hS hV.1 hV.c0 6 (by decide) k_6 (fun _ h => h) rfl .int (by decide +kernel) rfl rfl (j := 6) rfl dX2_changeNumber_47 (fun H locs hG hS => ?_)
          refine lv_goto (tgt := 105) hx hb dX2_changeNumber_50 (by decide) ?_
          refine lv_iload_n hx hb dX2_changeNumber_105 rfl (lv_at hl 0 rfl) ?_
          exact g_iret hx hb hrt hlocks hS hG (by unfold fX2_changeNumber_v; rw [if_pos c_1, if_pos c_16, if_pos c_17, if_neg c_24]) (congrArg (va_up M r) (by unfold fX2_changeNumber_P; rw [if_pos c_1, if_pos c_16, if_pos c_17, if_neg c_24])) dX2_changeNumber_106
    · --F
      refine lv_aload_n hx hb dX2_changeNumber_21 rfl (lv_at hl 1 rfl) ?_
      refine lv_iload_n hx hb dX2_changeNumber_22 rfl (lv_at hl 3 rfl) ?_
      refine gRd_put hx hb hts in_X2 hown hK hG hS hV.1 hV.c0 5 (by decide) k_7 (fun _ h => h) rfl .int (by decide +kernel) rfl rfl (j := 5) rfl dX2_changeNumber_23 (fun H locs hG hS => ?_)
      refine lv_goto (tgt := 105) hx hb dX2_changeNumber_26 (by decide) ?_
      refine lv_iload_n hx hb dX2_changeNumber_105 rfl (lv_at hl 0 rfl) ?_
      exact g_iret hx hb hrt hlocks hS hG (by unfold fX2_changeNumber_v; rw [if_pos c_1, if_neg c_16]) (congrArg (va_up M r) (by unfold fX2_changeNumber_P; rw [if_pos c_1, if_neg c_16])) dX2_changeNumber_106

def fX2_moveWagon_v (P : Nat → Int32) (a b : Int32) : Int32 := if okI a (P 2) 3 then if okI b (P 0) 10 then if (fX5_wayTo_v P a.toNatClampNeg b) ≤ (P (122 + 3 * a.toNatClampNeg + 2)) then (upd (upd P (122 + 3 * a.toNatClampNeg + 2) ((P (122 + 3 * a.toNatClampNeg + 2)) - (fX5_wayTo_v P a.toNatClampNeg b))) (122 + 3 * a.toNatClampNeg) b) (122 + 3 * a.toNatClampNeg + 2) else (-3) else (-1) else (-1)
def fX2_moveWagon_P (P : Nat → Int32) (a b : Int32) : Nat → Int32 := if okI a (P 2) 3 then if okI b (P 0) 10 then if (fX5_wayTo_v P a.toNatClampNeg b) ≤ (P (122 + 3 * a.toNatClampNeg + 2)) then upd (upd P (122 + 3 * a.toNatClampNeg + 2) ((P (122 + 3 * a.toNatClampNeg + 2)) - (fX5_wayTo_v P a.toNatClampNeg b))) (122 + 3 * a.toNatClampNeg) b else P else P else P
set_option maxHeartbeats 4000000 in
set_option maxRecDepth 100000 in
theorem mX2_moveWagon {l : Launch} {Γ : gX} (M : Nat → Nat → Int32) (R : Nat → Nat → Option Nat) (O : Int64) {r : Nat} (hV : LV Γ R r) (P : Nat → Int32) (a b : Int32) : gMet l Γ yX2_moveWagon wsX2_moveWagon 2 42 [.ref (gad Γ (25 * r)), .int a, .int b] (va_up M r P) R O (some (.int (fX2_moveWagon_v P a b))) (va_up M r (fX2_moveWagon_P P a b)) R O := by
  refine g_start (cc := cX2_moveWagon) (maxL := 5) (ret := (some .int)) (by decide) rfl (Nat.le_of_ble_eq_true rfl) ?_
  intro p e s m below meth c ls hx hb hml hrt hts hown hlocks hname hK hZ hG hS hl
  have hl : lv_has ls 5 [(0, .ref (gad Γ (25 * r))), (1, .int a), (2, .int b)] := hl
  have hown : s.vm.findClass RX2 = some m.cls := hown
  have hF : CallFix p m c cX2_moveWagon 5 s _ wsX2_moveWagon RX2 := ⟨hx, hb, hml, hown, hts⟩
  have k_1 : (Cond.fieldLink RX2 131 "RoadDust$Wagon" "moves" "I").before _ s = true := hts _ (by decide +kernel)
  have in_X5 : ∀ w ∈ wsX50, w ∈ wsX2_moveWagon := by decide +kernel
  have k_3 : (Cond.fieldLink RX2 134 "RoadDust$Wagon" "segment" "I").before _ s = true := hts _ (by decide +kernel)
  refine lv_aload_n hx hb dX2_moveWagon_0 rfl (lv_at hl 0 rfl) ?_
  refine lv_iload_n hx hb dX2_moveWagon_1 rfl (lv_at hl 1 rfl) ?_
  by_cases c_1 : okI a (P 2) 3
  · --ok
    refine g_callV (As := [.int a]) (rest := []) (st1 := [.ref (gad Γ (25 * r + 22 + a.toNatClampNeg))]) hF (mX2_wagonAt_y M R O hV P c_1 (j := a.toNatClampNeg) rfl) (cwV 1 hts gX2_moveWagon_X2_wagonAt rfl rfl rfl (by decide +kernel) ⟨Nat.le_of_ble_eq_true rfl, Nat.le_of_ble_eq_true rfl⟩) hK hZ hG hS hV.c0 (gC_Rd hV.1) (by decide) rfl rfl hl.1 (Nat.le_of_ble_eq_true rfl) dX2_moveWagon_2 ⟨Nat.zero_le _, Nat.zero_le _⟩ rfl rfl (fun H locs hG hS => ?_)
    refine lv_astore_n (lv' := [(3, .ref (gad Γ (25 * r + 22 + a.toNatClampNeg))), (0, .ref (gad Γ (25 * r))), (1, .int a), (2, .int b)]) hx hb dX2_moveWagon_5 rfl hl (by decide) rfl (fun ls hl => ?_)
    refine lv_aload_n hx hb dX2_moveWagon_6 rfl (lv_at hl 0 rfl) ?_
    refine lv_ifnull hx hb dX2_moveWagon_7 ?_
    refine lv_aload_n hx hb dX2_moveWagon_10 rfl (lv_at hl 1 rfl) ?_
    refine lv_iload_n hx hb dX2_moveWagon_11 rfl (lv_at hl 3 rfl) ?_
    by_cases c_2 : okI b (P 0) 10
    · --ok
      refine g_callV (As := [.int b]) (rest := []) (st1 := [.ref (gad Γ (25 * r + 4 + b.toNatClampNeg))]) hF (mX2_segmentAt_y M R O hV P c_2 (j := b.toNatClampNeg) rfl) (cwV 1 hts gX2_moveWagon_X2_segmentAt rfl rfl rfl (by decide +kernel) ⟨Nat.le_of_ble_eq_true rfl, Nat.le_of_ble_eq_true rfl⟩) hK hZ hG hS hV.c0 (gC_Rd hV.1) (by decide) rfl rfl hl.1 (Nat.le_of_ble_eq_true rfl) dX2_moveWagon_12 ⟨Nat.zero_le _, Nat.zero_le _⟩ rfl rfl (fun H locs hG hS => ?_)
      refine lv_ifnonnull (tgt := 20) hx hb dX2_moveWagon_15 (by decide) ?_
      refine lv_aload_n hx hb dX2_moveWagon_20 rfl (lv_at hl 0 rfl) ?_
      refine lv_iload_n hx hb dX2_moveWagon_21 rfl (lv_at hl 3 rfl) ?_
      refine g_callV (As := [.int b]) (rest := []) (st1 := [.int (fX5_wayTo_v P a.toNatClampNeg b)]) hF (mX5_wayTo M R O hV.1 (okI_lt (k := 3) rfl (by decide) c_1) (hV.wag (i := a.toNatClampNeg) (okI_lt (k := 3) rfl (by decide) c_1)) P b) (cwV 1 hts gX2_moveWagon_X5_wayTo rfl rfl rfl (by decide +kernel) ⟨Nat.le_of_ble_eq_true rfl, Nat.le_of_ble_eq_true rfl⟩) hK hZ hG hS (hV.wag (i := a.toNatClampNeg) (okI_lt (k := 3) rfl (by decide) c_1)) (gC_Wg hV.1 (okI_lt (k := 3) rfl (by decide) c_1)) (by decide) rfl rfl hl.1 (Nat.le_of_ble_eq_true rfl) dX2_moveWagon_22 ⟨Nat.zero_le _, Nat.zero_le _⟩ rfl rfl (fun H locs hG hS => ?_)
      refine lv_istore (lv' := [(4, .int (fX5_wayTo_v P a.toNatClampNeg b)), (3, .ref (gad Γ (25 * r + 22 + a.toNatClampNeg))), (0, .ref (gad Γ (25 * r))), (1, .int a), (2, .int b)]) hx hb dX2_moveWagon_25 hl (by decide) rfl (fun ls hl => ?_)
      refine lv_iload hx hb dX2_moveWagon_27 (lv_at hl 0 rfl) ?_
      refine lv_aload_n hx hb dX2_moveWagon_29 rfl (lv_at hl 1 rfl) ?_
      refine gWg_get hx hb hts in_X5 hown hK hG hV.1 (okI_lt (k := 3) rfl (by decide) c_1) (hV.wag (i := a.toNatClampNeg) (okI_lt (k := 3) rfl (by decide) c_1)) 2 (by decide) k_1 (fun _ h => h) (j := 122 + 3 * a.toNatClampNeg + 2) rfl dX2_moveWagon_30 ?_
      refine lv_icmp_le (tgt := 39) hx hb dX2_moveWagon_33 (by decide) (fun c_3 => ?_) (fun c_3 => ?_)
      · --T
        refine lv_aload_n hx hb dX2_moveWagon_39 rfl (lv_at hl 1 rfl) ?_
        refine lv_dup hx hb dX2_moveWagon_40 rfl ?_
        refine gWg_get hx hb hts in_X5 hown hK hG hV.1 (okI_lt (k := 3) rfl (by decide) c_1) (hV.wag (i := a.toNatClampNeg) (okI_lt (k := 3) rfl (by decide) c_1)) 2 (by decide) k_1 (fun _ h => h) (j := 122 + 3 * a.toNatClampNeg + 2) rfl dX2_moveWagon_41 ?_
        refine lv_iload hx hb dX2_moveWagon_44 (lv_at hl 0 rfl) ?_
        refine lv_isub hx hb dX2_moveWagon_46 ?_
        refine gWg_put hx hb hts in_X5 hown hK hG hS hV.1 (okI_lt (k := 3) rfl (by decide) c_1) (hV.wag (i := a.toNatClampNeg) (okI_lt (k := 3) rfl (by decide) c_1)) 2 (by decide) k_1 (fun _ h => h) rfl .int (by decide +kernel) rfl rfl (j := 122 + 3 * a.toNatClampNeg + 2) rfl dX2_moveWagon_47 (fun H locs hG hS => ?_)
        refine lv_aload_n hx hb dX2_moveWagon_50 rfl (lv_at hl 1 rfl) ?_
        refine lv_iload_n hx hb dX2_moveWagon_51 rfl (lv_at hl 4 rfl) ?_
        refine gWg_put hx hb hts in_X5 hown hK hG hS hV.1 (okI_lt (k := 3) rfl (by decide) c_1) (hV.wag (i := a.toNatClampNeg) (okI_lt (k := 3) rfl (by decide) c_1)) 0 (by decide) k_3 (fun _ h => h) rfl .int (by decide +kernel) rfl rfl (j := 122 + 3 * a.toNatClampNeg) rfl dX2_moveWagon_52 (fun H locs hG hS => ?_)
        refine lv_aload_n hx hb dX2_moveWagon_55 rfl (lv_at hl 1 rfl) ?_
        refine gWg_get hx hb hts in_X5 hown hK hG hV.1 (okI_lt (k := 3) rfl (by decide) c_1) (hV.wag (i := a.toNatClampNeg) (okI_lt (k := 3) rfl (by decide) c_1)) 2 (by decide) k_1 (fun _ h => h) (j := 122 + 3 * a.toNatClampNeg + 2) rfl dX2_moveWagon_56 ?_
        exact g_iret hx hb hrt hlocks hS hG (by unfold fX2_moveWagon_v; rw [if_pos c_1, if_pos c_2, if_pos c_3]) (congrArg (va_up M r) (by unfold fX2_moveWagon_P; rw [if_pos c_1, if_pos c_2, if_pos c_3])) dX2_moveWagon_59
      · --F
        refine lv_bipush (v := (-3)) hx hb dX2_moveWagon_36 (by decide) ?_
        exact g_iret hx hb hrt hlocks hS hG (by unfold fX2_moveWagon_v; rw [if_pos c_1, if_pos c_2, if_neg c_3]) (congrArg (va_up M r) (by unfold fX2_moveWagon_P; rw [if_pos c_1, if_pos c_2, if_neg c_3])) dX2_moveWagon_38
    · --none
      refine g_callV (As := [.int b]) (rest := []) (st1 := [.null]) hF (mX2_segmentAt_n M R O hV P c_2) (cwV 1 hts gX2_moveWagon_X2_segmentAt rfl rfl rfl (by decide +kernel) ⟨Nat.le_of_ble_eq_true rfl, Nat.le_of_ble_eq_true rfl⟩) hK hZ hG hS hV.c0 (gC_Rd hV.1) (by decide) rfl rfl hl.1 (Nat.le_of_ble_eq_true rfl) dX2_moveWagon_12 ⟨Nat.zero_le _, Nat.zero_le _⟩ rfl rfl (fun H locs hG hS => ?_)
      refine lv_ifnonnullN hx hb dX2_moveWagon_15 ?_
      refine lv_iconst (v := (-1)) hx hb dX2_moveWagon_18 (by decide) ?_
      exact g_iret hx hb hrt hlocks hS hG (by unfold fX2_moveWagon_v; rw [if_pos c_1, if_neg c_2]) (congrArg (va_up M r) (by unfold fX2_moveWagon_P; rw [if_pos c_1, if_neg c_2])) dX2_moveWagon_19
  · --none
    refine g_callV (As := [.int a]) (rest := []) (st1 := [.null]) hF (mX2_wagonAt_n M R O hV P c_1) (cwV 1 hts gX2_moveWagon_X2_wagonAt rfl rfl rfl (by decide +kernel) ⟨Nat.le_of_ble_eq_true rfl, Nat.le_of_ble_eq_true rfl⟩) hK hZ hG hS hV.c0 (gC_Rd hV.1) (by decide) rfl rfl hl.1 (Nat.le_of_ble_eq_true rfl) dX2_moveWagon_2 ⟨Nat.zero_le _, Nat.zero_le _⟩ rfl rfl (fun H locs hG hS => ?_)
    refine lv_astore_nN (lv' := [(3, .null), (0, .ref (gad Γ (25 * r))), (1, .int a), (2, .int b)]) hx hb dX2_moveWagon_5 rfl hl (by decide) rfl (fun ls hl => ?_)
    refine lv_aload_nN hx hb dX2_moveWagon_6 rfl (lv_at hl 0 rfl) ?_
    refine lv_ifnullN (tgt := 18) hx hb dX2_moveWagon_7 (by decide) ?_
    refine lv_iconst (v := (-1)) hx hb dX2_moveWagon_18 (by decide) ?_
    exact g_iret hx hb hrt hlocks hS hG (by unfold fX2_moveWagon_v; rw [if_neg c_1]) (congrArg (va_up M r) (by unfold fX2_moveWagon_P; rw [if_neg c_1])) dX2_moveWagon_19

def fX2_sprayFrom_v (P : Nat → Int32) (a b : Int32) : Int32 := if okI a (P 2) 3 then if okI (P (122 + 3 * a.toNatClampNeg)) (P 0) 10 then if (fX6_within_v b 1 9) = 0 then (-2) else if (fX5_couldSpray_v P a.toNatClampNeg (P (122 + 3 * a.toNatClampNeg)) b) = 0 then (-3) else (fX3_wet_P (upd (upd (upd P (122 + 3 * a.toNatClampNeg + 2) ((P (122 + 3 * a.toNatClampNeg + 2)) - 1)) (122 + 3 * a.toNatClampNeg + 1) (((upd P (122 + 3 * a.toNatClampNeg + 2) ((P (122 + 3 * a.toNatClampNeg + 2)) - 1)) (122 + 3 * a.toNatClampNeg + 1)) - b)) 11 (((upd (upd P (122 + 3 * a.toNatClampNeg + 2) ((P (122 + 3 * a.toNatClampNeg + 2)) - 1)) (122 + 3 * a.toNatClampNeg + 1) (((upd P (122 + 3 * a.toNatClampNeg + 2) ((P (122 + 3 * a.toNatClampNeg + 2)) - 1)) (122 + 3 * a.toNatClampNeg + 1)) - b)) 11) + b)) ((P (122 + 3 * a.toNatClampNeg)).toNatClampNeg) b) (12 + 7 * ((P (122 + 3 * a.toNatClampNeg)).toNatClampNeg) + 4) else (-1) else (-1)
def fX2_sprayFrom_P (P : Nat → Int32) (a b : Int32) : Nat → Int32 := if okI a (P 2) 3 then if okI (P (122 + 3 * a.toNatClampNeg)) (P 0) 10 then if (fX6_within_v b 1 9) = 0 then P else if (fX5_couldSpray_v P a.toNatClampNeg (P (122 + 3 * a.toNatClampNeg)) b) = 0 then P else fX3_wet_P (upd (upd (upd P (122 + 3 * a.toNatClampNeg + 2) ((P (122 + 3 * a.toNatClampNeg + 2)) - 1)) (122 + 3 * a.toNatClampNeg + 1) (((upd P (122 + 3 * a.toNatClampNeg + 2) ((P (122 + 3 * a.toNatClampNeg + 2)) - 1)) (122 + 3 * a.toNatClampNeg + 1)) - b)) 11 (((upd (upd P (122 + 3 * a.toNatClampNeg + 2) ((P (122 + 3 * a.toNatClampNeg + 2)) - 1)) (122 + 3 * a.toNatClampNeg + 1) (((upd P (122 + 3 * a.toNatClampNeg + 2) ((P (122 + 3 * a.toNatClampNeg + 2)) - 1)) (122 + 3 * a.toNatClampNeg + 1)) - b)) 11) + b)) ((P (122 + 3 * a.toNatClampNeg)).toNatClampNeg) b else P else P
set_option maxHeartbeats 4000000 in
set_option maxRecDepth 100000 in
theorem mX2_sprayFrom {l : Launch} {Γ : gX} (M : Nat → Nat → Int32) (R : Nat → Nat → Option Nat) (O : Int64) {r : Nat} (hV : LV Γ R r) (P : Nat → Int32) (a b : Int32) : gMet l Γ yX2_sprayFrom wsX2_sprayFrom 3 64 [.ref (gad Γ (25 * r)), .int a, .int b] (va_up M r P) R O (some (.int (fX2_sprayFrom_v P a b))) (va_up M r (fX2_sprayFrom_P P a b)) R O := by
  refine g_start (cc := cX2_sprayFrom) (maxL := 5) (ret := (some .int)) (by decide) rfl (Nat.le_of_ble_eq_true rfl) ?_
  intro p e s m below meth c ls hx hb hml hrt hts hown hlocks hname hK hZ hG hS hl
  have hl : lv_has ls 5 [(0, .ref (gad Γ (25 * r))), (1, .int a), (2, .int b)] := hl
  have hown : s.vm.findClass RX2 = some m.cls := hown
  have hF : CallFix p m c cX2_sprayFrom 5 s _ wsX2_sprayFrom RX2 := ⟨hx, hb, hml, hown, hts⟩
  have k_1 : (Cond.fieldLink RX2 134 "RoadDust$Wagon" "segment" "I").before _ s = true := hts _ (by decide +kernel)
  have in_X5 : ∀ w ∈ wsX50, w ∈ wsX2_sprayFrom := by decide +kernel
  have k_3 : (Cond.initialized RX6).before _ s = true := hts _ (by decide +kernel)
  have k_4 : (Cond.static yX6_within).before _ s = true := hts _ (by decide +kernel)
  have k_5 : (Cond.fieldLink RX2 131 "RoadDust$Wagon" "moves" "I").before _ s = true := hts _ (by decide +kernel)
  have k_6 : (Cond.fieldLink RX2 141 "RoadDust$Wagon" "liters" "I").before _ s = true := hts _ (by decide +kernel)
  have k_7 : (Cond.fieldLink RX2 69 "RoadDust$Road" "sprayed" "I").before _ s = true := hts _ (by decide +kernel)
  have in_X2 : ∀ w ∈ wsX20, w ∈ wsX2_sprayFrom := by decide +kernel
  have k_9 : (Cond.fieldLink RX2 147 "RoadDust$Segment" "water" "I").before _ s = true := hts _ (by decide +kernel)
  have in_X3 : ∀ w ∈ wsX30, w ∈ wsX2_sprayFrom := by decide +kernel
  refine lv_aload_n hx hb dX2_sprayFrom_0 rfl (lv_at hl 0 rfl) ?_
  refine lv_iload_n hx hb dX2_sprayFrom_1 rfl (lv_at hl 1 rfl) ?_
  by_cases c_1 : okI a (P 2) 3
  · --ok
    refine g_callV (As := [.int a]) (rest := []) (st1 := [.ref (gad Γ (25 * r + 22 + a.toNatClampNeg))]) hF (mX2_wagonAt_y M R O hV P c_1 (j := a.toNatClampNeg) rfl) (cwV 1 hts gX2_sprayFrom_X2_wagonAt rfl rfl rfl (by decide +kernel) ⟨Nat.le_of_ble_eq_true rfl, Nat.le_of_ble_eq_true rfl⟩) hK hZ hG hS hV.c0 (gC_Rd hV.1) (by decide) rfl rfl hl.1 (Nat.le_of_ble_eq_true rfl) dX2_sprayFrom_2 ⟨Nat.zero_le _, Nat.zero_le _⟩ rfl rfl (fun H locs hG hS => ?_)
    refine lv_astore_n (lv' := [(3, .ref (gad Γ (25 * r + 22 + a.toNatClampNeg))), (0, .ref (gad Γ (25 * r))), (1, .int a), (2, .int b)]) hx hb dX2_sprayFrom_5 rfl hl (by decide) rfl (fun ls hl => ?_)
    refine lv_aload_n hx hb dX2_sprayFrom_6 rfl (lv_at hl 0 rfl) ?_
    refine lv_ifnonnull (tgt := 14) hx hb dX2_sprayFrom_7 (by decide) ?_
    refine lv_aload_n hx hb dX2_sprayFrom_14 rfl (lv_at hl 1 rfl) ?_
    refine lv_aload_n hx hb dX2_sprayFrom_15 rfl (lv_at hl 0 rfl) ?_
    refine gWg_get hx hb hts in_X5 hown hK hG hV.1 (okI_lt (k := 3) rfl (by decide) c_1) (hV.wag (i := a.toNatClampNeg) (okI_lt (k := 3) rfl (by decide) c_1)) 0 (by decide) k_1 (fun _ h => h) (j := 122 + 3 * a.toNatClampNeg) rfl dX2_sprayFrom_16 ?_
    by_cases c_2 : okI (P (122 + 3 * a.toNatClampNeg)) (P 0) 10
    · --ok
      refine g_callV (As := [.int (P (122 + 3 * a.toNatClampNeg))]) (rest := []) (st1 := [.ref (gad Γ (25 * r + 4 + ((P (122 + 3 * a.toNatClampNeg)).toNatClampNeg)))]) hF (mX2_segmentAt_y M R O hV P c_2 (j := (P (122 + 3 * a.toNatClampNeg)).toNatClampNeg) rfl) (cwV 1 hts gX2_sprayFrom_X2_segmentAt rfl rfl rfl (by decide +kernel) ⟨Nat.le_of_ble_eq_true rfl, Nat.le_of_ble_eq_true rfl⟩) hK hZ hG hS hV.c0 (gC_Rd hV.1) (by decide) rfl rfl hl.1 (Nat.le_of_ble_eq_true rfl) dX2_sprayFrom_19 ⟨Nat.zero_le _, Nat.zero_le _⟩ rfl rfl (fun H locs hG hS => ?_)
      refine lv_astore (lv' := [(4, .ref (gad Γ (25 * r + 4 + ((P (122 + 3 * a.toNatClampNeg)).toNatClampNeg)))), (3, .ref (gad Γ (25 * r + 22 + a.toNatClampNeg))), (0, .ref (gad Γ (25 * r))), (1, .int a), (2, .int b)]) hx hb dX2_sprayFrom_22 hl (by decide) rfl (fun ls hl => ?_)
      refine lv_aload_n hx hb dX2_sprayFrom_24 rfl (lv_at hl 1 rfl) ?_
      refine lv_ifnull hx hb dX2_sprayFrom_25 ?_
      refine lv_aload hx hb dX2_sprayFrom_28 (lv_at hl 0 rfl) ?_
      refine lv_ifnonnull (tgt := 35) hx hb dX2_sprayFrom_30 (by decide) ?_
      refine lv_iload_n hx hb dX2_sprayFrom_35 rfl (lv_at hl 4 rfl) ?_
      refine lv_iconst (v := 1) hx hb dX2_sprayFrom_36 (by decide) ?_
      refine lv_bipush (v := 9) hx hb dX2_sprayFrom_37 (by decide) ?_
      refine g_callSN (As := [.int b, .int 1, .int 9]) (rest := []) (st1 := [.int (fX6_within_v b 1 9)]) hF (mX6_within _ R O b 1 9) ⟨va_cnB 3 hts gX2_sprayFrom_X6_within_n103 rfl rfl rfl hK.2.2.2.2.2.2 k_3 (by decide +kernel) ⟨Nat.le_of_ble_eq_true rfl, Nat.le_of_ble_eq_true rfl⟩, k_4, trivial⟩ hK hZ hG hS rfl hl.1 (Nat.le_of_ble_eq_true rfl) dX2_sprayFrom_39 ⟨Nat.zero_le _, Nat.zero_le _⟩ rfl rfl (fun H locs hG hS => ?_)
      refine lv_if_ne (tgt := 48) hx hb dX2_sprayFrom_42 (by decide) (fun c_3 => ?_) (fun c_3 => ?_)
      · --T
        refine lv_aload_n hx hb dX2_sprayFrom_48 rfl (lv_at hl 1 rfl) ?_
        refine lv_aload_n hx hb dX2_sprayFrom_49 rfl (lv_at hl 1 rfl) ?_
        refine gWg_get hx hb hts in_X5 hown hK hG hV.1 (okI_lt (k := 3) rfl (by decide) c_1) (hV.wag (i := a.toNatClampNeg) (okI_lt (k := 3) rfl (by decide) c_1)) 0 (by decide) k_1 (fun _ h => h) (j := 122 + 3 * a.toNatClampNeg) rfl dX2_sprayFrom_50 ?_
        refine lv_iload_n hx hb dX2_sprayFrom_53 rfl (lv_at hl 4 rfl) ?_
        refine g_callV (As := [.int (P (122 + 3 * a.toNatClampNeg)), .int b]) (rest := []) (st1 := [.int (fX5_couldSpray_v P a.toNatClampNeg (P (122 + 3 * a.toNatClampNeg)) b)]) hF (mX5_couldSpray M R O hV.1 (okI_lt (k := 3) rfl (by decide) c_1) (hV.wag (i := a.toNatClampNeg) (okI_lt (k := 3) rfl (by decide) c_1)) P (P (122 + 3 * a.toNatClampNeg)) b) (cwV 2 hts gX2_sprayFrom_X5_couldSpray rfl rfl rfl (by decide +kernel) ⟨Nat.le_of_ble_eq_true rfl, Nat.le_of_ble_eq_true rfl⟩) hK hZ hG hS (hV.wag (i := a.toNatClampNeg) (okI_lt (k := 3) rfl (by decide) c_1)) (gC_Wg hV.1 (okI_lt (k := 3) rfl (by decide) c_1)) (by decide) rfl rfl hl.1 (Nat.le_of_ble_eq_true rfl) dX2_sprayFrom_54 ⟨Nat.zero_le _, Nat.zero_le _⟩ rfl rfl (fun H locs hG hS => ?_)
        refine lv_if_ne (tgt := 63) hx hb dX2_sprayFrom_57 (by decide) (fun c_4 => ?_) (fun c_4 => ?_)
        · --T
          refine lv_aload_n hx hb dX2_sprayFrom_63 rfl (lv_at hl 1 rfl) ?_
          refine lv_dup hx hb dX2_sprayFrom_64 rfl ?_
          refine gWg_get hx hb hts in_X5 hown hK hG hV.1 (okI_lt (k := 3) rfl (by decide) c_1) (hV.wag (i := a.toNatClampNeg) (okI_lt (k := 3) rfl (by decide) c_1)) 2 (by decide) k_5 (fun _ h => h) (j := 122 + 3 * a.toNatClampNeg + 2) rfl dX2_sprayFrom_65 ?_
          refine lv_iconst (v := 1) hx hb dX2_sprayFrom_68 (by decide) ?_
          refine lv_isub hx hb dX2_sprayFrom_69 ?_
          refine gWg_put hx hb hts in_X5 hown hK hG hS hV.1 (okI_lt (k := 3) rfl (by decide) c_1) (hV.wag (i := a.toNatClampNeg) (okI_lt (k := 3) rfl (by decide) c_1)) 2 (by decide) k_5 (fun _ h => h) rfl .int (by decide +kernel) rfl rfl (j := 122 + 3 * a.toNatClampNeg + 2) rfl dX2_sprayFrom_70 (fun H locs hG hS => ?_)
          refine lv_aload_n hx hb dX2_sprayFrom_73 rfl (lv_at hl 1 rfl) ?_
          refine lv_dup hx hb dX2_sprayFrom_74 rfl ?_
          refine gWg_get hx hb hts in_X5 hown hK hG hV.1 (okI_lt (k := 3) rfl (by decide) c_1) (hV.wag (i := a.toNatClampNeg) (okI_lt (k := 3) rfl (by decide) c_1)) 1 (by decide) k_6 (fun _ h => h) (j := 122 + 3 * a.toNatClampNeg + 1) rfl dX2_sprayFrom_75 ?_
          refine lv_iload_n hx hb dX2_sprayFrom_78 rfl (lv_at hl 4 rfl) ?_
          refine lv_isub hx hb dX2_sprayFrom_79 ?_
          refine gWg_put hx hb hts in_X5 hown hK hG hS hV.1 (okI_lt (k := 3) rfl (by decide) c_1) (hV.wag (i := a.toNatClampNeg) (okI_lt (k := 3) rfl (by decide) c_1)) 1 (by decide) k_6 (fun _ h => h) rfl .int (by decide +kernel) rfl rfl (j := 122 + 3 * a.toNatClampNeg + 1) rfl dX2_sprayFrom_80 (fun H locs hG hS => ?_)
          refine lv_aload_n hx hb dX2_sprayFrom_83 rfl (lv_at hl 2 rfl) ?_
          refine lv_dup hx hb dX2_sprayFrom_84 rfl ?_
          refine gRd_get hx hb hts in_X2 hown hK hG hV.1 hV.c0 11 (by decide) k_7 (fun _ h => h) (j := 11) rfl dX2_sprayFrom_85 ?_
          refine lv_iload_n hx hb dX2_sprayFrom_88 rfl (lv_at hl 4 rfl) ?_
          refine lv_iadd hx hb dX2_sprayFrom_89 ?_
          refine gRd_put hx hb hts in_X2 hown hK hG hS hV.1 hV.c0 11 (by decide) k_7 (fun _ h => h) rfl .int (by decide +kernel) rfl rfl (j := 11) rfl dX2_sprayFrom_90 (fun H locs hG hS => ?_)
          refine lv_aload hx hb dX2_sprayFrom_93 (lv_at hl 0 rfl) ?_
          refine lv_iload_n hx hb dX2_sprayFrom_95 rfl (lv_at hl 4 rfl) ?_
          refine g_callV (As := [.int b]) (rest := []) (st1 := []) hF (mX3_wet M R O hV.1 (okI_lt (k := 10) rfl (by decide) c_2) (hV.seg (i := (P (122 + 3 * a.toNatClampNeg)).toNatClampNeg) (okI_lt (k := 10) rfl (by decide) c_2)) (upd (upd (upd P (122 + 3 * a.toNatClampNeg + 2) ((P (122 + 3 * a.toNatClampNeg + 2)) - 1)) (122 + 3 * a.toNatClampNeg + 1) (((upd P (122 + 3 * a.toNatClampNeg + 2) ((P (122 + 3 * a.toNatClampNeg + 2)) - 1)) (122 + 3 * a.toNatClampNeg + 1)) - b)) 11 (((upd (upd P (122 + 3 * a.toNatClampNeg + 2) ((P (122 + 3 * a.toNatClampNeg + 2)) - 1)) (122 + 3 * a.toNatClampNeg + 1) (((upd P (122 + 3 * a.toNatClampNeg + 2) ((P (122 + 3 * a.toNatClampNeg + 2)) - 1)) (122 + 3 * a.toNatClampNeg + 1)) - b)) 11) + b)) b) (cwV 1 hts gX2_sprayFrom_X3_wet rfl rfl rfl (by decide +kernel) ⟨Nat.le_of_ble_eq_true rfl, Nat.le_of_ble_eq_true rfl⟩) hK hZ hG hS (hV.seg (i := (P (122 + 3 * a.toNatClampNeg)).toNatClampNeg) (okI_lt (k := 10) rfl (by decide) c_2)) (gC_S hV.1 (okI_lt (k := 10) rfl (by decide) c_2)) (by decide) rfl rfl hl.1 (Nat.le_of_ble_eq_true rfl) dX2_sprayFrom_96 ⟨Nat.zero_le _, Nat.zero_le _⟩ rfl rfl (fun H locs hG hS => ?_)
          refine lv_aload hx hb dX2_sprayFrom_99 (lv_at hl 0 rfl) ?_
          refine gS_get hx hb hts in_X3 hown hK hG hV.1 (okI_lt (k := 10) rfl (by decide) c_2) (hV.seg (i := (P (122 + 3 * a.toNatClampNeg)).toNatClampNeg) (okI_lt (k := 10) rfl (by decide) c_2)) 4 (by decide) k_9 (fun _ h => h) (j := 12 + 7 * ((P (122 + 3 * a.toNatClampNeg)).toNatClampNeg) + 4) rfl dX2_sprayFrom_101 ?_
          exact g_iret hx hb hrt hlocks hS hG (by unfold fX2_sprayFrom_v; rw [if_pos c_1, if_pos c_2, if_neg c_3, if_neg c_4]) (congrArg (va_up M r) (by unfold fX2_sprayFrom_P; rw [if_pos c_1, if_pos c_2, if_neg c_3, if_neg c_4])) dX2_sprayFrom_104
        · --F
          refine lv_bipush (v := (-3)) hx hb dX2_sprayFrom_60 (by decide) ?_
          exact g_iret hx hb hrt hlocks hS hG (by unfold fX2_sprayFrom_v; rw [if_pos c_1, if_pos c_2, if_neg c_3, if_pos c_4]) (congrArg (va_up M r) (by unfold fX2_sprayFrom_P; rw [if_pos c_1, if_pos c_2, if_neg c_3, if_pos c_4])) dX2_sprayFrom_62
      · --F
        refine lv_bipush (v := (-2)) hx hb dX2_sprayFrom_45 (by decide) ?_
        exact g_iret hx hb hrt hlocks hS hG (by unfold fX2_sprayFrom_v; rw [if_pos c_1, if_pos c_2, if_pos c_3]) (congrArg (va_up M r) (by unfold fX2_sprayFrom_P; rw [if_pos c_1, if_pos c_2, if_pos c_3])) dX2_sprayFrom_47
    · --none
      refine g_callV (As := [.int (P (122 + 3 * a.toNatClampNeg))]) (rest := []) (st1 := [.null]) hF (mX2_segmentAt_n M R O hV P c_2) (cwV 1 hts gX2_sprayFrom_X2_segmentAt rfl rfl rfl (by decide +kernel) ⟨Nat.le_of_ble_eq_true rfl, Nat.le_of_ble_eq_true rfl⟩) hK hZ hG hS hV.c0 (gC_Rd hV.1) (by decide) rfl rfl hl.1 (Nat.le_of_ble_eq_true rfl) dX2_sprayFrom_19 ⟨Nat.zero_le _, Nat.zero_le _⟩ rfl rfl (fun H locs hG hS => ?_)
      refine lv_astoreN (lv' := [(4, .null), (3, .ref (gad Γ (25 * r + 22 + a.toNatClampNeg))), (0, .ref (gad Γ (25 * r))), (1, .int a), (2, .int b)]) hx hb dX2_sprayFrom_22 hl (by decide) rfl (fun ls hl => ?_)
      refine lv_aload_n hx hb dX2_sprayFrom_24 rfl (lv_at hl 1 rfl) ?_
      refine lv_ifnull hx hb dX2_sprayFrom_25 ?_
      refine lv_aloadN hx hb dX2_sprayFrom_28 (lv_at hl 0 rfl) ?_
      refine lv_ifnonnullN hx hb dX2_sprayFrom_30 ?_
      refine lv_iconst (v := (-1)) hx hb dX2_sprayFrom_33 (by decide) ?_
      exact g_iret hx hb hrt hlocks hS hG (by unfold fX2_sprayFrom_v; rw [if_pos c_1, if_neg c_2]) (congrArg (va_up M r) (by unfold fX2_sprayFrom_P; rw [if_pos c_1, if_neg c_2])) dX2_sprayFrom_34
  · --none
    refine g_callV (As := [.int a]) (rest := []) (st1 := [.null]) hF (mX2_wagonAt_n M R O hV P c_1) (cwV 1 hts gX2_sprayFrom_X2_wagonAt rfl rfl rfl (by decide +kernel) ⟨Nat.le_of_ble_eq_true rfl, Nat.le_of_ble_eq_true rfl⟩) hK hZ hG hS hV.c0 (gC_Rd hV.1) (by decide) rfl rfl hl.1 (Nat.le_of_ble_eq_true rfl) dX2_sprayFrom_2 ⟨Nat.zero_le _, Nat.zero_le _⟩ rfl rfl (fun H locs hG hS => ?_)
    refine lv_astore_nN (lv' := [(3, .null), (0, .ref (gad Γ (25 * r))), (1, .int a), (2, .int b)]) hx hb dX2_sprayFrom_5 rfl hl (by decide) rfl (fun ls hl => ?_)
    refine lv_aload_nN hx hb dX2_sprayFrom_6 rfl (lv_at hl 0 rfl) ?_
    refine lv_ifnonnullN hx hb dX2_sprayFrom_7 ?_
    refine lv_null hx hb dX2_sprayFrom_10 ?_
    refine lv_goto (tgt := 22) hx hb dX2_sprayFrom_11 (by decide) ?_
    refine lv_astoreN (lv' := [(4, .null), (3, .null), (0, .ref (gad Γ (25 * r))), (1, .int a), (2, .int b)]) hx hb dX2_sprayFrom_22 hl (by decide) rfl (fun ls hl => ?_)
    refine lv_aload_nN hx hb dX2_sprayFrom_24 rfl (lv_at hl 1 rfl) ?_
    refine lv_ifnullN (tgt := 33) hx hb dX2_sprayFrom_25 (by decide) ?_
    refine lv_iconst (v := (-1)) hx hb dX2_sprayFrom_33 (by decide) ?_
    exact g_iret hx hb hrt hlocks hS hG (by unfold fX2_sprayFrom_v; rw [if_neg c_1]) (congrArg (va_up M r) (by unfold fX2_sprayFrom_P; rw [if_neg c_1])) dX2_sprayFrom_34

def fX2_whyNoWater_v (P : Nat → Int32) (i : Nat) : Int32 := if 0 < (P (122 + 3 * i + 2)) then if okI (P (122 + 3 * i)) (P 0) 10 then if (P (12 + 7 * ((P (122 + 3 * i)).toNatClampNeg) + 5)) = 0 then 2 else if (P (122 + 3 * i + 1)) < 20 then if (P 9) < (P 8) then 0 else 4 else 3 else 2 else 1
set_option maxHeartbeats 4000000 in
set_option maxRecDepth 100000 in
theorem mX2_whyNoWater {l : Launch} {Γ : gX} (M : Nat → Nat → Int32) (R : Nat → Nat → Option Nat) (O : Int64) {r : Nat} (hV : LV Γ R r) (P : Nat → Int32) {i : Nat} (hi : i < 3) : gMet l Γ yX2_whyNoWater wsX2_whyNoWater 1 21 [.ref (gad Γ (25 * r)), .ref (gad Γ (25 * r + 22 + i))] (va_up M r P) R O (some (.int (fX2_whyNoWater_v P i))) (va_up M r P) R O := by
  refine g_start (cc := cX2_whyNoWater) (maxL := 3) (ret := (some .int)) (by decide) rfl (Nat.le_of_ble_eq_true rfl) ?_
  intro p e s m below meth c ls hx hb hml hrt hts hown hlocks hname hK hZ hG hS hl
  have hl : lv_has ls 3 [(0, .ref (gad Γ (25 * r))), (1, .ref (gad Γ (25 * r + 22 + i)))] := hl
  have hown : s.vm.findClass RX2 = some m.cls := hown
  have hF : CallFix p m c cX2_whyNoWater 3 s _ wsX2_whyNoWater RX2 := ⟨hx, hb, hml, hown, hts⟩
  have k_1 : (Cond.fieldLink RX2 131 "RoadDust$Wagon" "moves" "I").before _ s = true := hts _ (by decide +kernel)
  have in_X5 : ∀ w ∈ wsX50, w ∈ wsX2_whyNoWater := by decide +kernel
  have k_3 : (Cond.fieldLink RX2 134 "RoadDust$Wagon" "segment" "I").before _ s = true := hts _ (by decide +kernel)
  have k_4 : (Cond.fieldLink RX2 95 "RoadDust$Segment" "filling" "Z").before _ s = true := hts _ (by decide +kernel)
  have in_X3 : ∀ w ∈ wsX30, w ∈ wsX2_whyNoWater := by decide +kernel
  have k_6 : (Cond.fieldLink RX2 141 "RoadDust$Wagon" "liters" "I").before _ s = true := hts _ (by decide +kernel)
  have k_7 : (Cond.fieldLink RX2 63 "RoadDust$Road" "filled" "I").before _ s = true := hts _ (by decide +kernel)
  have in_X2 : ∀ w ∈ wsX20, w ∈ wsX2_whyNoWater := by decide +kernel
  have k_9 : (Cond.fieldLink RX2 60 "RoadDust$Road" "right" "I").before _ s = true := hts _ (by decide +kernel)
  refine lv_aload_n hx hb dX2_whyNoWater_0 rfl (lv_at hl 1 rfl) ?_
  refine gWg_get hx hb hts in_X5 hown hK hG hV.1 hi (hV.wag hi) 2 (by decide) k_1 (fun _ h => h) (j := 122 + 3 * i + 2) rfl dX2_whyNoWater_1 ?_
  refine lv_if_gt (tgt := 9) hx hb dX2_whyNoWater_4 (by decide) (fun c_1 => ?_) (fun c_1 => ?_)
  · --T
    refine lv_aload_n hx hb dX2_whyNoWater_9 rfl (lv_at hl 0 rfl) ?_
    refine lv_aload_n hx hb dX2_whyNoWater_10 rfl (lv_at hl 1 rfl) ?_
    refine gWg_get hx hb hts in_X5 hown hK hG hV.1 hi (hV.wag hi) 0 (by decide) k_3 (fun _ h => h) (j := 122 + 3 * i) rfl dX2_whyNoWater_11 ?_
    by_cases c_2 : okI (P (122 + 3 * i)) (P 0) 10
    · --ok
      refine g_callV (As := [.int (P (122 + 3 * i))]) (rest := []) (st1 := [.ref (gad Γ (25 * r + 4 + ((P (122 + 3 * i)).toNatClampNeg)))]) hF (mX2_segmentAt_y M R O hV P c_2 (j := (P (122 + 3 * i)).toNatClampNeg) rfl) (cwV 1 hts gX2_whyNoWater_X2_segmentAt rfl rfl rfl (by decide +kernel) ⟨Nat.le_of_ble_eq_true rfl, Nat.le_of_ble_eq_true rfl⟩) hK hZ hG hS hV.c0 (gC_Rd hV.1) (by decide) rfl rfl hl.1 (Nat.le_of_ble_eq_true rfl) dX2_whyNoWater_14 ⟨Nat.zero_le _, Nat.zero_le _⟩ rfl rfl (fun H locs hG hS => ?_)
      refine lv_astore_n (lv' := [(2, .ref (gad Γ (25 * r + 4 + ((P (122 + 3 * i)).toNatClampNeg)))), (0, .ref (gad Γ (25 * r))), (1, .ref (gad Γ (25 * r + 22 + i)))]) hx hb dX2_whyNoWater_17 rfl hl (by decide) rfl (fun ls hl => ?_)
      refine lv_aload_n hx hb dX2_whyNoWater_18 rfl (lv_at hl 0 rfl) ?_
      refine lv_ifnull hx hb dX2_whyNoWater_19 ?_
      refine lv_aload_n hx hb dX2_whyNoWater_22 rfl (lv_at hl 0 rfl) ?_
      refine gS_get hx hb hts in_X3 hown hK hG hV.1 (okI_lt (k := 10) rfl (by decide) c_2) (hV.seg (i := (P (122 + 3 * i)).toNatClampNeg) (okI_lt (k := 10) rfl (by decide) c_2)) 5 (by decide) k_4 (fun _ h => h) (j := 12 + 7 * ((P (122 + 3 * i)).toNatClampNeg) + 5) rfl dX2_whyNoWater_23 ?_
      refine lv_if_ne (tgt := 31) hx hb dX2_whyNoWater_26 (by decide) (fun c_3 => ?_) (fun c_3 => ?_)
      · --T
        refine lv_aload_n hx hb dX2_whyNoWater_31 rfl (lv_at hl 2 rfl) ?_
        refine gWg_get hx hb hts in_X5 hown hK hG hV.1 hi (hV.wag hi) 1 (by decide) k_6 (fun _ h => h) (j := 122 + 3 * i + 1) rfl dX2_whyNoWater_32 ?_
        refine lv_bipush (v := 20) hx hb dX2_whyNoWater_35 (by decide) ?_
        refine lv_icmp_lt (tgt := 42) hx hb dX2_whyNoWater_37 (by decide) (fun c_4 => ?_) (fun c_4 => ?_)
        · --T
          refine lv_aload_n hx hb dX2_whyNoWater_42 rfl (lv_at hl 1 rfl) ?_
          refine gRd_get hx hb hts in_X2 hown hK hG hV.1 hV.c0 9 (by decide) k_7 (fun _ h => h) (j := 9) rfl dX2_whyNoWater_43 ?_
          refine lv_aload_n hx hb dX2_whyNoWater_46 rfl (lv_at hl 1 rfl) ?_
          refine gRd_get hx hb hts in_X2 hown hK hG hV.1 hV.c0 8 (by decide) k_9 (fun _ h => h) (j := 8) rfl dX2_whyNoWater_47 ?_
          refine lv_icmp_lt (tgt := 57) hx hb dX2_whyNoWater_50 (by decide) (fun c_5 => ?_) (fun c_5 => ?_)
          · --T
            refine lv_iconst (v := 0) hx hb dX2_whyNoWater_57 (by decide) ?_
            exact g_iret hx hb hrt hlocks hS hG (by unfold fX2_whyNoWater_v; rw [if_pos c_1, if_pos c_2, if_neg c_3, if_pos c_4, if_pos c_5]) rfl dX2_whyNoWater_58
          · --F
            refine lv_iconst (v := 4) hx hb dX2_whyNoWater_53 (by decide) ?_
            refine lv_goto (tgt := 58) hx hb dX2_whyNoWater_54 (by decide) ?_
            exact g_iret hx hb hrt hlocks hS hG (by unfold fX2_whyNoWater_v; rw [if_pos c_1, if_pos c_2, if_neg c_3, if_pos c_4, if_neg c_5]) rfl dX2_whyNoWater_58
        · --F
          refine lv_iconst (v := 3) hx hb dX2_whyNoWater_40 (by decide) ?_
          exact g_iret hx hb hrt hlocks hS hG (by unfold fX2_whyNoWater_v; rw [if_pos c_1, if_pos c_2, if_neg c_3, if_neg c_4]) rfl dX2_whyNoWater_41
      · --F
        refine lv_iconst (v := 2) hx hb dX2_whyNoWater_29 (by decide) ?_
        exact g_iret hx hb hrt hlocks hS hG (by unfold fX2_whyNoWater_v; rw [if_pos c_1, if_pos c_2, if_pos c_3]) rfl dX2_whyNoWater_30
    · --none
      refine g_callV (As := [.int (P (122 + 3 * i))]) (rest := []) (st1 := [.null]) hF (mX2_segmentAt_n M R O hV P c_2) (cwV 1 hts gX2_whyNoWater_X2_segmentAt rfl rfl rfl (by decide +kernel) ⟨Nat.le_of_ble_eq_true rfl, Nat.le_of_ble_eq_true rfl⟩) hK hZ hG hS hV.c0 (gC_Rd hV.1) (by decide) rfl rfl hl.1 (Nat.le_of_ble_eq_true rfl) dX2_whyNoWater_14 ⟨Nat.zero_le _, Nat.zero_le _⟩ rfl rfl (fun H locs hG hS => ?_)
      refine lv_astore_nN (lv' := [(2, .null), (0, .ref (gad Γ (25 * r))), (1, .ref (gad Γ (25 * r + 22 + i)))]) hx hb dX2_whyNoWater_17 rfl hl (by decide) rfl (fun ls hl => ?_)
      refine lv_aload_nN hx hb dX2_whyNoWater_18 rfl (lv_at hl 0 rfl) ?_
      refine lv_ifnullN (tgt := 29) hx hb dX2_whyNoWater_19 (by decide) ?_
      refine lv_iconst (v := 2) hx hb dX2_whyNoWater_29 (by decide) ?_
      exact g_iret hx hb hrt hlocks hS hG (by unfold fX2_whyNoWater_v; rw [if_pos c_1, if_neg c_2]) rfl dX2_whyNoWater_30
  · --F
    refine lv_iconst (v := 1) hx hb dX2_whyNoWater_7 (by decide) ?_
    exact g_iret hx hb hrt hlocks hS hG (by unfold fX2_whyNoWater_v; rw [if_neg c_1]) rfl dX2_whyNoWater_8

def fX2_fillTank_v (P : Nat → Int32) (a : Int32) : Int32 := if okI a (P 2) 3 then if (fX2_whyNoWater_v P a.toNatClampNeg) = 0 then if ((P 8) - (P 9)) < (20 - (P (122 + 3 * a.toNatClampNeg + 1))) then ((P 8) - (P 9)) else (20 - (P (122 + 3 * a.toNatClampNeg + 1))) else (-3) else (-1)
def fX2_fillTank_P (P : Nat → Int32) (a : Int32) : Nat → Int32 := if okI a (P 2) 3 then if (fX2_whyNoWater_v P a.toNatClampNeg) = 0 then upd (upd (upd P (122 + 3 * a.toNatClampNeg + 2) ((P (122 + 3 * a.toNatClampNeg + 2)) - 1)) (122 + 3 * a.toNatClampNeg + 1) (((upd P (122 + 3 * a.toNatClampNeg + 2) ((P (122 + 3 * a.toNatClampNeg + 2)) - 1)) (122 + 3 * a.toNatClampNeg + 1)) + (if ((P 8) - (P 9)) < (20 - (P (122 + 3 * a.toNatClampNeg + 1))) then ((P 8) - (P 9)) else (20 - (P (122 + 3 * a.toNatClampNeg + 1)))))) 9 (((upd (upd P (122 + 3 * a.toNatClampNeg + 2) ((P (122 + 3 * a.toNatClampNeg + 2)) - 1)) (122 + 3 * a.toNatClampNeg + 1) (((upd P (122 + 3 * a.toNatClampNeg + 2) ((P (122 + 3 * a.toNatClampNeg + 2)) - 1)) (122 + 3 * a.toNatClampNeg + 1)) + (if ((P 8) - (P 9)) < (20 - (P (122 + 3 * a.toNatClampNeg + 1))) then ((P 8) - (P 9)) else (20 - (P (122 + 3 * a.toNatClampNeg + 1)))))) 9) + (if ((P 8) - (P 9)) < (20 - (P (122 + 3 * a.toNatClampNeg + 1))) then ((P 8) - (P 9)) else (20 - (P (122 + 3 * a.toNatClampNeg + 1))))) else P else P
set_option maxHeartbeats 4000000 in
set_option maxRecDepth 100000 in
theorem mX2_fillTank {l : Launch} {Γ : gX} (M : Nat → Nat → Int32) (R : Nat → Nat → Option Nat) (O : Int64) {r : Nat} (hV : LV Γ R r) (P : Nat → Int32) (a : Int32) : gMet l Γ yX2_fillTank wsX2_fillTank 2 43 [.ref (gad Γ (25 * r)), .int a] (va_up M r P) R O (some (.int (fX2_fillTank_v P a))) (va_up M r (fX2_fillTank_P P a)) R O := by
  refine g_start (cc := cX2_fillTank) (maxL := 4) (ret := (some .int)) (by decide) rfl (Nat.le_of_ble_eq_true rfl) ?_
  intro p e s m below meth c ls hx hb hml hrt hts hown hlocks hname hK hZ hG hS hl
  have hl : lv_has ls 4 [(0, .ref (gad Γ (25 * r))), (1, .int a)] := hl
  have hown : s.vm.findClass RX2 = some m.cls := hown
  have hF : CallFix p m c cX2_fillTank 4 s _ wsX2_fillTank RX2 := ⟨hx, hb, hml, hown, hts⟩
  have k_1 : (Cond.fieldLink RX2 141 "RoadDust$Wagon" "liters" "I").before _ s = true := hts _ (by decide +kernel)
  have in_X5 : ∀ w ∈ wsX50, w ∈ wsX2_fillTank := by decide +kernel
  have k_3 : (Cond.fieldLink RX2 60 "RoadDust$Road" "right" "I").before _ s = true := hts _ (by decide +kernel)
  have in_X2 : ∀ w ∈ wsX20, w ∈ wsX2_fillTank := by decide +kernel
  have k_5 : (Cond.fieldLink RX2 63 "RoadDust$Road" "filled" "I").before _ s = true := hts _ (by decide +kernel)
  have k_6 : (Cond.methodLink RX2 154 Lib.Math.min.name).before _ s = true := hts _ (by decide +kernel)
  have k_7 : (Cond.static Lib.Math.min.name).before _ s = true := hts _ (by decide +kernel)
  have k_8 : (Cond.initialized "java/lang/Math").before _ s = true := hts _ (by decide +kernel)
  have k_9 : (Cond.code Lib.Math.min.name Lib.Math.min.code 2 (some .int)).before _ s = true := hts _ (by decide +kernel)
  have k_10 : (Cond.fieldLink RX2 131 "RoadDust$Wagon" "moves" "I").before _ s = true := hts _ (by decide +kernel)
  refine lv_aload_n hx hb dX2_fillTank_0 rfl (lv_at hl 0 rfl) ?_
  refine lv_iload_n hx hb dX2_fillTank_1 rfl (lv_at hl 1 rfl) ?_
  by_cases c_1 : okI a (P 2) 3
  · --ok
    refine g_callV (As := [.int a]) (rest := []) (st1 := [.ref (gad Γ (25 * r + 22 + a.toNatClampNeg))]) hF (mX2_wagonAt_y M R O hV P c_1 (j := a.toNatClampNeg) rfl) (cwV 1 hts gX2_fillTank_X2_wagonAt rfl rfl rfl (by decide +kernel) ⟨Nat.le_of_ble_eq_true rfl, Nat.le_of_ble_eq_true rfl⟩) hK hZ hG hS hV.c0 (gC_Rd hV.1) (by decide) rfl rfl hl.1 (Nat.le_of_ble_eq_true rfl) dX2_fillTank_2 ⟨Nat.zero_le _, Nat.zero_le _⟩ rfl rfl (fun H locs hG hS => ?_)
    refine lv_astore_n (lv' := [(2, .ref (gad Γ (25 * r + 22 + a.toNatClampNeg))), (0, .ref (gad Γ (25 * r))), (1, .int a)]) hx hb dX2_fillTank_5 rfl hl (by decide) rfl (fun ls hl => ?_)
    refine lv_aload_n hx hb dX2_fillTank_6 rfl (lv_at hl 0 rfl) ?_
    refine lv_ifnonnull (tgt := 12) hx hb dX2_fillTank_7 (by decide) ?_
    refine lv_aload_n hx hb dX2_fillTank_12 rfl (lv_at hl 1 rfl) ?_
    refine lv_aload_n hx hb dX2_fillTank_13 rfl (lv_at hl 0 rfl) ?_
    refine g_callV (As := [.ref (gad Γ (25 * r + 22 + a.toNatClampNeg))]) (rest := []) (st1 := [.int (fX2_whyNoWater_v P a.toNatClampNeg)]) hF (mX2_whyNoWater M R O hV P (i := a.toNatClampNeg) (okI_lt (k := 3) rfl (by decide) c_1)) (cwV 1 hts gX2_fillTank_X2_whyNoWater rfl rfl rfl (by decide +kernel) ⟨Nat.le_of_ble_eq_true rfl, Nat.le_of_ble_eq_true rfl⟩) hK hZ hG hS hV.c0 (gC_Rd hV.1) (by decide) rfl rfl hl.1 (Nat.le_of_ble_eq_true rfl) dX2_fillTank_14 ⟨Nat.zero_le _, Nat.zero_le _⟩ rfl rfl (fun H locs hG hS => ?_)
    refine lv_if_eq (tgt := 23) hx hb dX2_fillTank_17 (by decide) (fun c_2 => ?_) (fun c_2 => ?_)
    · --T
      refine lv_bipush (v := 20) hx hb dX2_fillTank_23 (by decide) ?_
      refine lv_aload_n hx hb dX2_fillTank_25 rfl (lv_at hl 0 rfl) ?_
      refine gWg_get hx hb hts in_X5 hown hK hG hV.1 (okI_lt (k := 3) rfl (by decide) c_1) (hV.wag (i := a.toNatClampNeg) (okI_lt (k := 3) rfl (by decide) c_1)) 1 (by decide) k_1 (fun _ h => h) (j := 122 + 3 * a.toNatClampNeg + 1) rfl dX2_fillTank_26 ?_
      refine lv_isub hx hb dX2_fillTank_29 ?_
      refine lv_aload_n hx hb dX2_fillTank_30 rfl (lv_at hl 1 rfl) ?_
      refine gRd_get hx hb hts in_X2 hown hK hG hV.1 hV.c0 8 (by decide) k_3 (fun _ h => h) (j := 8) rfl dX2_fillTank_31 ?_
      refine lv_aload_n hx hb dX2_fillTank_34 rfl (lv_at hl 1 rfl) ?_
      refine gRd_get hx hb hts in_X2 hown hK hG hV.1 hV.c0 9 (by decide) k_5 (fun _ h => h) (j := 9) rfl dX2_fillTank_35 ?_
      refine lv_isub hx hb dX2_fillTank_38 ?_
      refine va_mmin hx hb (hml.trans hl.1.symm) hown k_6 k_7 k_8 k_9 (Nat.le_of_ble_eq_true rfl) (Nat.le_of_ble_eq_true rfl) (Nat.le_of_ble_eq_true rfl) (Nat.le_of_ble_eq_true rfl) dX2_fillTank_39 ?_
      refine lv_istore_n (lv' := [(3, .int (if ((P 8) - (P 9)) < (20 - (P (122 + 3 * a.toNatClampNeg + 1))) then ((P 8) - (P 9)) else (20 - (P (122 + 3 * a.toNatClampNeg + 1))))), (2, .ref (gad Γ (25 * r + 22 + a.toNatClampNeg))), (0, .ref (gad Γ (25 * r))), (1, .int a)]) hx hb dX2_fillTank_42 rfl hl (by decide) rfl (fun ls hl => ?_)
      refine lv_aload_n hx hb dX2_fillTank_43 rfl (lv_at hl 1 rfl) ?_
      refine lv_dup hx hb dX2_fillTank_44 rfl ?_
      refine gWg_get hx hb hts in_X5 hown hK hG hV.1 (okI_lt (k := 3) rfl (by decide) c_1) (hV.wag (i := a.toNatClampNeg) (okI_lt (k := 3) rfl (by decide) c_1)) 2 (by decide) k_10 (fun _ h => h) (j := 122 + 3 * a.toNatClampNeg + 2) rfl dX2_fillTank_45 ?_
      refine lv_iconst (v := 1) hx hb dX2_fillTank_48 (by decide) ?_
      refine lv_isub hx hb dX2_fillTank_49 ?_
      refine gWg_put hx hb hts in_X5 hown hK hG hS hV.1 (okI_lt (k := 3) rfl (by decide) c_1) (hV.wag (i := a.toNatClampNeg) (okI_lt (k := 3) rfl (by decide) c_1)) 2 (by decide) k_10 (fun _ h => h) rfl .int (by decide +kernel) rfl rfl (j := 122 + 3 * a.toNatClampNeg + 2) rfl dX2_fillTank_50 (fun H locs hG hS => ?_)
      refine lv_aload_n hx hb dX2_fillTank_53 rfl (lv_at hl 1 rfl) ?_
      refine lv_dup hx hb dX2_fillTank_54 rfl ?_
      refine gWg_get hx hb hts in_X5 hown hK hG hV.1 (okI_lt (k := 3) rfl (by decide) c_1) (hV.wag (i := a.toNatClampNeg) (okI_lt (k := 3) rfl (by decide) c_1)) 1 (by decide) k_1 (fun _ h => h) (j := 122 + 3 * a.toNatClampNeg + 1) rfl dX2_fillTank_55 ?_
      refine lv_iload_n hx hb dX2_fillTank_58 rfl (lv_at hl 0 rfl) ?_
      refine lv_iadd hx hb dX2_fillTank_59 ?_
      refine gWg_put hx hb hts in_X5 hown hK hG hS hV.1 (okI_lt (k := 3) rfl (by decide) c_1) (hV.wag (i := a.toNatClampNeg) (okI_lt (k := 3) rfl (by decide) c_1)) 1 (by decide) k_1 (fun _ h => h) rfl .int (by decide +kernel) rfl rfl (j := 122 + 3 * a.toNatClampNeg + 1) rfl dX2_fillTank_60 (fun H locs hG hS => ?_)
      refine lv_aload_n hx hb dX2_fillTank_63 rfl (lv_at hl 2 rfl) ?_
      refine lv_dup hx hb dX2_fillTank_64 rfl ?_
      refine gRd_get hx hb hts in_X2 hown hK hG hV.1 hV.c0 9 (by decide) k_5 (fun _ h => h) (j := 9) rfl dX2_fillTank_65 ?_
      refine lv_iload_n hx hb dX2_fillTank_68 rfl (lv_at hl 0 rfl) ?_
      refine lv_iadd hx hb dX2_fillTank_69 ?_
      refine gRd_put hx hb hts in_X2 hown hK hG hS hV.1 hV.c0 9 (by decide) k_5 (fun _ h => h) rfl .int (by decide +kernel) rfl rfl (j := 9) rfl dX2_fillTank_70 (fun H locs hG hS => ?_)
      refine lv_iload_n hx hb dX2_fillTank_73 rfl (lv_at hl 0 rfl) ?_
      exact g_iret hx hb hrt hlocks hS hG (by unfold fX2_fillTank_v; rw [if_pos c_1, if_pos c_2]) (congrArg (va_up M r) (by unfold fX2_fillTank_P; rw [if_pos c_1, if_pos c_2])) dX2_fillTank_74
    · --F
      refine lv_bipush (v := (-3)) hx hb dX2_fillTank_20 (by decide) ?_
      exact g_iret hx hb hrt hlocks hS hG (by unfold fX2_fillTank_v; rw [if_pos c_1, if_neg c_2]) (congrArg (va_up M r) (by unfold fX2_fillTank_P; rw [if_pos c_1, if_neg c_2])) dX2_fillTank_22
  · --none
    refine g_callV (As := [.int a]) (rest := []) (st1 := [.null]) hF (mX2_wagonAt_n M R O hV P c_1) (cwV 1 hts gX2_fillTank_X2_wagonAt rfl rfl rfl (by decide +kernel) ⟨Nat.le_of_ble_eq_true rfl, Nat.le_of_ble_eq_true rfl⟩) hK hZ hG hS hV.c0 (gC_Rd hV.1) (by decide) rfl rfl hl.1 (Nat.le_of_ble_eq_true rfl) dX2_fillTank_2 ⟨Nat.zero_le _, Nat.zero_le _⟩ rfl rfl (fun H locs hG hS => ?_)
    refine lv_astore_nN (lv' := [(2, .null), (0, .ref (gad Γ (25 * r))), (1, .int a)]) hx hb dX2_fillTank_5 rfl hl (by decide) rfl (fun ls hl => ?_)
    refine lv_aload_nN hx hb dX2_fillTank_6 rfl (lv_at hl 0 rfl) ?_
    refine lv_ifnonnullN hx hb dX2_fillTank_7 ?_
    refine lv_iconst (v := (-1)) hx hb dX2_fillTank_10 (by decide) ?_
    exact g_iret hx hb hrt hlocks hS hG (by unfold fX2_fillTank_v; rw [if_neg c_1]) (congrArg (va_up M r) (by unfold fX2_fillTank_P; rw [if_neg c_1])) dX2_fillTank_11

