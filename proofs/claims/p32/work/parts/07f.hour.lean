/-! THE ROAD. Laid by gen/p07.py. -/
def fX2_raiseDust_S  (Pk : Nat → Int32) (k : Nat) : Nat → Int32 := fX3_raise_P (fX3_dry_P Pk k (Pk 6) (Pk 5)) k ((fX3_dry_P Pk k (Pk 6) (Pk 5)) 5)
def fX2_raiseDust_L  (P : Nat → Int32) : Nat → Nat → Int32
  | 0 => P
  | k + 1 => fX2_raiseDust_S  (fX2_raiseDust_L  P k) k
def fX2_raiseDust_P (P : Nat → Int32) : Nat → Int32 := fX2_raiseDust_L  P 10
set_option maxHeartbeats 4000000 in
set_option maxRecDepth 100000 in
theorem mX2_raiseDust {l : Launch} {Γ : gX} (M : Nat → Nat → Int32) (R : Nat → Nat → Option Nat) (O : Int64) {r : Nat} (hV : LV Γ R r) (P : Nat → Int32) : gMet l Γ yX2_raiseDust wsX2_raiseDust 2 44 [.ref (gad Γ (25 * r))] (va_up M r P) R O none (va_up M r (fX2_raiseDust_P P)) R O := by
  refine g_start (cc := cX2_raiseDust) (maxL := 5) (ret := none) (by decide) rfl (Nat.le_of_ble_eq_true rfl) ?_
  intro p e s m below meth c ls hx hb hml hrt hts hown hlocks hname hK hZ hG hS hl
  have hl : lv_has ls 5 [(0, .ref (gad Γ (25 * r)))] := hl
  have hown : s.vm.findClass RX2 = some m.cls := hown
  have hF : CallFix p m c cX2_raiseDust 5 s _ wsX2_raiseDust RX2 := ⟨hx, hb, hml, hown, hts⟩
  have k_1 : (Cond.fieldLink RX2 11 "RoadDust$Road" "segmentRow" "[LRoadDust$Segment;").before _ s = true := hts _ (by decide +kernel)
  have in_X2 : ∀ w ∈ wsX20, w ∈ wsX2_raiseDust := by decide +kernel
  have k_3 : (Cond.fieldLink RX2 54 "RoadDust$Road" "sun" "I").before _ s = true := hts _ (by decide +kernel)
  have k_4 : (Cond.fieldLink RX2 51 "RoadDust$Road" "lorries" "I").before _ s = true := hts _ (by decide +kernel)
  refine lv_aload_n hx hb dX2_raiseDust_0 rfl (lv_at hl 0 rfl) ?_
  refine gRd_getr hx hb hts in_X2 hown hK hG hV.1 hV.c0 12 (by decide) rfl hV.2.2.1 k_1 (fun _ h => h) dX2_raiseDust_1 ?_
  refine lv_astore_n (lv' := [(1, .ref (gad Γ (25 * r + 1))), (0, .ref (gad Γ (25 * r)))]) hx hb dX2_raiseDust_4 rfl hl (by decide) rfl (fun ls hl => ?_)
  refine lv_aload_n hx hb dX2_raiseDust_5 rfl (lv_at hl 0 rfl) ?_
  refine g_alen hx hb hK hG (hV.row 1 (by decide)) (gC_row1 hV.1) (by decide) (by decide) (gLen_row1 hV.1) dX2_raiseDust_6 ?_
  refine lv_istore_n (lv' := [(2, .int (nI 10)), (1, .ref (gad Γ (25 * r + 1))), (0, .ref (gad Γ (25 * r)))]) hx hb dX2_raiseDust_7 rfl hl (by decide) rfl (fun ls hl => ?_)
  refine lv_iconst (v := 0) hx hb dX2_raiseDust_8 (by decide) ?_
  refine lv_istore_n (lv' := [(3, .int 0), (2, .int (nI 10)), (1, .ref (gad Γ (25 * r + 1))), (0, .ref (gad Γ (25 * r)))]) hx hb dX2_raiseDust_9 rfl hl (by decide) rfl (fun ls hl => ?_)
  refine g_loop (N := 10) (fun k H locs ls => GH Γ (va_up M r (fX2_raiseDust_L  P k)) R O H ∧ va_S (gA Γ) s.heap H locs ∧ lv_has ls 5 [(0, .ref (gad Γ (25 * r))), (1, .ref (gad Γ (25 * r + 1))), (2, .int (nI 10)), (3, .int (nI k))]) ?_ ?_ 0 (Nat.zero_le _) _ _ _ ⟨hG, hS, lv_sub hl [3, 2, 1, 0] rfl⟩
  · rintro H locs ls ⟨hG, hS, hl⟩
    refine lv_iload_n hx hb dX2_raiseDust_10 rfl (lv_at hl 3 rfl) ?_
    refine lv_iload_n hx hb dX2_raiseDust_11 rfl (lv_at hl 2 rfl) ?_
    refine lv_icmp_ge (tgt := 48) hx hb dX2_raiseDust_12 (by decide) (fun c_1 => ?_) (fun c_1 => absurd (nI_le (Nat.le_refl _) (by decide)) c_1)
    exact g_vret hx hb hrt hlocks hS hG (congrArg (va_up M r) (by unfold fX2_raiseDust_P; rfl)) rfl dX2_raiseDust_48
  · rintro k hk_k ih_k H locs ls ⟨hG, hS, hl⟩
    refine lv_iload_n hx hb dX2_raiseDust_10 rfl (lv_at hl 3 rfl) ?_
    refine lv_iload_n hx hb dX2_raiseDust_11 rfl (lv_at hl 2 rfl) ?_
    refine lv_icmp_ge (tgt := 48) hx hb dX2_raiseDust_12 (by decide) (fun c_2 => absurd c_2 (nI_ge hk_k (by decide))) (fun c_2 => ?_)
    refine lv_aload_n hx hb dX2_raiseDust_15 rfl (lv_at hl 1 rfl) ?_
    refine lv_iload_n hx hb dX2_raiseDust_16 rfl (lv_at hl 3 rfl) ?_
    refine g_aald hx hb hK hG (hV.row 1 (by decide)) (gC_row1 hV.1) (by decide) (by decide) rfl (gLen_row1 hV.1) (j := k) (nI_clamp (by omega)) (vp_in_nI (by omega) (by decide)) (hV.s (i := k) (by omega)) dX2_raiseDust_17 ?_
    refine lv_astore (lv' := [(4, .ref (gad Γ (25 * r + 4 + k))), (0, .ref (gad Γ (25 * r))), (1, .ref (gad Γ (25 * r + 1))), (2, .int (nI 10)), (3, .int (nI k))]) hx hb dX2_raiseDust_18 hl (by decide) rfl (fun ls hl => ?_)
    refine lv_aload hx hb dX2_raiseDust_20 (lv_at hl 0 rfl) ?_
    refine lv_aload_n hx hb dX2_raiseDust_22 rfl (lv_at hl 1 rfl) ?_
    refine gRd_get hx hb hts in_X2 hown hK hG hV.1 hV.c0 6 (by decide) k_3 (fun _ h => h) (j := 6) rfl dX2_raiseDust_23 ?_
    refine lv_aload_n hx hb dX2_raiseDust_26 rfl (lv_at hl 1 rfl) ?_
    refine gRd_get hx hb hts in_X2 hown hK hG hV.1 hV.c0 5 (by decide) k_4 (fun _ h => h) (j := 5) rfl dX2_raiseDust_27 ?_
    refine g_callV (As := [.int ((fX2_raiseDust_L  P k) 6), .int ((fX2_raiseDust_L  P k) 5)]) (rest := []) (st1 := []) hF (mX3_dry M R O hV.1 (by omega) (hV.seg (i := k) (by omega)) (fX2_raiseDust_L  P k) ((fX2_raiseDust_L  P k) 6) ((fX2_raiseDust_L  P k) 5)) (cwV 2 hts gX2_raiseDust_X3_dry rfl rfl rfl (by decide +kernel) ⟨Nat.le_of_ble_eq_true rfl, Nat.le_of_ble_eq_true rfl⟩) hK hZ hG hS (hV.seg (i := k) (by omega)) (gC_S hV.1 (by omega)) (by decide) rfl rfl hl.1 (Nat.le_of_ble_eq_true rfl) dX2_raiseDust_30 ⟨Nat.zero_le _, Nat.zero_le _⟩ rfl rfl (fun H locs hG hS => ?_)
    refine lv_aload hx hb dX2_raiseDust_33 (lv_at hl 0 rfl) ?_
    refine lv_aload_n hx hb dX2_raiseDust_35 rfl (lv_at hl 1 rfl) ?_
    refine gRd_get hx hb hts in_X2 hown hK hG hV.1 hV.c0 5 (by decide) k_4 (fun _ h => h) (j := 5) rfl dX2_raiseDust_36 ?_
    refine g_callV (As := [.int ((fX3_dry_P (fX2_raiseDust_L  P k) k ((fX2_raiseDust_L  P k) 6) ((fX2_raiseDust_L  P k) 5)) 5)]) (rest := []) (st1 := []) hF (mX3_raise M R O hV.1 (by omega) (hV.seg (i := k) (by omega)) (fX3_dry_P (fX2_raiseDust_L  P k) k ((fX2_raiseDust_L  P k) 6) ((fX2_raiseDust_L  P k) 5)) ((fX3_dry_P (fX2_raiseDust_L  P k) k ((fX2_raiseDust_L  P k) 6) ((fX2_raiseDust_L  P k) 5)) 5)) (cwV 1 hts gX2_raiseDust_X3_raise rfl rfl rfl (by decide +kernel) ⟨Nat.le_of_ble_eq_true rfl, Nat.le_of_ble_eq_true rfl⟩) hK hZ hG hS (hV.seg (i := k) (by omega)) (gC_S hV.1 (by omega)) (by decide) rfl rfl hl.1 (Nat.le_of_ble_eq_true rfl) dX2_raiseDust_39 ⟨Nat.zero_le _, Nat.zero_le _⟩ rfl rfl (fun H locs hG hS => ?_)
    refine lv_iinc (v := nI (k + 1)) (lv' := [(3, .int (nI (k + 1))), (4, .ref (gad Γ (25 * r + 4 + k))), (0, .ref (gad Γ (25 * r))), (1, .ref (gad Γ (25 * r + 1))), (2, .int (nI 10))]) hx hb dX2_raiseDust_42 hl (k := 4) rfl (nI_1 _) (by decide) rfl (fun ls hl => ?_)
    refine lv_goto (tgt := 10) hx hb dX2_raiseDust_45 (by decide) ?_
    exact ih_k _ _ _ ⟨hG, hS, lv_sub hl [2, 3, 4, 0] rfl⟩

def fX2_turnClock_S  (Pk : Nat → Int32) (k : Nat) : Nat → Int32 := upd Pk (122 + 3 * k + 2) 4
def fX2_turnClock_L  (P : Nat → Int32) : Nat → Nat → Int32
  | 0 => P
  | k + 1 => fX2_turnClock_S  (fX2_turnClock_L  P k) k
def fX2_turnClock_P (P : Nat → Int32) : Nat → Int32 := if ((upd P 4 ((P 4) + 1)) 4) < 10 then fX2_turnClock_L  (upd P 4 ((P 4) + 1)) 3 else fX2_turnClock_L  (upd (upd (upd (upd P 4 ((P 4) + 1)) 4 0) 3 (((upd (upd P 4 ((P 4) + 1)) 4 0) 3) + 1)) 9 0) 3
set_option maxHeartbeats 4000000 in
set_option maxRecDepth 100000 in
theorem mX2_turnClock {l : Launch} {Γ : gX} (M : Nat → Nat → Int32) (R : Nat → Nat → Option Nat) (O : Int64) {r : Nat} (hV : LV Γ R r) (P : Nat → Int32) : gMet l Γ yX2_turnClock wsX2_turnClock 0 0 [.ref (gad Γ (25 * r))] (va_up M r P) R O none (va_up M r (fX2_turnClock_P P)) R O := by
  refine g_start (cc := cX2_turnClock) (maxL := 5) (ret := none) (by decide) rfl (Nat.le_of_ble_eq_true rfl) ?_
  intro p e s m below meth c ls hx hb hml hrt hts hown hlocks hname hK hZ hG hS hl
  have hl : lv_has ls 5 [(0, .ref (gad Γ (25 * r)))] := hl
  have hown : s.vm.findClass RX2 = some m.cls := hown
  have hF : CallFix p m c cX2_turnClock 5 s _ wsX2_turnClock RX2 := ⟨hx, hb, hml, hown, hts⟩
  have k_1 : (Cond.fieldLink RX2 48 "RoadDust$Road" "hour" "I").before _ s = true := hts _ (by decide +kernel)
  have in_X2 : ∀ w ∈ wsX20, w ∈ wsX2_turnClock := by decide +kernel
  have k_3 : (Cond.fieldLink RX2 25 "RoadDust$Road" "wagonRow" "[LRoadDust$Wagon;").before _ s = true := hts _ (by decide +kernel)
  have k_4 : (Cond.fieldLink RX2 131 "RoadDust$Wagon" "moves" "I").before _ s = true := hts _ (by decide +kernel)
  have in_X5 : ∀ w ∈ wsX50, w ∈ wsX2_turnClock := by decide +kernel
  have k_6 : (Cond.fieldLink RX2 45 "RoadDust$Road" "day" "I").before _ s = true := hts _ (by decide +kernel)
  have k_7 : (Cond.fieldLink RX2 63 "RoadDust$Road" "filled" "I").before _ s = true := hts _ (by decide +kernel)
  refine lv_aload_n hx hb dX2_turnClock_0 rfl (lv_at hl 0 rfl) ?_
  refine lv_dup hx hb dX2_turnClock_1 rfl ?_
  refine gRd_get hx hb hts in_X2 hown hK hG hV.1 hV.c0 4 (by decide) k_1 (fun _ h => h) (j := 4) rfl dX2_turnClock_2 ?_
  refine lv_iconst (v := 1) hx hb dX2_turnClock_5 (by decide) ?_
  refine lv_iadd hx hb dX2_turnClock_6 ?_
  refine gRd_put hx hb hts in_X2 hown hK hG hS hV.1 hV.c0 4 (by decide) k_1 (fun _ h => h) rfl .int (by decide +kernel) rfl rfl (j := 4) rfl dX2_turnClock_7 (fun H locs hG hS => ?_)
  refine lv_aload_n hx hb dX2_turnClock_10 rfl (lv_at hl 0 rfl) ?_
  refine gRd_get hx hb hts in_X2 hown hK hG hV.1 hV.c0 4 (by decide) k_1 (fun _ h => h) (j := 4) rfl dX2_turnClock_11 ?_
  refine lv_bipush (v := 10) hx hb dX2_turnClock_14 (by decide) ?_
  refine lv_icmp_lt (tgt := 39) hx hb dX2_turnClock_16 (by decide) (fun c_1 => ?_) (fun c_1 => ?_)
  · --T
    refine lv_aload_n hx hb dX2_turnClock_39 rfl (lv_at hl 0 rfl) ?_
    refine gRd_getr hx hb hts in_X2 hown hK hG hV.1 hV.c0 14 (by decide) rfl hV.2.2.2.2.1 k_3 (fun _ h => h) dX2_turnClock_40 ?_
    refine lv_astore_n (lv' := [(1, .ref (gad Γ (25 * r + 3))), (0, .ref (gad Γ (25 * r)))]) hx hb dX2_turnClock_43 rfl hl (by decide) rfl (fun ls hl => ?_)
    refine lv_aload_n hx hb dX2_turnClock_44 rfl (lv_at hl 0 rfl) ?_
    refine g_alen hx hb hK hG (hV.row 3 (by decide)) (gC_row3 hV.1) (by decide) (by decide) (gLen_row3 hV.1) dX2_turnClock_45 ?_
    refine lv_istore_n (lv' := [(2, .int (nI 3)), (1, .ref (gad Γ (25 * r + 3))), (0, .ref (gad Γ (25 * r)))]) hx hb dX2_turnClock_46 rfl hl (by decide) rfl (fun ls hl => ?_)
    refine lv_iconst (v := 0) hx hb dX2_turnClock_47 (by decide) ?_
    refine lv_istore_n (lv' := [(3, .int 0), (2, .int (nI 3)), (1, .ref (gad Γ (25 * r + 3))), (0, .ref (gad Γ (25 * r)))]) hx hb dX2_turnClock_48 rfl hl (by decide) rfl (fun ls hl => ?_)
    refine g_loop (N := 3) (fun k H locs ls => GH Γ (va_up M r (fX2_turnClock_L  (upd P 4 ((P 4) + 1)) k)) R O H ∧ va_S (gA Γ) s.heap H locs ∧ lv_has ls 5 [(0, .ref (gad Γ (25 * r))), (1, .ref (gad Γ (25 * r + 3))), (2, .int (nI 3)), (3, .int (nI k))]) ?_ ?_ 0 (Nat.zero_le _) _ _ _ ⟨hG, hS, lv_sub hl [3, 2, 1, 0] rfl⟩
    · rintro H locs ls ⟨hG, hS, hl⟩
      refine lv_iload_n hx hb dX2_turnClock_49 rfl (lv_at hl 3 rfl) ?_
      refine lv_iload_n hx hb dX2_turnClock_50 rfl (lv_at hl 2 rfl) ?_
      refine lv_icmp_ge (tgt := 71) hx hb dX2_turnClock_51 (by decide) (fun c_2 => ?_) (fun c_2 => absurd (nI_le (Nat.le_refl _) (by decide)) c_2)
      exact g_vret hx hb hrt hlocks hS hG (congrArg (va_up M r) (by unfold fX2_turnClock_P; rw [if_pos c_1])) rfl dX2_turnClock_71
    · rintro k hk_k ih_k H locs ls ⟨hG, hS, hl⟩
      refine lv_iload_n hx hb dX2_turnClock_49 rfl (lv_at hl 3 rfl) ?_
      refine lv_iload_n hx hb dX2_turnClock_50 rfl (lv_at hl 2 rfl) ?_
      refine lv_icmp_ge (tgt := 71) hx hb dX2_turnClock_51 (by decide) (fun c_3 => absurd c_3 (nI_ge hk_k (by decide))) (fun c_3 => ?_)
      refine lv_aload_n hx hb dX2_turnClock_54 rfl (lv_at hl 1 rfl) ?_
      refine lv_iload_n hx hb dX2_turnClock_55 rfl (lv_at hl 3 rfl) ?_
      refine g_aald hx hb hK hG (hV.row 3 (by decide)) (gC_row3 hV.1) (by decide) (by decide) rfl (gLen_row3 hV.1) (j := k) (nI_clamp (by omega)) (vp_in_nI (by omega) (by decide)) (hV.w (i := k) (by omega)) dX2_turnClock_56 ?_
      refine lv_astore (lv' := [(4, .ref (gad Γ (25 * r + 22 + k))), (0, .ref (gad Γ (25 * r))), (1, .ref (gad Γ (25 * r + 3))), (2, .int (nI 3)), (3, .int (nI k))]) hx hb dX2_turnClock_57 hl (by decide) rfl (fun ls hl => ?_)
      refine lv_aload hx hb dX2_turnClock_59 (lv_at hl 0 rfl) ?_
      refine lv_iconst (v := 4) hx hb dX2_turnClock_61 (by decide) ?_
      refine gWg_put hx hb hts in_X5 hown hK hG hS hV.1 (by omega) (hV.wag (i := k) (by omega)) 2 (by decide) k_4 (fun _ h => h) rfl .int (by decide +kernel) rfl rfl (j := 122 + 3 * k + 2) rfl dX2_turnClock_62 (fun H locs hG hS => ?_)
      refine lv_iinc (v := nI (k + 1)) (lv' := [(3, .int (nI (k + 1))), (4, .ref (gad Γ (25 * r + 22 + k))), (0, .ref (gad Γ (25 * r))), (1, .ref (gad Γ (25 * r + 3))), (2, .int (nI 3))]) hx hb dX2_turnClock_65 hl (k := 4) rfl (nI_1 _) (by decide) rfl (fun ls hl => ?_)
      refine lv_goto (tgt := 49) hx hb dX2_turnClock_68 (by decide) ?_
      exact ih_k _ _ _ ⟨hG, hS, lv_sub hl [2, 3, 4, 0] rfl⟩
  · --F
    refine lv_aload_n hx hb dX2_turnClock_19 rfl (lv_at hl 0 rfl) ?_
    refine lv_iconst (v := 0) hx hb dX2_turnClock_20 (by decide) ?_
    refine gRd_put hx hb hts in_X2 hown hK hG hS hV.1 hV.c0 4 (by decide) k_1 (fun _ h => h) rfl .int (by decide +kernel) rfl rfl (j := 4) rfl dX2_turnClock_21 (fun H locs hG hS => ?_)
    refine lv_aload_n hx hb dX2_turnClock_24 rfl (lv_at hl 0 rfl) ?_
    refine lv_dup hx hb dX2_turnClock_25 rfl ?_
    refine gRd_get hx hb hts in_X2 hown hK hG hV.1 hV.c0 3 (by decide) k_6 (fun _ h => h) (j := 3) rfl dX2_turnClock_26 ?_
    refine lv_iconst (v := 1) hx hb dX2_turnClock_29 (by decide) ?_
    refine lv_iadd hx hb dX2_turnClock_30 ?_
    refine gRd_put hx hb hts in_X2 hown hK hG hS hV.1 hV.c0 3 (by decide) k_6 (fun _ h => h) rfl .int (by decide +kernel) rfl rfl (j := 3) rfl dX2_turnClock_31 (fun H locs hG hS => ?_)
    refine lv_aload_n hx hb dX2_turnClock_34 rfl (lv_at hl 0 rfl) ?_
    refine lv_iconst (v := 0) hx hb dX2_turnClock_35 (by decide) ?_
    refine gRd_put hx hb hts in_X2 hown hK hG hS hV.1 hV.c0 9 (by decide) k_7 (fun _ h => h) rfl .int (by decide +kernel) rfl rfl (j := 9) rfl dX2_turnClock_36 (fun H locs hG hS => ?_)
    refine lv_aload_n hx hb dX2_turnClock_39 rfl (lv_at hl 0 rfl) ?_
    refine gRd_getr hx hb hts in_X2 hown hK hG hV.1 hV.c0 14 (by decide) rfl hV.2.2.2.2.1 k_3 (fun _ h => h) dX2_turnClock_40 ?_
    refine lv_astore_n (lv' := [(1, .ref (gad Γ (25 * r + 3))), (0, .ref (gad Γ (25 * r)))]) hx hb dX2_turnClock_43 rfl hl (by decide) rfl (fun ls hl => ?_)
    refine lv_aload_n hx hb dX2_turnClock_44 rfl (lv_at hl 0 rfl) ?_
    refine g_alen hx hb hK hG (hV.row 3 (by decide)) (gC_row3 hV.1) (by decide) (by decide) (gLen_row3 hV.1) dX2_turnClock_45 ?_
    refine lv_istore_n (lv' := [(2, .int (nI 3)), (1, .ref (gad Γ (25 * r + 3))), (0, .ref (gad Γ (25 * r)))]) hx hb dX2_turnClock_46 rfl hl (by decide) rfl (fun ls hl => ?_)
    refine lv_iconst (v := 0) hx hb dX2_turnClock_47 (by decide) ?_
    refine lv_istore_n (lv' := [(3, .int 0), (2, .int (nI 3)), (1, .ref (gad Γ (25 * r + 3))), (0, .ref (gad Γ (25 * r)))]) hx hb dX2_turnClock_48 rfl hl (by decide) rfl (fun ls hl => ?_)
    refine g_loop (N := 3) (fun k H locs ls => GH Γ (va_up M r (fX2_turnClock_L  (upd (upd (upd (upd P 4 ((P 4) + 1)) 4 0) 3 (((upd (upd P 4 ((P 4) + 1)) 4 0) 3) + 1)) 9 0) k)) R O H ∧ va_S (gA Γ) s.heap H locs ∧ lv_has ls 5 [(0, .ref (gad Γ (25 * r))), (1, .ref (gad Γ (25 * r + 3))), (2, .int (nI 3)), (3, .int (nI k))]) ?_ ?_ 0 (Nat.zero_le _) _ _ _ ⟨hG, hS, lv_sub hl [3, 2, 1, 0] rfl⟩
    · rintro H locs ls ⟨hG, hS, hl⟩
      refine lv_iload_n hx hb dX2_turnClock_49 rfl (lv_at hl 3 rfl) ?_
      refine lv_iload_n hx hb dX2_turnClock_50 rfl (lv_at hl 2 rfl) ?_
      refine lv_icmp_ge (tgt := 71) hx hb dX2_turnClock_51 (by decide) (fun c_4 => ?_) (fun c_4 => absurd (nI_le (Nat.le_refl _) (by decide)) c_4)
      exact g_vret hx hb hrt hlocks hS hG (congrArg (va_up M r) (by unfold fX2_turnClock_P; rw [if_neg c_1])) rfl dX2_turnClock_71
    · rintro k hk_k ih_k H locs ls ⟨hG, hS, hl⟩
      refine lv_iload_n hx hb dX2_turnClock_49 rfl (lv_at hl 3 rfl) ?_
      refine lv_iload_n hx hb dX2_turnClock_50 rfl (lv_at hl 2 rfl) ?_
      refine lv_icmp_ge (tgt := 71) hx hb dX2_turnClock_51 (by decide) (fun c_5 => absurd c_5 (nI_ge hk_k (by decide))) (fun c_5 => ?_)
      refine lv_aload_n hx hb dX2_turnClock_54 rfl (lv_at hl 1 rfl) ?_
      refine lv_iload_n hx hb dX2_turnClock_55 rfl (lv_at hl 3 rfl) ?_
      refine g_aald hx hb hK hG (hV.row 3 (by decide)) (gC_row3 hV.1) (by decide) (by decide) rfl (gLen_row3 hV.1) (j := k) (nI_clamp (by omega)) (vp_in_nI (by omega) (by decide)) (hV.w (i := k) (by omega)) dX2_turnClock_56 ?_
      refine lv_astore (lv' := [(4, .ref (gad Γ (25 * r + 22 + k))), (0, .ref (gad Γ (25 * r))), (1, .ref (gad Γ (25 * r + 3))), (2, .int (nI 3)), (3, .int (nI k))]) hx hb dX2_turnClock_57 hl (by decide) rfl (fun ls hl => ?_)
      refine lv_aload hx hb dX2_turnClock_59 (lv_at hl 0 rfl) ?_
      refine lv_iconst (v := 4) hx hb dX2_turnClock_61 (by decide) ?_
      refine gWg_put hx hb hts in_X5 hown hK hG hS hV.1 (by omega) (hV.wag (i := k) (by omega)) 2 (by decide) k_4 (fun _ h => h) rfl .int (by decide +kernel) rfl rfl (j := 122 + 3 * k + 2) rfl dX2_turnClock_62 (fun H locs hG hS => ?_)
      refine lv_iinc (v := nI (k + 1)) (lv' := [(3, .int (nI (k + 1))), (4, .ref (gad Γ (25 * r + 22 + k))), (0, .ref (gad Γ (25 * r))), (1, .ref (gad Γ (25 * r + 3))), (2, .int (nI 3))]) hx hb dX2_turnClock_65 hl (k := 4) rfl (nI_1 _) (by decide) rfl (fun ls hl => ?_)
      refine lv_goto (tgt := 49) hx hb dX2_turnClock_68 (by decide) ?_
      exact ih_k _ _ _ ⟨hG, hS, lv_sub hl [2, 3, 4, 0] rfl⟩

def fX2_reachHouses_S  (Pk : Nat → Int32) (k : Nat) : Nat → Int32 := if okI (Pk (82 + 5 * k)) (Pk 0) 10 then if ((upd (upd Pk (82 + 5 * k + 4) (fX2_dustFor_v Pk k)) (82 + 5 * k + 2) (((upd Pk (82 + 5 * k + 4) (fX2_dustFor_v Pk k)) (82 + 5 * k + 2)) + ((upd Pk (82 + 5 * k + 4) (fX2_dustFor_v Pk k)) (82 + 5 * k + 4)))) (82 + 5 * k + 4)) < ((upd (upd Pk (82 + 5 * k + 4) (fX2_dustFor_v Pk k)) (82 + 5 * k + 2) (((upd Pk (82 + 5 * k + 4) (fX2_dustFor_v Pk k)) (82 + 5 * k + 2)) + ((upd Pk (82 + 5 * k + 4) (fX2_dustFor_v Pk k)) (82 + 5 * k + 4)))) 7) then upd (upd Pk (82 + 5 * k + 4) (fX2_dustFor_v Pk k)) (82 + 5 * k + 2) (((upd Pk (82 + 5 * k + 4) (fX2_dustFor_v Pk k)) (82 + 5 * k + 2)) + ((upd Pk (82 + 5 * k + 4) (fX2_dustFor_v Pk k)) (82 + 5 * k + 4))) else fX3_hearComplaint_P (upd (upd (upd (upd Pk (82 + 5 * k + 4) (fX2_dustFor_v Pk k)) (82 + 5 * k + 2) (((upd Pk (82 + 5 * k + 4) (fX2_dustFor_v Pk k)) (82 + 5 * k + 2)) + ((upd Pk (82 + 5 * k + 4) (fX2_dustFor_v Pk k)) (82 + 5 * k + 4)))) 10 (((upd (upd Pk (82 + 5 * k + 4) (fX2_dustFor_v Pk k)) (82 + 5 * k + 2) (((upd Pk (82 + 5 * k + 4) (fX2_dustFor_v Pk k)) (82 + 5 * k + 2)) + ((upd Pk (82 + 5 * k + 4) (fX2_dustFor_v Pk k)) (82 + 5 * k + 4)))) 10) + 1)) (82 + 5 * k + 3) (((upd (upd (upd Pk (82 + 5 * k + 4) (fX2_dustFor_v Pk k)) (82 + 5 * k + 2) (((upd Pk (82 + 5 * k + 4) (fX2_dustFor_v Pk k)) (82 + 5 * k + 2)) + ((upd Pk (82 + 5 * k + 4) (fX2_dustFor_v Pk k)) (82 + 5 * k + 4)))) 10 (((upd (upd Pk (82 + 5 * k + 4) (fX2_dustFor_v Pk k)) (82 + 5 * k + 2) (((upd Pk (82 + 5 * k + 4) (fX2_dustFor_v Pk k)) (82 + 5 * k + 2)) + ((upd Pk (82 + 5 * k + 4) (fX2_dustFor_v Pk k)) (82 + 5 * k + 4)))) 10) + 1)) (82 + 5 * k + 3)) + 1)) ((Pk (82 + 5 * k)).toNatClampNeg)  else Pk
def fX2_reachHouses_L  (P : Nat → Int32) : Nat → Nat → Int32
  | 0 => P
  | k + 1 => fX2_reachHouses_S  (fX2_reachHouses_L  P k) k
theorem upd_ne (f : Nat → Int32) {k j : Nat} (v : Int32) (h : j ≠ k) : upd f k v j = f j := if_neg h
theorem hear_lo (P : Nat → Int32) (i j : Nat) (h : j < 12) : fX3_hearComplaint_P P i j = P j := by
  unfold fX3_hearComplaint_P
  split <;> (repeat rw [upd_ne _ _ (by omega)])
theorem fX2_reachHouses_S1 (P : Nat → Int32) (k : Nat) : fX2_reachHouses_S P k 1 = P 1 := by
  unfold fX2_reachHouses_S
  repeat (first | split | rw [hear_lo _ _ _ (by decide)] | rw [upd_ne _ _ (by omega)] | rfl)
theorem fX2_reachHouses_L1 (P : Nat → Int32) : ∀ k, fX2_reachHouses_L P k 1 = P 1
  | 0 => rfl
  | k + 1 => (fX2_reachHouses_S1 _ k).trans (fX2_reachHouses_L1 P k)
def fX2_reachHouses_P (P : Nat → Int32) : Nat → Int32 := fX2_reachHouses_L  P ((P 1).toNatClampNeg)
set_option maxHeartbeats 4000000 in
set_option maxRecDepth 100000 in
theorem mX2_reachHouses {l : Launch} {Γ : gX} (M : Nat → Nat → Int32) (R : Nat → Nat → Option Nat) (O : Int64) {r : Nat} (hV : LV Γ R r) (P : Nat → Int32) (h8 : (P 1).toNatClampNeg ≤ 8) : gMet l Γ yX2_reachHouses wsX2_reachHouses 2 44 [.ref (gad Γ (25 * r))] (va_up M r P) R O none (va_up M r (fX2_reachHouses_P P)) R O := by
  refine g_start (cc := cX2_reachHouses) (maxL := 4) (ret := none) (by decide) rfl (Nat.le_of_ble_eq_true rfl) ?_
  intro p e s m below meth c ls hx hb hml hrt hts hown hlocks hname hK hZ hG hS hl
  have hl : lv_has ls 4 [(0, .ref (gad Γ (25 * r)))] := hl
  have hown : s.vm.findClass RX2 = some m.cls := hown
  have hF : CallFix p m c cX2_reachHouses 4 s _ wsX2_reachHouses RX2 := ⟨hx, hb, hml, hown, hts⟩
  have k_1 : (Cond.fieldLink RX2 39 "RoadDust$Road" "houses" "I").before _ s = true := hts _ (by decide +kernel)
  have in_X2 : ∀ w ∈ wsX20, w ∈ wsX2_reachHouses := by decide +kernel
  have k_3 : (Cond.fieldLink RX2 185 "RoadDust$House" "segment" "I").before _ s = true := hts _ (by decide +kernel)
  have in_X1 : ∀ w ∈ wsX10, w ∈ wsX2_reachHouses := by decide +kernel
  have k_5 : (Cond.fieldLink RX2 190 "RoadDust$House" "got" "I").before _ s = true := hts _ (by decide +kernel)
  have k_6 : (Cond.fieldLink RX2 193 "RoadDust$House" "sum" "I").before _ s = true := hts _ (by decide +kernel)
  have k_7 : (Cond.fieldLink RX2 57 "RoadDust$Road" "bound" "I").before _ s = true := hts _ (by decide +kernel)
  have k_8 : (Cond.fieldLink RX2 66 "RoadDust$Road" "complaints" "I").before _ s = true := hts _ (by decide +kernel)
  have k_9 : (Cond.fieldLink RX2 196 "RoadDust$House" "complaints" "I").before _ s = true := hts _ (by decide +kernel)
  refine lv_iconst (v := 0) hx hb dX2_reachHouses_0 (by decide) ?_
  refine lv_istore_n (lv' := [(1, .int 0), (0, .ref (gad Γ (25 * r)))]) hx hb dX2_reachHouses_1 rfl hl (by decide) rfl (fun ls hl => ?_)
  refine g_loop (N := (P 1).toNatClampNeg) (fun k H locs ls => GH Γ (va_up M r (fX2_reachHouses_L  P k)) R O H ∧ va_S (gA Γ) s.heap H locs ∧ lv_has ls 4 [(0, .ref (gad Γ (25 * r))), (1, .int (nI k))]) ?_ ?_ 0 (Nat.zero_le _) _ _ _ ⟨hG, hS, lv_sub hl [1, 0] rfl⟩
  · rintro H locs ls ⟨hG, hS, hl⟩
    refine lv_iload_n hx hb dX2_reachHouses_2 rfl (lv_at hl 1 rfl) ?_
    refine lv_aload_n hx hb dX2_reachHouses_3 rfl (lv_at hl 0 rfl) ?_
    refine gRd_get hx hb hts in_X2 hown hK hG hV.1 hV.c0 1 (by decide) k_1 (fun _ h => h) (j := 1) rfl dX2_reachHouses_4 ?_
    refine lv_icmp_ge (tgt := 104) hx hb dX2_reachHouses_7 (by decide) (fun c_1 => ?_) (fun c_1 => absurd (by rw [fX2_reachHouses_L1]; exact cl_le _) c_1)
    exact g_vret hx hb hrt hlocks hS hG (congrArg (va_up M r) (by unfold fX2_reachHouses_P; rfl)) rfl dX2_reachHouses_104
  · rintro k hk_k ih_k H locs ls ⟨hG, hS, hl⟩
    refine lv_iload_n hx hb dX2_reachHouses_2 rfl (lv_at hl 1 rfl) ?_
    refine lv_aload_n hx hb dX2_reachHouses_3 rfl (lv_at hl 0 rfl) ?_
    refine gRd_get hx hb hts in_X2 hown hK hG hV.1 hV.c0 1 (by decide) k_1 (fun _ h => h) (j := 1) rfl dX2_reachHouses_4 ?_
    refine lv_icmp_ge (tgt := 104) hx hb dX2_reachHouses_7 (by decide) (fun c_2 => absurd c_2 (by rw [fX2_reachHouses_L1]; exact cl_ge hk_k)) (fun c_2 => ?_)
    refine lv_aload_n hx hb dX2_reachHouses_10 rfl (lv_at hl 0 rfl) ?_
    refine lv_iload_n hx hb dX2_reachHouses_11 rfl (lv_at hl 1 rfl) ?_
    have c_3 : okI (nI k) ((fX2_reachHouses_L  P k) 1) 8 := okI_k (b := 8) (n := fX2_reachHouses_L  P k 1) rfl (by rw [fX2_reachHouses_L1]; exact hk_k) (by omega) (by decide)
    refine g_callV (As := [.int (nI k)]) (rest := []) (st1 := [.ref (gad Γ (25 * r + 14 + k))]) hF (mX2_houseAt_y M R O hV (fX2_reachHouses_L  P k) c_3 (j := k) (nI_clamp (by omega))) (cwV 1 hts gX2_reachHouses_X2_houseAt rfl rfl rfl (by decide +kernel) ⟨Nat.le_of_ble_eq_true rfl, Nat.le_of_ble_eq_true rfl⟩) hK hZ hG hS hV.c0 (gC_Rd hV.1) (by decide) rfl rfl hl.1 (Nat.le_of_ble_eq_true rfl) dX2_reachHouses_12 ⟨Nat.zero_le _, Nat.zero_le _⟩ rfl rfl (fun H locs hG hS => ?_)
    refine lv_astore_n (lv' := [(2, .ref (gad Γ (25 * r + 14 + k))), (0, .ref (gad Γ (25 * r))), (1, .int (nI k))]) hx hb dX2_reachHouses_15 rfl hl (by decide) rfl (fun ls hl => ?_)
    refine lv_aload_n hx hb dX2_reachHouses_16 rfl (lv_at hl 0 rfl) ?_
    refine lv_ifnonnull (tgt := 24) hx hb dX2_reachHouses_17 (by decide) ?_
    refine lv_aload_n hx hb dX2_reachHouses_24 rfl (lv_at hl 1 rfl) ?_
    refine lv_aload_n hx hb dX2_reachHouses_25 rfl (lv_at hl 0 rfl) ?_
    refine gHs_get hx hb hts in_X1 hown hK hG hV.1 (by omega) (hV.hou (i := k) (by omega)) 0 (by decide) k_3 (fun _ h => h) (j := 82 + 5 * k) rfl dX2_reachHouses_26 ?_
    by_cases c_4 : okI ((fX2_reachHouses_L  P k) (82 + 5 * k)) ((fX2_reachHouses_L  P k) 0) 10
    · --ok
      refine g_callV (As := [.int ((fX2_reachHouses_L  P k) (82 + 5 * k))]) (rest := []) (st1 := [.ref (gad Γ (25 * r + 4 + (((fX2_reachHouses_L  P k) (82 + 5 * k)).toNatClampNeg)))]) hF (mX2_segmentAt_y M R O hV (fX2_reachHouses_L  P k) c_4 (j := ((fX2_reachHouses_L  P k) (82 + 5 * k)).toNatClampNeg) rfl) (cwV 1 hts gX2_reachHouses_X2_segmentAt rfl rfl rfl (by decide +kernel) ⟨Nat.le_of_ble_eq_true rfl, Nat.le_of_ble_eq_true rfl⟩) hK hZ hG hS hV.c0 (gC_Rd hV.1) (by decide) rfl rfl hl.1 (Nat.le_of_ble_eq_true rfl) dX2_reachHouses_29 ⟨Nat.zero_le _, Nat.zero_le _⟩ rfl rfl (fun H locs hG hS => ?_)
      refine lv_astore_n (lv' := [(3, .ref (gad Γ (25 * r + 4 + (((fX2_reachHouses_L  P k) (82 + 5 * k)).toNatClampNeg)))), (2, .ref (gad Γ (25 * r + 14 + k))), (0, .ref (gad Γ (25 * r))), (1, .int (nI k))]) hx hb dX2_reachHouses_32 rfl hl (by decide) rfl (fun ls hl => ?_)
      refine lv_aload_n hx hb dX2_reachHouses_33 rfl (lv_at hl 1 rfl) ?_
      refine lv_ifnull hx hb dX2_reachHouses_34 ?_
      refine lv_aload_n hx hb dX2_reachHouses_37 rfl (lv_at hl 0 rfl) ?_
      refine lv_ifnull hx hb dX2_reachHouses_38 ?_
      refine lv_aload_n hx hb dX2_reachHouses_41 rfl (lv_at hl 1 rfl) ?_
      refine lv_aload_n hx hb dX2_reachHouses_42 rfl (lv_at hl 2 rfl) ?_
      refine lv_aload_n hx hb dX2_reachHouses_43 rfl (lv_at hl 1 rfl) ?_
      refine g_callV (As := [.ref (gad Γ (25 * r + 14 + k))]) (rest := [.ref (gad Γ (25 * r + 14 + k))]) (st1 := [.int (fX2_dustFor_v (fX2_reachHouses_L  P k) k), .ref (gad Γ (25 * r + 14 + k))]) hF (mX2_dustFor M R O hV (fX2_reachHouses_L  P k) (i := k) (by omega)) (cwV 1 hts gX2_reachHouses_X2_dustFor rfl rfl rfl (by decide +kernel) ⟨Nat.le_of_ble_eq_true rfl, Nat.le_of_ble_eq_true rfl⟩) hK hZ hG hS hV.c0 (gC_Rd hV.1) (by decide) rfl rfl hl.1 (Nat.le_of_ble_eq_true rfl) dX2_reachHouses_44 ⟨Nat.zero_le _, Nat.zero_le _⟩ rfl rfl (fun H locs hG hS => ?_)
      refine gHs_put hx hb hts in_X1 hown hK hG hS hV.1 (by omega) (hV.hou (i := k) (by omega)) 4 (by decide) k_5 (fun _ h => h) rfl .int (by decide +kernel) rfl rfl (j := 82 + 5 * k + 4) rfl dX2_reachHouses_47 (fun H locs hG hS => ?_)
      refine lv_aload_n hx hb dX2_reachHouses_50 rfl (lv_at hl 1 rfl) ?_
      refine lv_dup hx hb dX2_reachHouses_51 rfl ?_
      refine gHs_get hx hb hts in_X1 hown hK hG hV.1 (by omega) (hV.hou (i := k) (by omega)) 2 (by decide) k_6 (fun _ h => h) (j := 82 + 5 * k + 2) rfl dX2_reachHouses_52 ?_
      refine lv_aload_n hx hb dX2_reachHouses_55 rfl (lv_at hl 1 rfl) ?_
      refine gHs_get hx hb hts in_X1 hown hK hG hV.1 (by omega) (hV.hou (i := k) (by omega)) 4 (by decide) k_5 (fun _ h => h) (j := 82 + 5 * k + 4) rfl dX2_reachHouses_56 ?_
      refine lv_iadd hx hb dX2_reachHouses_59 ?_
      refine gHs_put hx hb hts in_X1 hown hK hG hS hV.1 (by omega) (hV.hou (i := k) (by omega)) 2 (by decide) k_6 (fun _ h => h) rfl .int (by decide +kernel) rfl rfl (j := 82 + 5 * k + 2) rfl dX2_reachHouses_60 (fun H locs hG hS => ?_)
      refine lv_aload_n hx hb dX2_reachHouses_63 rfl (lv_at hl 1 rfl) ?_
      refine gHs_get hx hb hts in_X1 hown hK hG hV.1 (by omega) (hV.hou (i := k) (by omega)) 4 (by decide) k_5 (fun _ h => h) (j := 82 + 5 * k + 4) rfl dX2_reachHouses_64 ?_
      refine lv_aload_n hx hb dX2_reachHouses_67 rfl (lv_at hl 2 rfl) ?_
      refine gRd_get hx hb hts in_X2 hown hK hG hV.1 hV.c0 7 (by decide) k_7 (fun _ h => h) (j := 7) rfl dX2_reachHouses_68 ?_
      refine lv_icmp_lt (tgt := 98) hx hb dX2_reachHouses_71 (by decide) (fun c_5 => ?_) (fun c_5 => ?_)
      · --T
        refine lv_iinc (v := nI (k + 1)) (lv' := [(1, .int (nI (k + 1))), (3, .ref (gad Γ (25 * r + 4 + (((fX2_reachHouses_L  P k) (82 + 5 * k)).toNatClampNeg)))), (2, .ref (gad Γ (25 * r + 14 + k))), (0, .ref (gad Γ (25 * r)))]) hx hb dX2_reachHouses_98 hl (k := 3) rfl (nI_1 _) (by decide) rfl (fun ls hl => ?_)
        refine lv_goto (tgt := 2) hx hb dX2_reachHouses_101 (by decide) ?_
        exact ih_k _ _ _ ⟨g_st (congrArg (va_up M r) (by show _ = fX2_reachHouses_S  (fX2_reachHouses_L  P k) k; unfold fX2_reachHouses_S; rw [if_pos c_4, if_pos c_5])) hG, hS, lv_sub hl [3, 0] rfl⟩
      · --F
        refine lv_aload_n hx hb dX2_reachHouses_74 rfl (lv_at hl 2 rfl) ?_
        refine lv_dup hx hb dX2_reachHouses_75 rfl ?_
        refine gRd_get hx hb hts in_X2 hown hK hG hV.1 hV.c0 10 (by decide) k_8 (fun _ h => h) (j := 10) rfl dX2_reachHouses_76 ?_
        refine lv_iconst (v := 1) hx hb dX2_reachHouses_79 (by decide) ?_
        refine lv_iadd hx hb dX2_reachHouses_80 ?_
        refine gRd_put hx hb hts in_X2 hown hK hG hS hV.1 hV.c0 10 (by decide) k_8 (fun _ h => h) rfl .int (by decide +kernel) rfl rfl (j := 10) rfl dX2_reachHouses_81 (fun H locs hG hS => ?_)
        refine lv_aload_n hx hb dX2_reachHouses_84 rfl (lv_at hl 1 rfl) ?_
        refine lv_dup hx hb dX2_reachHouses_85 rfl ?_
        refine gHs_get hx hb hts in_X1 hown hK hG hV.1 (by omega) (hV.hou (i := k) (by omega)) 3 (by decide) k_9 (fun _ h => h) (j := 82 + 5 * k + 3) rfl dX2_reachHouses_86 ?_
        refine lv_iconst (v := 1) hx hb dX2_reachHouses_89 (by decide) ?_
        refine lv_iadd hx hb dX2_reachHouses_90 ?_
        refine gHs_put hx hb hts in_X1 hown hK hG hS hV.1 (by omega) (hV.hou (i := k) (by omega)) 3 (by decide) k_9 (fun _ h => h) rfl .int (by decide +kernel) rfl rfl (j := 82 + 5 * k + 3) rfl dX2_reachHouses_91 (fun H locs hG hS => ?_)
        refine lv_aload_n hx hb dX2_reachHouses_94 rfl (lv_at hl 0 rfl) ?_
        refine g_callV (As := []) (rest := []) (st1 := []) hF (mX3_hearComplaint M R O hV.1 (okI_lt (k := 10) rfl (by decide) c_4) (hV.seg (i := ((fX2_reachHouses_L  P k) (82 + 5 * k)).toNatClampNeg) (okI_lt (k := 10) rfl (by decide) c_4)) (upd (upd (upd (upd (fX2_reachHouses_L  P k) (82 + 5 * k + 4) (fX2_dustFor_v (fX2_reachHouses_L  P k) k)) (82 + 5 * k + 2) (((upd (fX2_reachHouses_L  P k) (82 + 5 * k + 4) (fX2_dustFor_v (fX2_reachHouses_L  P k) k)) (82 + 5 * k + 2)) + ((upd (fX2_reachHouses_L  P k) (82 + 5 * k + 4) (fX2_dustFor_v (fX2_reachHouses_L  P k) k)) (82 + 5 * k + 4)))) 10 (((upd (upd (fX2_reachHouses_L  P k) (82 + 5 * k + 4) (fX2_dustFor_v (fX2_reachHouses_L  P k) k)) (82 + 5 * k + 2) (((upd (fX2_reachHouses_L  P k) (82 + 5 * k + 4) (fX2_dustFor_v (fX2_reachHouses_L  P k) k)) (82 + 5 * k + 2)) + ((upd (fX2_reachHouses_L  P k) (82 + 5 * k + 4) (fX2_dustFor_v (fX2_reachHouses_L  P k) k)) (82 + 5 * k + 4)))) 10) + 1)) (82 + 5 * k + 3) (((upd (upd (upd (fX2_reachHouses_L  P k) (82 + 5 * k + 4) (fX2_dustFor_v (fX2_reachHouses_L  P k) k)) (82 + 5 * k + 2) (((upd (fX2_reachHouses_L  P k) (82 + 5 * k + 4) (fX2_dustFor_v (fX2_reachHouses_L  P k) k)) (82 + 5 * k + 2)) + ((upd (fX2_reachHouses_L  P k) (82 + 5 * k + 4) (fX2_dustFor_v (fX2_reachHouses_L  P k) k)) (82 + 5 * k + 4)))) 10 (((upd (upd (fX2_reachHouses_L  P k) (82 + 5 * k + 4) (fX2_dustFor_v (fX2_reachHouses_L  P k) k)) (82 + 5 * k + 2) (((upd (fX2_reachHouses_L  P k) (82 + 5 * k + 4) (fX2_dustFor_v (fX2_reachHouses_L  P k) k)) (82 + 5 * k + 2)) + ((upd (fX2_reachHouses_L  P k) (82 + 5 * k + 4) (fX2_dustFor_v (fX2_reachHouses_L  P k) k)) (82 + 5 * k + 4)))) 10) + 1)) (82 + 5 * k + 3)) + 1)) ) (cwV 0 hts gX2_reachHouses_X3_hearComplaint rfl rfl rfl (by decide +kernel) ⟨Nat.le_of_ble_eq_true rfl, Nat.le_of_ble_eq_true rfl⟩) hK hZ hG hS (hV.seg (i := ((fX2_reachHouses_L  P k) (82 + 5 * k)).toNatClampNeg) (okI_lt (k := 10) rfl (by decide) c_4)) (gC_S hV.1 (okI_lt (k := 10) rfl (by decide) c_4)) (by decide) rfl rfl hl.1 (Nat.le_of_ble_eq_true rfl) dX2_reachHouses_95 ⟨Nat.zero_le _, Nat.zero_le _⟩ rfl rfl (fun H locs hG hS => ?_)
        refine lv_iinc (v := nI (k + 1)) (lv' := [(1, .int (nI (k + 1))), (3, .ref (gad Γ (25 * r + 4 + (((fX2_reachHouses_L  P k) (82 + 5 * k)).toNatClampNeg)))), (2, .ref (gad Γ (25 * r + 14 + k))), (0, .ref (gad Γ (25 * r)))]) hx hb dX2_reachHouses_98 hl (k := 3) rfl (nI_1 _) (by decide) rfl (fun ls hl => ?_)
        refine lv_goto (tgt := 2) hx hb dX2_reachHouses_101 (by decide) ?_
        exact ih_k _ _ _ ⟨g_st (congrArg (va_up M r) (by show _ = fX2_reachHouses_S  (fX2_reachHouses_L  P k) k; unfold fX2_reachHouses_S; rw [if_pos c_4, if_neg c_5])) hG, hS, lv_sub hl [3, 0] rfl⟩
    · --none
      refine g_callV (As := [.int ((fX2_reachHouses_L  P k) (82 + 5 * k))]) (rest := []) (st1 := [.null]) hF (mX2_segmentAt_n M R O hV (fX2_reachHouses_L  P k) c_4) (cwV 1 hts gX2_reachHouses_X2_segmentAt rfl rfl rfl (by decide +kernel) ⟨Nat.le_of_ble_eq_true rfl, Nat.le_of_ble_eq_true rfl⟩) hK hZ hG hS hV.c0 (gC_Rd hV.1) (by decide) rfl rfl hl.1 (Nat.le_of_ble_eq_true rfl) dX2_reachHouses_29 ⟨Nat.zero_le _, Nat.zero_le _⟩ rfl rfl (fun H locs hG hS => ?_)
      refine lv_astore_nN (lv' := [(3, .null), (2, .ref (gad Γ (25 * r + 14 + k))), (0, .ref (gad Γ (25 * r))), (1, .int (nI k))]) hx hb dX2_reachHouses_32 rfl hl (by decide) rfl (fun ls hl => ?_)
      refine lv_aload_n hx hb dX2_reachHouses_33 rfl (lv_at hl 1 rfl) ?_
      refine lv_ifnull hx hb dX2_reachHouses_34 ?_
      refine lv_aload_nN hx hb dX2_reachHouses_37 rfl (lv_at hl 0 rfl) ?_
      refine lv_ifnullN (tgt := 98) hx hb dX2_reachHouses_38 (by decide) ?_
      refine lv_iinc (v := nI (k + 1)) (lv' := [(1, .int (nI (k + 1))), (3, .null), (2, .ref (gad Γ (25 * r + 14 + k))), (0, .ref (gad Γ (25 * r)))]) hx hb dX2_reachHouses_98 hl (k := 3) rfl (nI_1 _) (by decide) rfl (fun ls hl => ?_)
      refine lv_goto (tgt := 2) hx hb dX2_reachHouses_101 (by decide) ?_
      exact ih_k _ _ _ ⟨g_st (congrArg (va_up M r) (by show _ = fX2_reachHouses_S  (fX2_reachHouses_L  P k) k; unfold fX2_reachHouses_S; rw [if_neg c_4])) hG, hS, lv_sub hl [3, 0] rfl⟩

theorem fX2_raiseDust_S1 (P : Nat → Int32) (k j : Nat) (h : j < 12) : fX2_raiseDust_S P k j = P j := by
  unfold fX2_raiseDust_S fX3_raise_P fX3_dry_P
  repeat rw [upd_ne _ _ (by omega)]
theorem fX2_raiseDust_L1 (P : Nat → Int32) (j : Nat) (h : j < 12) : ∀ k, fX2_raiseDust_L P k j = P j
  | 0 => rfl
  | k + 1 => (fX2_raiseDust_S1 _ k j h).trans (fX2_raiseDust_L1 P j h k)
theorem h8_hour {P : Nat → Int32} (h8 : (P 1).toNatClampNeg ≤ 8) : ((fX2_raiseDust_P P) 1).toNatClampNeg ≤ 8 := by
  unfold fX2_raiseDust_P
  rw [fX2_raiseDust_L1 P 1 (by decide)]
  exact h8
def fX2_goHour_S  (Pk : Nat → Int32) (k : Nat) : Nat → Int32 := fX3_settle_P Pk k 
def fX2_goHour_L  (P : Nat → Int32) : Nat → Nat → Int32
  | 0 => P
  | k + 1 => fX2_goHour_S  (fX2_goHour_L  P k) k
def fX2_goHour_P (P : Nat → Int32) : Nat → Int32 := fX2_turnClock_P (fX2_goHour_L  (fX2_reachHouses_P (fX2_raiseDust_P P )) 10) 
set_option maxHeartbeats 4000000 in
set_option maxRecDepth 100000 in
theorem mX2_goHour {l : Launch} {Γ : gX} (M : Nat → Nat → Int32) (R : Nat → Nat → Option Nat) (O : Int64) {r : Nat} (hV : LV Γ R r) (P : Nat → Int32) (h8 : (P 1).toNatClampNeg ≤ 8) : gMet l Γ yX2_goHour wsX2_goHour 3 68 [.ref (gad Γ (25 * r))] (va_up M r P) R O none (va_up M r (fX2_goHour_P P)) R O := by
  refine g_start (cc := cX2_goHour) (maxL := 5) (ret := none) (by decide) rfl (Nat.le_of_ble_eq_true rfl) ?_
  intro p e s m below meth c ls hx hb hml hrt hts hown hlocks hname hK hZ hG hS hl
  have hl : lv_has ls 5 [(0, .ref (gad Γ (25 * r)))] := hl
  have hown : s.vm.findClass RX2 = some m.cls := hown
  have hF : CallFix p m c cX2_goHour 5 s _ wsX2_goHour RX2 := ⟨hx, hb, hml, hown, hts⟩
  have k_1 : (Cond.fieldLink RX2 11 "RoadDust$Road" "segmentRow" "[LRoadDust$Segment;").before _ s = true := hts _ (by decide +kernel)
  have in_X2 : ∀ w ∈ wsX20, w ∈ wsX2_goHour := by decide +kernel
  refine lv_aload_n hx hb dX2_goHour_0 rfl (lv_at hl 0 rfl) ?_
  refine g_callV (As := []) (rest := []) (st1 := []) hF (mX2_raiseDust M R O hV P ) (cwV 0 hts gX2_goHour_X2_raiseDust rfl rfl rfl (by decide +kernel) ⟨Nat.le_of_ble_eq_true rfl, Nat.le_of_ble_eq_true rfl⟩) hK hZ hG hS hV.c0 (gC_Rd hV.1) (by decide) rfl rfl hl.1 (Nat.le_of_ble_eq_true rfl) dX2_goHour_1 ⟨Nat.zero_le _, Nat.zero_le _⟩ rfl rfl (fun H locs hG hS => ?_)
  refine lv_aload_n hx hb dX2_goHour_4 rfl (lv_at hl 0 rfl) ?_
  refine g_callV (As := []) (rest := []) (st1 := []) hF (mX2_reachHouses M R O hV (fX2_raiseDust_P P ) (h8_hour h8)) (cwV 0 hts gX2_goHour_X2_reachHouses rfl rfl rfl (by decide +kernel) ⟨Nat.le_of_ble_eq_true rfl, Nat.le_of_ble_eq_true rfl⟩) hK hZ hG hS hV.c0 (gC_Rd hV.1) (by decide) rfl rfl hl.1 (Nat.le_of_ble_eq_true rfl) dX2_goHour_5 ⟨Nat.zero_le _, Nat.zero_le _⟩ rfl rfl (fun H locs hG hS => ?_)
  refine lv_aload_n hx hb dX2_goHour_8 rfl (lv_at hl 0 rfl) ?_
  refine gRd_getr hx hb hts in_X2 hown hK hG hV.1 hV.c0 12 (by decide) rfl hV.2.2.1 k_1 (fun _ h => h) dX2_goHour_9 ?_
  refine lv_astore_n (lv' := [(1, .ref (gad Γ (25 * r + 1))), (0, .ref (gad Γ (25 * r)))]) hx hb dX2_goHour_12 rfl hl (by decide) rfl (fun ls hl => ?_)
  refine lv_aload_n hx hb dX2_goHour_13 rfl (lv_at hl 0 rfl) ?_
  refine g_alen hx hb hK hG (hV.row 1 (by decide)) (gC_row1 hV.1) (by decide) (by decide) (gLen_row1 hV.1) dX2_goHour_14 ?_
  refine lv_istore_n (lv' := [(2, .int (nI 10)), (1, .ref (gad Γ (25 * r + 1))), (0, .ref (gad Γ (25 * r)))]) hx hb dX2_goHour_15 rfl hl (by decide) rfl (fun ls hl => ?_)
  refine lv_iconst (v := 0) hx hb dX2_goHour_16 (by decide) ?_
  refine lv_istore_n (lv' := [(3, .int 0), (2, .int (nI 10)), (1, .ref (gad Γ (25 * r + 1))), (0, .ref (gad Γ (25 * r)))]) hx hb dX2_goHour_17 rfl hl (by decide) rfl (fun ls hl => ?_)
  refine g_loop (N := 10) (fun k H locs ls => GH Γ (va_up M r (fX2_goHour_L  (fX2_reachHouses_P (fX2_raiseDust_P P )) k)) R O H ∧ va_S (gA Γ) s.heap H locs ∧ lv_has ls 5 [(0, .ref (gad Γ (25 * r))), (1, .ref (gad Γ (25 * r + 1))), (2, .int (nI 10)), (3, .int (nI k))]) ?_ ?_ 0 (Nat.zero_le _) _ _ _ ⟨hG, hS, lv_sub hl [3, 2, 1, 0] rfl⟩
  · rintro H locs ls ⟨hG, hS, hl⟩
    refine lv_iload_n hx hb dX2_goHour_18 rfl (lv_at hl 3 rfl) ?_
    refine lv_iload_n hx hb dX2_goHour_19 rfl (lv_at hl 2 rfl) ?_
    refine lv_icmp_ge (tgt := 39) hx hb dX2_goHour_20 (by decide) (fun c_1 => ?_) (fun c_1 => absurd (nI_le (Nat.le_refl _) (by decide)) c_1)
    refine lv_aload_n hx hb dX2_goHour_39 rfl (lv_at hl 0 rfl) ?_
    refine g_callV (As := []) (rest := []) (st1 := []) hF (mX2_turnClock M R O hV (fX2_goHour_L  (fX2_reachHouses_P (fX2_raiseDust_P P )) 10) ) (cwV 0 hts gX2_goHour_X2_turnClock rfl rfl rfl (by decide +kernel) ⟨Nat.le_of_ble_eq_true rfl, Nat.le_of_ble_eq_true rfl⟩) hK hZ hG hS hV.c0 (gC_Rd hV.1) (by decide) rfl rfl hl.1 (Nat.le_of_ble_eq_true rfl) dX2_goHour_40 ⟨Nat.zero_le _, Nat.zero_le _⟩ rfl rfl (fun H locs hG hS => ?_)
    exact g_vret hx hb hrt hlocks hS hG (congrArg (va_up M r) (by unfold fX2_goHour_P; rfl)) rfl dX2_goHour_43
  · rintro k hk_k ih_k H locs ls ⟨hG, hS, hl⟩
    refine lv_iload_n hx hb dX2_goHour_18 rfl (lv_at hl 3 rfl) ?_
    refine lv_iload_n hx hb dX2_goHour_19 rfl (lv_at hl 2 rfl) ?_
    refine lv_icmp_ge (tgt := 39) hx hb dX2_goHour_20 (by decide) (fun c_2 => absurd c_2 (nI_ge hk_k (by decide))) (fun c_2 => ?_)
    refine lv_aload_n hx hb dX2_goHour_23 rfl (lv_at hl 1 rfl) ?_
    refine lv_iload_n hx hb dX2_goHour_24 rfl (lv_at hl 3 rfl) ?_
    refine g_aald hx hb hK hG (hV.row 1 (by decide)) (gC_row1 hV.1) (by decide) (by decide) rfl (gLen_row1 hV.1) (j := k) (nI_clamp (by omega)) (vp_in_nI (by omega) (by decide)) (hV.s (i := k) (by omega)) dX2_goHour_25 ?_
    refine lv_astore (lv' := [(4, .ref (gad Γ (25 * r + 4 + k))), (0, .ref (gad Γ (25 * r))), (1, .ref (gad Γ (25 * r + 1))), (2, .int (nI 10)), (3, .int (nI k))]) hx hb dX2_goHour_26 hl (by decide) rfl (fun ls hl => ?_)
    refine lv_aload hx hb dX2_goHour_28 (lv_at hl 0 rfl) ?_
    refine g_callV (As := []) (rest := []) (st1 := []) hF (mX3_settle M R O hV.1 (by omega) (hV.seg (i := k) (by omega)) (fX2_goHour_L  (fX2_reachHouses_P (fX2_raiseDust_P P )) k) ) (cwV 0 hts gX2_goHour_X3_settle rfl rfl rfl (by decide +kernel) ⟨Nat.le_of_ble_eq_true rfl, Nat.le_of_ble_eq_true rfl⟩) hK hZ hG hS (hV.seg (i := k) (by omega)) (gC_S hV.1 (by omega)) (by decide) rfl rfl hl.1 (Nat.le_of_ble_eq_true rfl) dX2_goHour_30 ⟨Nat.zero_le _, Nat.zero_le _⟩ rfl rfl (fun H locs hG hS => ?_)
    refine lv_iinc (v := nI (k + 1)) (lv' := [(3, .int (nI (k + 1))), (4, .ref (gad Γ (25 * r + 4 + k))), (0, .ref (gad Γ (25 * r))), (1, .ref (gad Γ (25 * r + 1))), (2, .int (nI 10))]) hx hb dX2_goHour_33 hl (k := 4) rfl (nI_1 _) (by decide) rfl (fun ls hl => ?_)
    refine lv_goto (tgt := 18) hx hb dX2_goHour_36 (by decide) ?_
    exact ih_k _ _ _ ⟨hG, hS, lv_sub hl [2, 3, 4, 0] rfl⟩

theorem fX2_goHour_S1 (P : Nat → Int32) (k j : Nat) (h : j < 12) : fX2_goHour_S P k j = P j := by
  unfold fX2_goHour_S fX3_settle_P
  rw [upd_ne _ _ (by omega)]
theorem fX2_goHour_L1 (P : Nat → Int32) (j : Nat) (h : j < 12) : ∀ k, fX2_goHour_L P k j = P j
  | 0 => rfl
  | k + 1 => (fX2_goHour_S1 _ k j h).trans (fX2_goHour_L1 P j h k)
theorem fX2_turnClock_S1 (P : Nat → Int32) (k j : Nat) (h : j < 12) : fX2_turnClock_S P k j = P j := by
  unfold fX2_turnClock_S
  rw [upd_ne _ _ (by omega)]
theorem fX2_turnClock_L1 (P : Nat → Int32) (j : Nat) (h : j < 12) : ∀ k, fX2_turnClock_L P k j = P j
  | 0 => rfl
  | k + 1 => (fX2_turnClock_S1 _ k j h).trans (fX2_turnClock_L1 P j h k)
theorem fX2_turnClock_1 (P : Nat → Int32) : fX2_turnClock_P P 1 = P 1 := by
  unfold fX2_turnClock_P
  split <;> rw [fX2_turnClock_L1 _ _ (by decide)] <;> (repeat rw [upd_ne _ _ (by decide)])
theorem fX2_goHour_1 (P : Nat → Int32) : fX2_goHour_P P 1 = P 1 := by
  unfold fX2_goHour_P
  rw [fX2_turnClock_1, fX2_goHour_L1 _ _ (by decide)]
  unfold fX2_reachHouses_P
  rw [fX2_reachHouses_L1]
  unfold fX2_raiseDust_P
  rw [fX2_raiseDust_L1 _ _ (by decide)]
def fX2_goHours_S  (Pk : Nat → Int32) (k : Nat) : Nat → Int32 := fX2_goHour_P Pk
def fX2_goHours_L  (P : Nat → Int32) : Nat → Nat → Int32
  | 0 => P
  | k + 1 => fX2_goHours_S  (fX2_goHours_L  P k) k
theorem fX2_goHours_L1 (P : Nat → Int32) : ∀ k, fX2_goHours_L P k 1 = P 1
  | 0 => rfl
  | k + 1 => (fX2_goHour_1 _).trans (fX2_goHours_L1 P k)
def fX2_goHours_v (P : Nat → Int32) (a : Int32) : Int32 := if (fX6_within_v a 1 50) = 0 then (-2) else ((fX2_goHours_L  P a.toNatClampNeg) 10) - (P 10)
def fX2_goHours_P (P : Nat → Int32) (a : Int32) : Nat → Int32 := if (fX6_within_v a 1 50) = 0 then P else fX2_goHours_L  P a.toNatClampNeg
set_option maxHeartbeats 4000000 in
set_option maxRecDepth 100000 in
theorem mX2_goHours {l : Launch} {Γ : gX} (M : Nat → Nat → Int32) (R : Nat → Nat → Option Nat) (O : Int64) {r : Nat} (hV : LV Γ R r) (P : Nat → Int32) (a : Int32) (h8 : (P 1).toNatClampNeg ≤ 8) : gMet l Γ yX2_goHours wsX2_goHours 4 92 [.ref (gad Γ (25 * r)), .int a] (va_up M r P) R O (some (.int (fX2_goHours_v P a))) (va_up M r (fX2_goHours_P P a)) R O := by
  refine g_start (cc := cX2_goHours) (maxL := 4) (ret := (some .int)) (by decide) rfl (Nat.le_of_ble_eq_true rfl) ?_
  intro p e s m below meth c ls hx hb hml hrt hts hown hlocks hname hK hZ hG hS hl
  have hl : lv_has ls 4 [(0, .ref (gad Γ (25 * r))), (1, .int a)] := hl
  have hown : s.vm.findClass RX2 = some m.cls := hown
  have hF : CallFix p m c cX2_goHours 4 s _ wsX2_goHours RX2 := ⟨hx, hb, hml, hown, hts⟩
  have k_1 : (Cond.initialized RX6).before _ s = true := hts _ (by decide +kernel)
  have k_2 : (Cond.static yX6_within).before _ s = true := hts _ (by decide +kernel)
  have k_3 : (Cond.fieldLink RX2 66 "RoadDust$Road" "complaints" "I").before _ s = true := hts _ (by decide +kernel)
  have in_X2 : ∀ w ∈ wsX20, w ∈ wsX2_goHours := by decide +kernel
  refine lv_iload_n hx hb dX2_goHours_0 rfl (lv_at hl 1 rfl) ?_
  refine lv_iconst (v := 1) hx hb dX2_goHours_1 (by decide) ?_
  refine lv_bipush (v := 50) hx hb dX2_goHours_2 (by decide) ?_
  refine g_callSN (As := [.int a, .int 1, .int 50]) (rest := []) (st1 := [.int (fX6_within_v a 1 50)]) hF (mX6_within _ R O a 1 50) ⟨va_cnB 3 hts gX2_goHours_X6_within_n103 rfl rfl rfl hK.2.2.2.2.2.2 k_1 (by decide +kernel) ⟨Nat.le_of_ble_eq_true rfl, Nat.le_of_ble_eq_true rfl⟩, k_2, trivial⟩ hK hZ hG hS rfl hl.1 (Nat.le_of_ble_eq_true rfl) dX2_goHours_4 ⟨Nat.zero_le _, Nat.zero_le _⟩ rfl rfl (fun H locs hG hS => ?_)
  refine lv_if_ne (tgt := 13) hx hb dX2_goHours_7 (by decide) (fun c_1 => ?_) (fun c_1 => ?_)
  · --T
    refine lv_aload_n hx hb dX2_goHours_13 rfl (lv_at hl 0 rfl) ?_
    refine gRd_get hx hb hts in_X2 hown hK hG hV.1 hV.c0 10 (by decide) k_3 (fun _ h => h) (j := 10) rfl dX2_goHours_14 ?_
    refine lv_istore_n (lv' := [(2, .int (P 10)), (0, .ref (gad Γ (25 * r))), (1, .int a)]) hx hb dX2_goHours_17 rfl hl (by decide) rfl (fun ls hl => ?_)
    refine lv_iconst (v := 0) hx hb dX2_goHours_18 (by decide) ?_
    refine lv_istore_n (lv' := [(3, .int 0), (2, .int (P 10)), (0, .ref (gad Γ (25 * r))), (1, .int a)]) hx hb dX2_goHours_19 rfl hl (by decide) rfl (fun ls hl => ?_)
    refine g_loop (N := a.toNatClampNeg) (fun k H locs ls => GH Γ (va_up M r (fX2_goHours_L  P k)) R O H ∧ va_S (gA Γ) s.heap H locs ∧ lv_has ls 4 [(0, .ref (gad Γ (25 * r))), (1, .int a), (2, .int (P 10)), (3, .int (nI k))]) ?_ ?_ 0 (Nat.zero_le _) _ _ _ ⟨hG, hS, lv_sub hl [2, 3, 1, 0] rfl⟩
    · rintro H locs ls ⟨hG, hS, hl⟩
      refine lv_iload_n hx hb dX2_goHours_20 rfl (lv_at hl 3 rfl) ?_
      refine lv_iload_n hx hb dX2_goHours_21 rfl (lv_at hl 1 rfl) ?_
      refine lv_icmp_ge (tgt := 35) hx hb dX2_goHours_22 (by decide) (fun c_2 => ?_) (fun c_2 => absurd (cl_le _) c_2)
      refine lv_aload_n hx hb dX2_goHours_35 rfl (lv_at hl 0 rfl) ?_
      refine gRd_get hx hb hts in_X2 hown hK hG hV.1 hV.c0 10 (by decide) k_3 (fun _ h => h) (j := 10) rfl dX2_goHours_36 ?_
      refine lv_iload_n hx hb dX2_goHours_39 rfl (lv_at hl 2 rfl) ?_
      refine lv_isub hx hb dX2_goHours_40 ?_
      exact g_iret hx hb hrt hlocks hS hG (by unfold fX2_goHours_v; rw [if_neg c_1]) (congrArg (va_up M r) (by unfold fX2_goHours_P; rw [if_neg c_1])) dX2_goHours_41
    · rintro k hk_k ih_k H locs ls ⟨hG, hS, hl⟩
      refine lv_iload_n hx hb dX2_goHours_20 rfl (lv_at hl 3 rfl) ?_
      refine lv_iload_n hx hb dX2_goHours_21 rfl (lv_at hl 1 rfl) ?_
      refine lv_icmp_ge (tgt := 35) hx hb dX2_goHours_22 (by decide) (fun c_3 => absurd c_3 (cl_ge hk_k)) (fun c_3 => ?_)
      refine lv_aload_n hx hb dX2_goHours_25 rfl (lv_at hl 0 rfl) ?_
      refine g_callV (As := []) (rest := []) (st1 := []) hF (mX2_goHour M R O hV (fX2_goHours_L  P k) (by rw [fX2_goHours_L1]; exact h8)) (cwV 0 hts gX2_goHours_X2_goHour rfl rfl rfl (by decide +kernel) ⟨Nat.le_of_ble_eq_true rfl, Nat.le_of_ble_eq_true rfl⟩) hK hZ hG hS hV.c0 (gC_Rd hV.1) (by decide) rfl rfl hl.1 (Nat.le_of_ble_eq_true rfl) dX2_goHours_26 ⟨Nat.zero_le _, Nat.zero_le _⟩ rfl rfl (fun H locs hG hS => ?_)
      refine lv_iinc (v := nI (k + 1)) (lv' := [(3, .int (nI (k + 1))), (0, .ref (gad Γ (25 * r))), (1, .int a), (2, .int (P 10))]) hx hb dX2_goHours_29 hl (k := 3) rfl (nI_1 _) (by decide) rfl (fun ls hl => ?_)
      refine lv_goto (tgt := 20) hx hb dX2_goHours_32 (by decide) ?_
      exact ih_k _ _ _ ⟨hG, hS, lv_sub hl [1, 2, 3, 0] rfl⟩
  · --F
    refine lv_bipush (v := (-2)) hx hb dX2_goHours_10 (by decide) ?_
    exact g_iret hx hb hrt hlocks hS hG (by unfold fX2_goHours_v; rw [if_pos c_1]) (congrArg (va_up M r) (by unfold fX2_goHours_P; rw [if_pos c_1])) dX2_goHours_12

