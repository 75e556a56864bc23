/-! THE ROAD. Laid by gen/p07.py. -/
set_option maxHeartbeats 4000000 in
set_option maxRecDepth 100000 in
theorem mX2_segmentAt {l : Launch} {Γ : gX} (M : Nat → Nat → Int32) (R : Nat → Nat → Option Nat) (O : Int64) {r : Nat} (hV : LV Γ R r) (P : Nat → Int32) (a : Int32) : gMet l Γ yX2_segmentAt wsX2_segmentAt 0 0 [.ref (gad Γ (25 * r)), .int a] (va_up M r P) R O (some (va_rf ((if okI a (P 0) 10 then some (25 * r + 4 + a.toNatClampNeg) else none : Option Nat).map (gad Γ)))) (va_up M r P) R O := by
  refine g_start (cc := cX2_segmentAt) (maxL := 2) (ret := (some (.object "RoadDust$Segment"))) (by decide) rfl (Nat.le_of_ble_eq_true rfl) ?_
  intro p e s m below meth c ls hx hb hml hrt hts hown hlocks hname hK hZ hG hS hl
  have hl : lv_has ls 2 [(0, .ref (gad Γ (25 * r))), (1, .int a)] := hl
  have hown : s.vm.findClass RX2 = some m.cls := hown
  have hF : CallFix p m c cX2_segmentAt 2 s _ wsX2_segmentAt RX2 := ⟨hx, hb, hml, hown, hts⟩
  have k_1 : (Cond.fieldLink RX2 35 "RoadDust$Road" "segments" "I").before _ s = true := hts _ (by decide +kernel)
  have in_X2 : ∀ w ∈ wsX20, w ∈ wsX2_segmentAt := by decide +kernel
  have k_3 : (Cond.fieldLink RX2 11 "RoadDust$Road" "segmentRow" "[LRoadDust$Segment;").before _ s = true := hts _ (by decide +kernel)
  refine lv_iload_n hx hb dX2_segmentAt_0 rfl (lv_at hl 1 rfl) ?_
  refine lv_if_lt (tgt := 27) hx hb dX2_segmentAt_1 (by decide) (fun c_1 => ?_) (fun c_1 => ?_)
  · --T
    refine lv_null hx hb dX2_segmentAt_27 ?_
    exact g_aret hx hb hrt hlocks hS hG (by rw [if_neg (okI_no1 c_1)]; rfl) rfl dX2_segmentAt_28
  · --F
    refine lv_iload_n hx hb dX2_segmentAt_4 rfl (lv_at hl 1 rfl) ?_
    refine lv_aload_n hx hb dX2_segmentAt_5 rfl (lv_at hl 0 rfl) ?_
    refine gRd_get hx hb hts in_X2 hown hK hG hV.1 hV.c0 0 (by decide) k_1 (fun _ h => h) (j := 0) rfl dX2_segmentAt_6 ?_
    refine lv_icmp_ge (tgt := 27) hx hb dX2_segmentAt_9 (by decide) (fun c_2 => ?_) (fun c_2 => ?_)
    · --T
      refine lv_null hx hb dX2_segmentAt_27 ?_
      exact g_aret hx hb hrt hlocks hS hG (by rw [if_neg (okI_no2 c_2)]; rfl) rfl dX2_segmentAt_28
    · --F
      refine lv_iload_n hx hb dX2_segmentAt_12 rfl (lv_at hl 1 rfl) ?_
      refine lv_bipush (v := 10) hx hb dX2_segmentAt_13 (by decide) ?_
      refine lv_icmp_ge (tgt := 27) hx hb dX2_segmentAt_15 (by decide) (fun c_3 => ?_) (fun c_3 => ?_)
      · --T
        refine lv_null hx hb dX2_segmentAt_27 ?_
        exact g_aret hx hb hrt hlocks hS hG (by rw [if_neg (okI_no3 c_3)]; rfl) rfl dX2_segmentAt_28
      · --F
        refine lv_aload_n hx hb dX2_segmentAt_18 rfl (lv_at hl 0 rfl) ?_
        refine gRd_getr hx hb hts in_X2 hown hK hG hV.1 hV.c0 12 (by decide) rfl hV.2.2.1 k_3 (fun _ h => h) dX2_segmentAt_19 ?_
        refine lv_iload_n hx hb dX2_segmentAt_22 rfl (lv_at hl 1 rfl) ?_
        refine g_aald hx hb hK hG (hV.row 1 (by decide)) (gC_row1 hV.1) (by decide) (by decide) rfl (gLen_row1 hV.1) (j := a.toNatClampNeg) rfl (ix_in (n := 10) rfl (by decide) c_1 (i32_nle c_3)) (hV.s (i := a.toNatClampNeg) (ix_lt (n := 10) rfl (by decide) c_1 (i32_nle c_3))) dX2_segmentAt_23 ?_
        refine lv_goto (tgt := 28) hx hb dX2_segmentAt_24 (by decide) ?_
        exact g_aret hx hb hrt hlocks hS hG (by rw [if_pos (okI_of c_1 c_2 c_3)]; rfl) rfl dX2_segmentAt_28

theorem mX2_segmentAt_y {l : Launch} {Γ : gX} (M : Nat → Nat → Int32) (R : Nat → Nat → Option Nat) (O : Int64) {r : Nat} (hV : LV Γ R r) (P : Nat → Int32) {a : Int32} (h : okI a (P 0) 10) {j : Nat} (hj : a.toNatClampNeg = j) : gMet l Γ yX2_segmentAt wsX2_segmentAt 0 0 [.ref (gad Γ (25 * r)), .int a] (va_up M r P) R O (some (.ref (gad Γ (25 * r + 4 + j)))) (va_up M r P) R O := by
  have q := mX2_segmentAt (l := l) M R O hV P a
  rw [if_pos h] at q
  subst hj
  exact q
theorem mX2_segmentAt_n {l : Launch} {Γ : gX} (M : Nat → Nat → Int32) (R : Nat → Nat → Option Nat) (O : Int64) {r : Nat} (hV : LV Γ R r) (P : Nat → Int32) {a : Int32} (h : ¬ okI a (P 0) 10) : gMet l Γ yX2_segmentAt wsX2_segmentAt 0 0 [.ref (gad Γ (25 * r)), .int a] (va_up M r P) R O (some .null) (va_up M r P) R O := by
  have q := mX2_segmentAt (l := l) M R O hV P a
  rw [if_neg h] at q
  exact q
set_option maxHeartbeats 4000000 in
set_option maxRecDepth 100000 in
theorem mX2_houseAt {l : Launch} {Γ : gX} (M : Nat → Nat → Int32) (R : Nat → Nat → Option Nat) (O : Int64) {r : Nat} (hV : LV Γ R r) (P : Nat → Int32) (a : Int32) : gMet l Γ yX2_houseAt wsX2_houseAt 0 0 [.ref (gad Γ (25 * r)), .int a] (va_up M r P) R O (some (va_rf ((if okI a (P 1) 8 then some (25 * r + 14 + a.toNatClampNeg) else none : Option Nat).map (gad Γ)))) (va_up M r P) R O := by
  refine g_start (cc := cX2_houseAt) (maxL := 2) (ret := (some (.object "RoadDust$House"))) (by decide) rfl (Nat.le_of_ble_eq_true rfl) ?_
  intro p e s m below meth c ls hx hb hml hrt hts hown hlocks hname hK hZ hG hS hl
  have hl : lv_has ls 2 [(0, .ref (gad Γ (25 * r))), (1, .int a)] := hl
  have hown : s.vm.findClass RX2 = some m.cls := hown
  have hF : CallFix p m c cX2_houseAt 2 s _ wsX2_houseAt RX2 := ⟨hx, hb, hml, hown, hts⟩
  have k_1 : (Cond.fieldLink RX2 39 "RoadDust$Road" "houses" "I").before _ s = true := hts _ (by decide +kernel)
  have in_X2 : ∀ w ∈ wsX20, w ∈ wsX2_houseAt := by decide +kernel
  have k_3 : (Cond.fieldLink RX2 19 "RoadDust$Road" "houseRow" "[LRoadDust$House;").before _ s = true := hts _ (by decide +kernel)
  refine lv_iload_n hx hb dX2_houseAt_0 rfl (lv_at hl 1 rfl) ?_
  refine lv_if_lt (tgt := 27) hx hb dX2_houseAt_1 (by decide) (fun c_1 => ?_) (fun c_1 => ?_)
  · --T
    refine lv_null hx hb dX2_houseAt_27 ?_
    exact g_aret hx hb hrt hlocks hS hG (by rw [if_neg (okI_no1 c_1)]; rfl) rfl dX2_houseAt_28
  · --F
    refine lv_iload_n hx hb dX2_houseAt_4 rfl (lv_at hl 1 rfl) ?_
    refine lv_aload_n hx hb dX2_houseAt_5 rfl (lv_at hl 0 rfl) ?_
    refine gRd_get hx hb hts in_X2 hown hK hG hV.1 hV.c0 1 (by decide) k_1 (fun _ h => h) (j := 1) rfl dX2_houseAt_6 ?_
    refine lv_icmp_ge (tgt := 27) hx hb dX2_houseAt_9 (by decide) (fun c_2 => ?_) (fun c_2 => ?_)
    · --T
      refine lv_null hx hb dX2_houseAt_27 ?_
      exact g_aret hx hb hrt hlocks hS hG (by rw [if_neg (okI_no2 c_2)]; rfl) rfl dX2_houseAt_28
    · --F
      refine lv_iload_n hx hb dX2_houseAt_12 rfl (lv_at hl 1 rfl) ?_
      refine lv_bipush (v := 8) hx hb dX2_houseAt_13 (by decide) ?_
      refine lv_icmp_ge (tgt := 27) hx hb dX2_houseAt_15 (by decide) (fun c_3 => ?_) (fun c_3 => ?_)
      · --T
        refine lv_null hx hb dX2_houseAt_27 ?_
        exact g_aret hx hb hrt hlocks hS hG (by rw [if_neg (okI_no3 c_3)]; rfl) rfl dX2_houseAt_28
      · --F
        refine lv_aload_n hx hb dX2_houseAt_18 rfl (lv_at hl 0 rfl) ?_
        refine gRd_getr hx hb hts in_X2 hown hK hG hV.1 hV.c0 13 (by decide) rfl hV.2.2.2.1 k_3 (fun _ h => h) dX2_houseAt_19 ?_
        refine lv_iload_n hx hb dX2_houseAt_22 rfl (lv_at hl 1 rfl) ?_
        refine g_aald hx hb hK hG (hV.row 2 (by decide)) (gC_row2 hV.1) (by decide) (by decide) rfl (gLen_row2 hV.1) (j := a.toNatClampNeg) rfl (ix_in (n := 8) rfl (by decide) c_1 (i32_nle c_3)) (hV.h (i := a.toNatClampNeg) (ix_lt (n := 8) rfl (by decide) c_1 (i32_nle c_3))) dX2_houseAt_23 ?_
        refine lv_goto (tgt := 28) hx hb dX2_houseAt_24 (by decide) ?_
        exact g_aret hx hb hrt hlocks hS hG (by rw [if_pos (okI_of c_1 c_2 c_3)]; rfl) rfl dX2_houseAt_28

theorem mX2_houseAt_y {l : Launch} {Γ : gX} (M : Nat → Nat → Int32) (R : Nat → Nat → Option Nat) (O : Int64) {r : Nat} (hV : LV Γ R r) (P : Nat → Int32) {a : Int32} (h : okI a (P 1) 8) {j : Nat} (hj : a.toNatClampNeg = j) : gMet l Γ yX2_houseAt wsX2_houseAt 0 0 [.ref (gad Γ (25 * r)), .int a] (va_up M r P) R O (some (.ref (gad Γ (25 * r + 14 + j)))) (va_up M r P) R O := by
  have q := mX2_houseAt (l := l) M R O hV P a
  rw [if_pos h] at q
  subst hj
  exact q
theorem mX2_houseAt_n {l : Launch} {Γ : gX} (M : Nat → Nat → Int32) (R : Nat → Nat → Option Nat) (O : Int64) {r : Nat} (hV : LV Γ R r) (P : Nat → Int32) {a : Int32} (h : ¬ okI a (P 1) 8) : gMet l Γ yX2_houseAt wsX2_houseAt 0 0 [.ref (gad Γ (25 * r)), .int a] (va_up M r P) R O (some .null) (va_up M r P) R O := by
  have q := mX2_houseAt (l := l) M R O hV P a
  rw [if_neg h] at q
  exact q
set_option maxHeartbeats 4000000 in
set_option maxRecDepth 100000 in
theorem mX2_wagonAt {l : Launch} {Γ : gX} (M : Nat → Nat → Int32) (R : Nat → Nat → Option Nat) (O : Int64) {r : Nat} (hV : LV Γ R r) (P : Nat → Int32) (a : Int32) : gMet l Γ yX2_wagonAt wsX2_wagonAt 0 0 [.ref (gad Γ (25 * r)), .int a] (va_up M r P) R O (some (va_rf ((if okI a (P 2) 3 then some (25 * r + 22 + a.toNatClampNeg) else none : Option Nat).map (gad Γ)))) (va_up M r P) R O := by
  refine g_start (cc := cX2_wagonAt) (maxL := 2) (ret := (some (.object "RoadDust$Wagon"))) (by decide) rfl (Nat.le_of_ble_eq_true rfl) ?_
  intro p e s m below meth c ls hx hb hml hrt hts hown hlocks hname hK hZ hG hS hl
  have hl : lv_has ls 2 [(0, .ref (gad Γ (25 * r))), (1, .int a)] := hl
  have hown : s.vm.findClass RX2 = some m.cls := hown
  have hF : CallFix p m c cX2_wagonAt 2 s _ wsX2_wagonAt RX2 := ⟨hx, hb, hml, hown, hts⟩
  have k_1 : (Cond.fieldLink RX2 42 "RoadDust$Road" "wagons" "I").before _ s = true := hts _ (by decide +kernel)
  have in_X2 : ∀ w ∈ wsX20, w ∈ wsX2_wagonAt := by decide +kernel
  have k_3 : (Cond.fieldLink RX2 25 "RoadDust$Road" "wagonRow" "[LRoadDust$Wagon;").before _ s = true := hts _ (by decide +kernel)
  refine lv_iload_n hx hb dX2_wagonAt_0 rfl (lv_at hl 1 rfl) ?_
  refine lv_if_lt (tgt := 26) hx hb dX2_wagonAt_1 (by decide) (fun c_1 => ?_) (fun c_1 => ?_)
  · --T
    refine lv_null hx hb dX2_wagonAt_26 ?_
    exact g_aret hx hb hrt hlocks hS hG (by rw [if_neg (okI_no1 c_1)]; rfl) rfl dX2_wagonAt_27
  · --F
    refine lv_iload_n hx hb dX2_wagonAt_4 rfl (lv_at hl 1 rfl) ?_
    refine lv_aload_n hx hb dX2_wagonAt_5 rfl (lv_at hl 0 rfl) ?_
    refine gRd_get hx hb hts in_X2 hown hK hG hV.1 hV.c0 2 (by decide) k_1 (fun _ h => h) (j := 2) rfl dX2_wagonAt_6 ?_
    refine lv_icmp_ge (tgt := 26) hx hb dX2_wagonAt_9 (by decide) (fun c_2 => ?_) (fun c_2 => ?_)
    · --T
      refine lv_null hx hb dX2_wagonAt_26 ?_
      exact g_aret hx hb hrt hlocks hS hG (by rw [if_neg (okI_no2 c_2)]; rfl) rfl dX2_wagonAt_27
    · --F
      refine lv_iload_n hx hb dX2_wagonAt_12 rfl (lv_at hl 1 rfl) ?_
      refine lv_iconst (v := 3) hx hb dX2_wagonAt_13 (by decide) ?_
      refine lv_icmp_ge (tgt := 26) hx hb dX2_wagonAt_14 (by decide) (fun c_3 => ?_) (fun c_3 => ?_)
      · --T
        refine lv_null hx hb dX2_wagonAt_26 ?_
        exact g_aret hx hb hrt hlocks hS hG (by rw [if_neg (okI_no3 c_3)]; rfl) rfl dX2_wagonAt_27
      · --F
        refine lv_aload_n hx hb dX2_wagonAt_17 rfl (lv_at hl 0 rfl) ?_
        refine gRd_getr hx hb hts in_X2 hown hK hG hV.1 hV.c0 14 (by decide) rfl hV.2.2.2.2.1 k_3 (fun _ h => h) dX2_wagonAt_18 ?_
        refine lv_iload_n hx hb dX2_wagonAt_21 rfl (lv_at hl 1 rfl) ?_
        refine g_aald hx hb hK hG (hV.row 3 (by decide)) (gC_row3 hV.1) (by decide) (by decide) rfl (gLen_row3 hV.1) (j := a.toNatClampNeg) rfl (ix_in (n := 3) rfl (by decide) c_1 (i32_nle c_3)) (hV.w (i := a.toNatClampNeg) (ix_lt (n := 3) rfl (by decide) c_1 (i32_nle c_3))) dX2_wagonAt_22 ?_
        refine lv_goto (tgt := 27) hx hb dX2_wagonAt_23 (by decide) ?_
        exact g_aret hx hb hrt hlocks hS hG (by rw [if_pos (okI_of c_1 c_2 c_3)]; rfl) rfl dX2_wagonAt_27

theorem mX2_wagonAt_y {l : Launch} {Γ : gX} (M : Nat → Nat → Int32) (R : Nat → Nat → Option Nat) (O : Int64) {r : Nat} (hV : LV Γ R r) (P : Nat → Int32) {a : Int32} (h : okI a (P 2) 3) {j : Nat} (hj : a.toNatClampNeg = j) : gMet l Γ yX2_wagonAt wsX2_wagonAt 0 0 [.ref (gad Γ (25 * r)), .int a] (va_up M r P) R O (some (.ref (gad Γ (25 * r + 22 + j)))) (va_up M r P) R O := by
  have q := mX2_wagonAt (l := l) M R O hV P a
  rw [if_pos h] at q
  subst hj
  exact q
theorem mX2_wagonAt_n {l : Launch} {Γ : gX} (M : Nat → Nat → Int32) (R : Nat → Nat → Option Nat) (O : Int64) {r : Nat} (hV : LV Γ R r) (P : Nat → Int32) {a : Int32} (h : ¬ okI a (P 2) 3) : gMet l Γ yX2_wagonAt wsX2_wagonAt 0 0 [.ref (gad Γ (25 * r)), .int a] (va_up M r P) R O (some .null) (va_up M r P) R O := by
  have q := mX2_wagonAt (l := l) M R O hV P a
  rw [if_neg h] at q
  exact q
