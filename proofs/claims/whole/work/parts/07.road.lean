/-! THE ROAD: each method's answer and page. Laid by gen/p07.py. -/
set_option maxHeartbeats 4000000 in
set_option maxRecDepth 100000 in
theorem cX2_segmentAt {l : Launch} {Γ : gX} (M : Nat → Nat → Int32) (R : Nat → Nat → Option Nat) (O : Int64) {r : Nat} (hV : LV Γ R r) (P : Nat → Int32) (a : Int32) : gMet l Γ yX2_segmentAt wsX2_segmentAt 0 0 [.ref (gad Γ (25 * r)), .int a] (va_up M r P) R O (some (va_rf ((if okI a (P 0) 10 then some (25 * r + 4 + a.toNatClampNeg) else none : Option Nat).map (gad Γ)))) (va_up M r P) R O := by
  refine g_start (cc := cX2_segmentAt) (maxL := 2) (ret := (some (.object "RoadDust$Segment"))) (by decide) rfl (by decide) ?_
  intro p e s m below meth c ls hx hb hml hrt hts hown hlocks hname hK hZ hG hS hl
  have hl : lv_has ls 2 [(0, .ref (gad Γ (25 * r))), (1, .int a)] := hl
  have hown : s.vm.findClass RX2 = some m.cls := hown
  have hF : CallFix p m c cX2_segmentAt 2 s _ wsX2_segmentAt RX2 := ⟨hx, hb, hml, hown, hts⟩
  have k_1 : (Cond.fieldLink RX2 35 "RoadDust$Road" "segments" "I").before _ s = true := hts _ (by decide +kernel)
  have in_X2 : ∀ w ∈ wsX20, w ∈ wsX2_segmentAt := by decide +kernel
  have k_3 : (Cond.fieldLink RX2 11 "RoadDust$Road" "segmentRow" "[LRoadDust$Segment;").before _ s = true := hts _ (by decide +kernel)
  refine lv_iload_n hx hb dX2_segmentAt_0 rfl (lv_at hl 1 rfl) ?_
  refine lv_if_lt (tgt := 27) hx hb dX2_segmentAt_1 (by decide) (fun c_1 => ?_) (fun c_1 => ?_)
  · --T
    refine lv_null hx hb dX2_segmentAt_27 ?_
    exact g_aret hx hb hrt hlocks hS hG (by rw [if_neg (okI_no1 c_1)]; rfl) rfl dX2_segmentAt_28
  · --F
    refine lv_iload_n hx hb dX2_segmentAt_4 rfl (lv_at hl 1 rfl) ?_
    refine lv_aload_n hx hb dX2_segmentAt_5 rfl (lv_at hl 0 rfl) ?_
    refine gRd_get hx hb hts in_X2 hown hK hG hV.1 hV.c0 0 (by decide) k_1 (fun _ h => h) (j := 0) rfl dX2_segmentAt_6 ?_
    refine lv_icmp_ge (tgt := 27) hx hb dX2_segmentAt_9 (by decide) (fun c_2 => ?_) (fun c_2 => ?_)
    · --T
      refine lv_null hx hb dX2_segmentAt_27 ?_
      exact g_aret hx hb hrt hlocks hS hG (by rw [if_neg (okI_no2 c_2)]; rfl) rfl dX2_segmentAt_28
    · --F
      refine lv_iload_n hx hb dX2_segmentAt_12 rfl (lv_at hl 1 rfl) ?_
      refine lv_bipush (v := 10) hx hb dX2_segmentAt_13 (by decide) ?_
      refine lv_icmp_ge (tgt := 27) hx hb dX2_segmentAt_15 (by decide) (fun c_3 => ?_) (fun c_3 => ?_)
      · --T
        refine lv_null hx hb dX2_segmentAt_27 ?_
        exact g_aret hx hb hrt hlocks hS hG (by rw [if_neg (okI_no3 c_3)]; rfl) rfl dX2_segmentAt_28
      · --F
        refine lv_aload_n hx hb dX2_segmentAt_18 rfl (lv_at hl 0 rfl) ?_
        refine gRd_getr hx hb hts in_X2 hown hK hG hV.1 hV.c0 12 (by decide) rfl hV.2.2.1 k_3 (fun _ h => h) dX2_segmentAt_19 ?_
        refine lv_iload_n hx hb dX2_segmentAt_22 rfl (lv_at hl 1 rfl) ?_
        refine g_aald hx hb hK hG (hV.row 1 (by decide)) (gC_row1 hV.1) (by decide) (by decide) rfl (gLen_row1 hV.1) (j := a.toNatClampNeg) rfl (ix_in (n := 10) rfl (by decide) c_1 (i32_nle c_3)) (hV.s (i := a.toNatClampNeg) (ix_lt (n := 10) rfl (by decide) c_1 (i32_nle c_3))) dX2_segmentAt_23 ?_
        refine lv_goto (tgt := 28) hx hb dX2_segmentAt_24 (by decide) ?_
        exact g_aret hx hb hrt hlocks hS hG (by rw [if_pos (okI_of c_1 c_2 c_3)]; rfl) rfl dX2_segmentAt_28

theorem cX2_segmentAt_y {l : Launch} {Γ : gX} (M : Nat → Nat → Int32) (R : Nat → Nat → Option Nat) (O : Int64) {r : Nat} (hV : LV Γ R r) (P : Nat → Int32) {a : Int32} (h : okI a (P 0) 10) {j : Nat} (hj : a.toNatClampNeg = j) : gMet l Γ yX2_segmentAt wsX2_segmentAt 0 0 [.ref (gad Γ (25 * r)), .int a] (va_up M r P) R O (some (.ref (gad Γ (25 * r + 4 + j)))) (va_up M r P) R O := by
  have q := cX2_segmentAt (l := l) M R O hV P a
  rw [if_pos h] at q
  subst hj
  exact q
theorem cX2_segmentAt_n {l : Launch} {Γ : gX} (M : Nat → Nat → Int32) (R : Nat → Nat → Option Nat) (O : Int64) {r : Nat} (hV : LV Γ R r) (P : Nat → Int32) {a : Int32} (h : ¬ okI a (P 0) 10) : gMet l Γ yX2_segmentAt wsX2_segmentAt 0 0 [.ref (gad Γ (25 * r)), .int a] (va_up M r P) R O (some .null) (va_up M r P) R O := by
  have q := cX2_segmentAt (l := l) M R O hV P a
  rw [if_neg h] at q
  exact q
set_option maxHeartbeats 4000000 in
set_option maxRecDepth 100000 in
theorem cX2_houseAt {l : Launch} {Γ : gX} (M : Nat → Nat → Int32) (R : Nat → Nat → Option Nat) (O : Int64) {r : Nat} (hV : LV Γ R r) (P : Nat → Int32) (a : Int32) : gMet l Γ yX2_houseAt wsX2_houseAt 0 0 [.ref (gad Γ (25 * r)), .int a] (va_up M r P) R O (some (va_rf ((if okI a (P 1) 8 then some (25 * r + 14 + a.toNatClampNeg) else none : Option Nat).map (gad Γ)))) (va_up M r P) R O := by
  refine g_start (cc := cX2_houseAt) (maxL := 2) (ret := (some (.object "RoadDust$House"))) (by decide) rfl (by decide) ?_
  intro p e s m below meth c ls hx hb hml hrt hts hown hlocks hname hK hZ hG hS hl
  have hl : lv_has ls 2 [(0, .ref (gad Γ (25 * r))), (1, .int a)] := hl
  have hown : s.vm.findClass RX2 = some m.cls := hown
  have hF : CallFix p m c cX2_houseAt 2 s _ wsX2_houseAt RX2 := ⟨hx, hb, hml, hown, hts⟩
  have k_1 : (Cond.fieldLink RX2 39 "RoadDust$Road" "houses" "I").before _ s = true := hts _ (by decide +kernel)
  have in_X2 : ∀ w ∈ wsX20, w ∈ wsX2_houseAt := by decide +kernel
  have k_3 : (Cond.fieldLink RX2 19 "RoadDust$Road" "houseRow" "[LRoadDust$House;").before _ s = true := hts _ (by decide +kernel)
  refine lv_iload_n hx hb dX2_houseAt_0 rfl (lv_at hl 1 rfl) ?_
  refine lv_if_lt (tgt := 27) hx hb dX2_houseAt_1 (by decide) (fun c_1 => ?_) (fun c_1 => ?_)
  · --T
    refine lv_null hx hb dX2_houseAt_27 ?_
    exact g_aret hx hb hrt hlocks hS hG (by rw [if_neg (okI_no1 c_1)]; rfl) rfl dX2_houseAt_28
  · --F
    refine lv_iload_n hx hb dX2_houseAt_4 rfl (lv_at hl 1 rfl) ?_
    refine lv_aload_n hx hb dX2_houseAt_5 rfl (lv_at hl 0 rfl) ?_
    refine gRd_get hx hb hts in_X2 hown hK hG hV.1 hV.c0 1 (by decide) k_1 (fun _ h => h) (j := 1) rfl dX2_houseAt_6 ?_
    refine lv_icmp_ge (tgt := 27) hx hb dX2_houseAt_9 (by decide) (fun c_2 => ?_) (fun c_2 => ?_)
    · --T
      refine lv_null hx hb dX2_houseAt_27 ?_
      exact g_aret hx hb hrt hlocks hS hG (by rw [if_neg (okI_no2 c_2)]; rfl) rfl dX2_houseAt_28
    · --F
      refine lv_iload_n hx hb dX2_houseAt_12 rfl (lv_at hl 1 rfl) ?_
      refine lv_bipush (v := 8) hx hb dX2_houseAt_13 (by decide) ?_
      refine lv_icmp_ge (tgt := 27) hx hb dX2_houseAt_15 (by decide) (fun c_3 => ?_) (fun c_3 => ?_)
      · --T
        refine lv_null hx hb dX2_houseAt_27 ?_
        exact g_aret hx hb hrt hlocks hS hG (by rw [if_neg (okI_no3 c_3)]; rfl) rfl dX2_houseAt_28
      · --F
        refine lv_aload_n hx hb dX2_houseAt_18 rfl (lv_at hl 0 rfl) ?_
        refine gRd_getr hx hb hts in_X2 hown hK hG hV.1 hV.c0 13 (by decide) rfl hV.2.2.2.1 k_3 (fun _ h => h) dX2_houseAt_19 ?_
        refine lv_iload_n hx hb dX2_houseAt_22 rfl (lv_at hl 1 rfl) ?_
        refine g_aald hx hb hK hG (hV.row 2 (by decide)) (gC_row2 hV.1) (by decide) (by decide) rfl (gLen_row2 hV.1) (j := a.toNatClampNeg) rfl (ix_in (n := 8) rfl (by decide) c_1 (i32_nle c_3)) (hV.h (i := a.toNatClampNeg) (ix_lt (n := 8) rfl (by decide) c_1 (i32_nle c_3))) dX2_houseAt_23 ?_
        refine lv_goto (tgt := 28) hx hb dX2_houseAt_24 (by decide) ?_
        exact g_aret hx hb hrt hlocks hS hG (by rw [if_pos (okI_of c_1 c_2 c_3)]; rfl) rfl dX2_houseAt_28

theorem cX2_houseAt_y {l : Launch} {Γ : gX} (M : Nat → Nat → Int32) (R : Nat → Nat → Option Nat) (O : Int64) {r : Nat} (hV : LV Γ R r) (P : Nat → Int32) {a : Int32} (h : okI a (P 1) 8) {j : Nat} (hj : a.toNatClampNeg = j) : gMet l Γ yX2_houseAt wsX2_houseAt 0 0 [.ref (gad Γ (25 * r)), .int a] (va_up M r P) R O (some (.ref (gad Γ (25 * r + 14 + j)))) (va_up M r P) R O := by
  have q := cX2_houseAt (l := l) M R O hV P a
  rw [if_pos h] at q
  subst hj
  exact q
theorem cX2_houseAt_n {l : Launch} {Γ : gX} (M : Nat → Nat → Int32) (R : Nat → Nat → Option Nat) (O : Int64) {r : Nat} (hV : LV Γ R r) (P : Nat → Int32) {a : Int32} (h : ¬ okI a (P 1) 8) : gMet l Γ yX2_houseAt wsX2_houseAt 0 0 [.ref (gad Γ (25 * r)), .int a] (va_up M r P) R O (some .null) (va_up M r P) R O := by
  have q := cX2_houseAt (l := l) M R O hV P a
  rw [if_neg h] at q
  exact q
set_option maxHeartbeats 4000000 in
set_option maxRecDepth 100000 in
theorem cX2_wagonAt {l : Launch} {Γ : gX} (M : Nat → Nat → Int32) (R : Nat → Nat → Option Nat) (O : Int64) {r : Nat} (hV : LV Γ R r) (P : Nat → Int32) (a : Int32) : gMet l Γ yX2_wagonAt wsX2_wagonAt 0 0 [.ref (gad Γ (25 * r)), .int a] (va_up M r P) R O (some (va_rf ((if okI a (P 2) 3 then some (25 * r + 22 + a.toNatClampNeg) else none : Option Nat).map (gad Γ)))) (va_up M r P) R O := by
  refine g_start (cc := cX2_wagonAt) (maxL := 2) (ret := (some (.object "RoadDust$Wagon"))) (by decide) rfl (by decide) ?_
  intro p e s m below meth c ls hx hb hml hrt hts hown hlocks hname hK hZ hG hS hl
  have hl : lv_has ls 2 [(0, .ref (gad Γ (25 * r))), (1, .int a)] := hl
  have hown : s.vm.findClass RX2 = some m.cls := hown
  have hF : CallFix p m c cX2_wagonAt 2 s _ wsX2_wagonAt RX2 := ⟨hx, hb, hml, hown, hts⟩
  have k_1 : (Cond.fieldLink RX2 42 "RoadDust$Road" "wagons" "I").before _ s = true := hts _ (by decide +kernel)
  have in_X2 : ∀ w ∈ wsX20, w ∈ wsX2_wagonAt := by decide +kernel
  have k_3 : (Cond.fieldLink RX2 25 "RoadDust$Road" "wagonRow" "[LRoadDust$Wagon;").before _ s = true := hts _ (by decide +kernel)
  refine lv_iload_n hx hb dX2_wagonAt_0 rfl (lv_at hl 1 rfl) ?_
  refine lv_if_lt (tgt := 26) hx hb dX2_wagonAt_1 (by decide) (fun c_1 => ?_) (fun c_1 => ?_)
  · --T
    refine lv_null hx hb dX2_wagonAt_26 ?_
    exact g_aret hx hb hrt hlocks hS hG (by rw [if_neg (okI_no1 c_1)]; rfl) rfl dX2_wagonAt_27
  · --F
    refine lv_iload_n hx hb dX2_wagonAt_4 rfl (lv_at hl 1 rfl) ?_
    refine lv_aload_n hx hb dX2_wagonAt_5 rfl (lv_at hl 0 rfl) ?_
    refine gRd_get hx hb hts in_X2 hown hK hG hV.1 hV.c0 2 (by decide) k_1 (fun _ h => h) (j := 2) rfl dX2_wagonAt_6 ?_
    refine lv_icmp_ge (tgt := 26) hx hb dX2_wagonAt_9 (by decide) (fun c_2 => ?_) (fun c_2 => ?_)
    · --T
      refine lv_null hx hb dX2_wagonAt_26 ?_
      exact g_aret hx hb hrt hlocks hS hG (by rw [if_neg (okI_no2 c_2)]; rfl) rfl dX2_wagonAt_27
    · --F
      refine lv_iload_n hx hb dX2_wagonAt_12 rfl (lv_at hl 1 rfl) ?_
      refine lv_iconst (v := 3) hx hb dX2_wagonAt_13 (by decide) ?_
      refine lv_icmp_ge (tgt := 26) hx hb dX2_wagonAt_14 (by decide) (fun c_3 => ?_) (fun c_3 => ?_)
      · --T
        refine lv_null hx hb dX2_wagonAt_26 ?_
        exact g_aret hx hb hrt hlocks hS hG (by rw [if_neg (okI_no3 c_3)]; rfl) rfl dX2_wagonAt_27
      · --F
        refine lv_aload_n hx hb dX2_wagonAt_17 rfl (lv_at hl 0 rfl) ?_
        refine gRd_getr hx hb hts in_X2 hown hK hG hV.1 hV.c0 14 (by decide) rfl hV.2.2.2.2.1 k_3 (fun _ h => h) dX2_wagonAt_18 ?_
        refine lv_iload_n hx hb dX2_wagonAt_21 rfl (lv_at hl 1 rfl) ?_
        refine g_aald hx hb hK hG (hV.row 3 (by decide)) (gC_row3 hV.1) (by decide) (by decide) rfl (gLen_row3 hV.1) (j := a.toNatClampNeg) rfl (ix_in (n := 3) rfl (by decide) c_1 (i32_nle c_3)) (hV.w (i := a.toNatClampNeg) (ix_lt (n := 3) rfl (by decide) c_1 (i32_nle c_3))) dX2_wagonAt_22 ?_
        refine lv_goto (tgt := 27) hx hb dX2_wagonAt_23 (by decide) ?_
        exact g_aret hx hb hrt hlocks hS hG (by rw [if_pos (okI_of c_1 c_2 c_3)]; rfl) rfl dX2_wagonAt_27

theorem cX2_wagonAt_y {l : Launch} {Γ : gX} (M : Nat → Nat → Int32) (R : Nat → Nat → Option Nat) (O : Int64) {r : Nat} (hV : LV Γ R r) (P : Nat → Int32) {a : Int32} (h : okI a (P 2) 3) {j : Nat} (hj : a.toNatClampNeg = j) : gMet l Γ yX2_wagonAt wsX2_wagonAt 0 0 [.ref (gad Γ (25 * r)), .int a] (va_up M r P) R O (some (.ref (gad Γ (25 * r + 22 + j)))) (va_up M r P) R O := by
  have q := cX2_wagonAt (l := l) M R O hV P a
  rw [if_pos h] at q
  subst hj
  exact q
theorem cX2_wagonAt_n {l : Launch} {Γ : gX} (M : Nat → Nat → Int32) (R : Nat → Nat → Option Nat) (O : Int64) {r : Nat} (hV : LV Γ R r) (P : Nat → Int32) {a : Int32} (h : ¬ okI a (P 2) 3) : gMet l Γ yX2_wagonAt wsX2_wagonAt 0 0 [.ref (gad Γ (25 * r)), .int a] (va_up M r P) R O (some .null) (va_up M r P) R O := by
  have q := cX2_wagonAt (l := l) M R O hV P a
  rw [if_neg h] at q
  exact q
def fX2_time_v (P : Nat → Int32) : Int32 := (10 * (P 3)) + (P 4)
set_option maxHeartbeats 4000000 in
set_option maxRecDepth 100000 in
theorem cX2_time {l : Launch} {Γ : gX} (M : Nat → Nat → Int32) (R : Nat → Nat → Option Nat) (O : Int64) {r : Nat} (hV : LV Γ R r) (P : Nat → Int32) : gMet l Γ yX2_time wsX2_time 0 0 [.ref (gad Γ (25 * r))] (va_up M r P) R O (some (.int (fX2_time_v P))) (va_up M r P) R O := by
  refine g_start (cc := cX2_time) (maxL := 1) (ret := (some .int)) (by decide) rfl (by decide) ?_
  intro p e s m below meth c ls hx hb hml hrt hts hown hlocks hname hK hZ hG hS hl
  have hl : lv_has ls 1 [(0, .ref (gad Γ (25 * r)))] := hl
  have hown : s.vm.findClass RX2 = some m.cls := hown
  have hF : CallFix p m c cX2_time 1 s _ wsX2_time RX2 := ⟨hx, hb, hml, hown, hts⟩
  have k_1 : (Cond.fieldLink RX2 45 "RoadDust$Road" "day" "I").before _ s = true := hts _ (by decide +kernel)
  have in_X2 : ∀ w ∈ wsX20, w ∈ wsX2_time := by decide +kernel
  have k_3 : (Cond.fieldLink RX2 48 "RoadDust$Road" "hour" "I").before _ s = true := hts _ (by decide +kernel)
  refine lv_bipush (v := 10) hx hb dX2_time_0 (by decide) ?_
  refine lv_aload_n hx hb dX2_time_2 rfl (lv_at hl 0 rfl) ?_
  refine gRd_get hx hb hts in_X2 hown hK hG hV.1 hV.c0 3 (by decide) k_1 (fun _ h => h) (j := 3) rfl dX2_time_3 ?_
  refine lv_imul hx hb dX2_time_6 ?_
  refine lv_aload_n hx hb dX2_time_7 rfl (lv_at hl 0 rfl) ?_
  refine gRd_get hx hb hts in_X2 hown hK hG hV.1 hV.c0 4 (by decide) k_3 (fun _ h => h) (j := 4) rfl dX2_time_8 ?_
  refine lv_iadd hx hb dX2_time_11 ?_
  exact g_iret hx hb hrt hlocks hS hG (by unfold fX2_time_v; rfl) rfl dX2_time_12

def fX2_dustAt_v (P : Nat → Int32) (a : Int32) : Int32 := if a < 0 then 0 else if (P 0) ≤ a then 0 else if 10 ≤ a then 0 else P (12 + 7 * a.toNatClampNeg + 3)
set_option maxHeartbeats 4000000 in
set_option maxRecDepth 100000 in
theorem cX2_dustAt {l : Launch} {Γ : gX} (M : Nat → Nat → Int32) (R : Nat → Nat → Option Nat) (O : Int64) {r : Nat} (hV : LV Γ R r) (P : Nat → Int32) (a : Int32) : gMet l Γ yX2_dustAt wsX2_dustAt 0 0 [.ref (gad Γ (25 * r)), .int a] (va_up M r P) R O (some (.int (fX2_dustAt_v P a))) (va_up M r P) R O := by
  refine g_start (cc := cX2_dustAt) (maxL := 2) (ret := (some .int)) (by decide) rfl (by decide) ?_
  intro p e s m below meth c ls hx hb hml hrt hts hown hlocks hname hK hZ hG hS hl
  have hl : lv_has ls 2 [(0, .ref (gad Γ (25 * r))), (1, .int a)] := hl
  have hown : s.vm.findClass RX2 = some m.cls := hown
  have hF : CallFix p m c cX2_dustAt 2 s _ wsX2_dustAt RX2 := ⟨hx, hb, hml, hown, hts⟩
  have k_1 : (Cond.fieldLink RX2 35 "RoadDust$Road" "segments" "I").before _ s = true := hts _ (by decide +kernel)
  have in_X2 : ∀ w ∈ wsX20, w ∈ wsX2_dustAt := by decide +kernel
  have k_3 : (Cond.fieldLink RX2 11 "RoadDust$Road" "segmentRow" "[LRoadDust$Segment;").before _ s = true := hts _ (by decide +kernel)
  have k_4 : (Cond.fieldLink RX2 200 "RoadDust$Segment" "dust" "I").before _ s = true := hts _ (by decide +kernel)
  have in_X3 : ∀ w ∈ wsX30, w ∈ wsX2_dustAt := by decide +kernel
  refine lv_iload_n hx hb dX2_dustAt_0 rfl (lv_at hl 1 rfl) ?_
  refine lv_if_lt (tgt := 30) hx hb dX2_dustAt_1 (by decide) (fun c_1 => ?_) (fun c_1 => ?_)
  · --T
    refine lv_iconst (v := 0) hx hb dX2_dustAt_30 (by decide) ?_
    exact g_iret hx hb hrt hlocks hS hG (by unfold fX2_dustAt_v; rw [if_pos c_1]) rfl dX2_dustAt_31
  · --F
    refine lv_iload_n hx hb dX2_dustAt_4 rfl (lv_at hl 1 rfl) ?_
    refine lv_aload_n hx hb dX2_dustAt_5 rfl (lv_at hl 0 rfl) ?_
    refine gRd_get hx hb hts in_X2 hown hK hG hV.1 hV.c0 0 (by decide) k_1 (fun _ h => h) (j := 0) rfl dX2_dustAt_6 ?_
    refine lv_icmp_ge (tgt := 30) hx hb dX2_dustAt_9 (by decide) (fun c_2 => ?_) (fun c_2 => ?_)
    · --T
      refine lv_iconst (v := 0) hx hb dX2_dustAt_30 (by decide) ?_
      exact g_iret hx hb hrt hlocks hS hG (by unfold fX2_dustAt_v; rw [if_neg c_1, if_pos c_2]) rfl dX2_dustAt_31
    · --F
      refine lv_iload_n hx hb dX2_dustAt_12 rfl (lv_at hl 1 rfl) ?_
      refine lv_bipush (v := 10) hx hb dX2_dustAt_13 (by decide) ?_
      refine lv_icmp_ge (tgt := 30) hx hb dX2_dustAt_15 (by decide) (fun c_3 => ?_) (fun c_3 => ?_)
      · --T
        refine lv_iconst (v := 0) hx hb dX2_dustAt_30 (by decide) ?_
        exact g_iret hx hb hrt hlocks hS hG (by unfold fX2_dustAt_v; rw [if_neg c_1, if_neg c_2, if_pos c_3]) rfl dX2_dustAt_31
      · --F
        refine lv_aload_n hx hb dX2_dustAt_18 rfl (lv_at hl 0 rfl) ?_
        refine gRd_getr hx hb hts in_X2 hown hK hG hV.1 hV.c0 12 (by decide) rfl hV.2.2.1 k_3 (fun _ h => h) dX2_dustAt_19 ?_
        refine lv_iload_n hx hb dX2_dustAt_22 rfl (lv_at hl 1 rfl) ?_
        refine g_aald hx hb hK hG (hV.row 1 (by decide)) (gC_row1 hV.1) (by decide) (by decide) rfl (gLen_row1 hV.1) (j := a.toNatClampNeg) rfl (ix_in (n := 10) rfl (by decide) c_1 (i32_nle c_3)) (hV.s (i := a.toNatClampNeg) (ix_lt (n := 10) rfl (by decide) c_1 (i32_nle c_3))) dX2_dustAt_23 ?_
        refine gS_get hx hb hts in_X3 hown hK hG hV.1 (ix_lt (n := 10) rfl (by decide) c_1 (i32_nle c_3)) (hV.seg (i := a.toNatClampNeg) (ix_lt (n := 10) rfl (by decide) c_1 (i32_nle c_3))) 3 (by decide) k_4 (fun _ h => h) (j := 12 + 7 * a.toNatClampNeg + 3) rfl dX2_dustAt_24 ?_
        refine lv_goto (tgt := 31) hx hb dX2_dustAt_27 (by decide) ?_
        exact g_iret hx hb hrt hlocks hS hG (by unfold fX2_dustAt_v; rw [if_neg c_1, if_neg c_2, if_neg c_3]) rfl dX2_dustAt_31

def fX2_dustOfAll_T1  (P : Nat → Int32) (k : Nat) (a1 : Int32) : Int32 := a1 + (fX2_dustAt_v P (nI k))
def fX2_dustOfAll_A1  (P : Nat → Int32) : Nat → Int32
  | 0 => 0
  | k + 1 => fX2_dustOfAll_T1  P k (fX2_dustOfAll_A1  P k)
def fX2_dustOfAll_v (P : Nat → Int32) : Int32 := fX2_dustOfAll_A1  P ((P 0).toNatClampNeg)
set_option maxHeartbeats 4000000 in
set_option maxRecDepth 100000 in
theorem cX2_dustOfAll {l : Launch} {Γ : gX} (M : Nat → Nat → Int32) (R : Nat → Nat → Option Nat) (O : Int64) {r : Nat} (hV : LV Γ R r) (P : Nat → Int32) : gMet l Γ yX2_dustOfAll wsX2_dustOfAll 1 21 [.ref (gad Γ (25 * r))] (va_up M r P) R O (some (.int (fX2_dustOfAll_v P))) (va_up M r P) R O := by
  refine g_start (cc := cX2_dustOfAll) (maxL := 3) (ret := (some .int)) (by decide) rfl (by decide) ?_
  intro p e s m below meth c ls hx hb hml hrt hts hown hlocks hname hK hZ hG hS hl
  have hl : lv_has ls 3 [(0, .ref (gad Γ (25 * r)))] := hl
  have hown : s.vm.findClass RX2 = some m.cls := hown
  have hF : CallFix p m c cX2_dustOfAll 3 s _ wsX2_dustOfAll RX2 := ⟨hx, hb, hml, hown, hts⟩
  have k_1 : (Cond.fieldLink RX2 35 "RoadDust$Road" "segments" "I").before _ s = true := hts _ (by decide +kernel)
  have in_X2 : ∀ w ∈ wsX20, w ∈ wsX2_dustOfAll := by decide +kernel
  refine lv_iconst (v := 0) hx hb dX2_dustOfAll_0 (by decide) ?_
  refine lv_istore_n (lv' := [(1, .int 0), (0, .ref (gad Γ (25 * r)))]) hx hb dX2_dustOfAll_1 rfl hl (by decide) rfl (fun ls hl => ?_)
  refine lv_iconst (v := 0) hx hb dX2_dustOfAll_2 (by decide) ?_
  refine lv_istore_n (lv' := [(2, .int 0), (1, .int 0), (0, .ref (gad Γ (25 * r)))]) hx hb dX2_dustOfAll_3 rfl hl (by decide) rfl (fun ls hl => ?_)
  refine g_loop (N := (P 0).toNatClampNeg) (fun k H locs ls => GH Γ (va_up M r P) R O H ∧ va_S (gA Γ) s.heap H locs ∧ lv_has ls 3 [(0, .ref (gad Γ (25 * r))), (1, .int (fX2_dustOfAll_A1  P k)), (2, .int (nI k))]) ?_ ?_ 0 (Nat.zero_le _) _ _ _ ⟨hG, hS, lv_sub hl [2, 1, 0] rfl⟩
  · rintro H locs ls ⟨hG, hS, hl⟩
    refine lv_iload_n hx hb dX2_dustOfAll_4 rfl (lv_at hl 2 rfl) ?_
    refine lv_aload_n hx hb dX2_dustOfAll_5 rfl (lv_at hl 0 rfl) ?_
    refine gRd_get hx hb hts in_X2 hown hK hG hV.1 hV.c0 0 (by decide) k_1 (fun _ h => h) (j := 0) rfl dX2_dustOfAll_6 ?_
    refine lv_icmp_ge (tgt := 26) hx hb dX2_dustOfAll_9 (by decide) (fun c_1 => ?_) (fun c_1 => absurd (cl_le _) c_1)
    refine lv_iload_n hx hb dX2_dustOfAll_26 rfl (lv_at hl 1 rfl) ?_
    exact g_iret hx hb hrt hlocks hS hG (by unfold fX2_dustOfAll_v; rfl) rfl dX2_dustOfAll_27
  · rintro k hk_k ih_k H locs ls ⟨hG, hS, hl⟩
    refine lv_iload_n hx hb dX2_dustOfAll_4 rfl (lv_at hl 2 rfl) ?_
    refine lv_aload_n hx hb dX2_dustOfAll_5 rfl (lv_at hl 0 rfl) ?_
    refine gRd_get hx hb hts in_X2 hown hK hG hV.1 hV.c0 0 (by decide) k_1 (fun _ h => h) (j := 0) rfl dX2_dustOfAll_6 ?_
    refine lv_icmp_ge (tgt := 26) hx hb dX2_dustOfAll_9 (by decide) (fun c_2 => absurd c_2 (cl_ge hk_k)) (fun c_2 => ?_)
    refine lv_iload_n hx hb dX2_dustOfAll_12 rfl (lv_at hl 1 rfl) ?_
    refine lv_aload_n hx hb dX2_dustOfAll_13 rfl (lv_at hl 0 rfl) ?_
    refine lv_iload_n hx hb dX2_dustOfAll_14 rfl (lv_at hl 2 rfl) ?_
    refine g_callV (As := [.int (nI k)]) (rest := [.int (fX2_dustOfAll_A1  P k)]) (st1 := [.int (fX2_dustAt_v P (nI k)), .int (fX2_dustOfAll_A1  P k)]) hF (cX2_dustAt M R O hV P (nI k)) (cwV 1 hts gX2_dustOfAll_X2_dustAt rfl rfl rfl (by decide +kernel) ⟨Nat.le_of_ble_eq_true rfl, Nat.le_of_ble_eq_true rfl⟩) hK hZ hG hS hV.c0 (gC_Rd hV.1) (by decide) rfl rfl hl.1 (Nat.le_of_ble_eq_true rfl) dX2_dustOfAll_15 ⟨Nat.le_refl _, Nat.le_refl _⟩ rfl rfl (fun H locs hG hS => ?_)
    refine lv_iadd hx hb dX2_dustOfAll_18 ?_
    refine lv_istore_n (lv' := [(1, .int ((fX2_dustOfAll_A1  P k) + (fX2_dustAt_v P (nI k)))), (0, .ref (gad Γ (25 * r))), (2, .int (nI k))]) hx hb dX2_dustOfAll_19 rfl hl (by decide) rfl (fun ls hl => ?_)
    refine lv_iinc (v := nI (k + 1)) (lv' := [(2, .int (nI (k + 1))), (1, .int ((fX2_dustOfAll_A1  P k) + (fX2_dustAt_v P (nI k)))), (0, .ref (gad Γ (25 * r)))]) hx hb dX2_dustOfAll_20 hl (k := 2) rfl (nI_1 _) (by decide) rfl (fun ls hl => ?_)
    refine lv_goto (tgt := 4) hx hb dX2_dustOfAll_23 (by decide) ?_
    exact ih_k _ _ _ ⟨hG, hS, lv_sub hl [2, 1, 0] rfl⟩

def fX2_number_v (P : Nat → Int32) (a : Int32) : Int32 := if a = 0 then P 0 else if a = 1 then P 1 else if a = 2 then P 2 else if a = 3 then P 3 else if a = 4 then P 4 else if a = 5 then P 5 else if a = 6 then P 6 else if a = 7 then P 7 else if a = 8 then P 8 else if a = 9 then P 9 else if a = 10 then P 10 else if a = 11 then P 11 else if a = 12 then fX2_dustOfAll_v P  else (-2)
set_option maxHeartbeats 4000000 in
set_option maxRecDepth 100000 in
theorem cX2_number {l : Launch} {Γ : gX} (M : Nat → Nat → Int32) (R : Nat → Nat → Option Nat) (O : Int64) {r : Nat} (hV : LV Γ R r) (P : Nat → Int32) (a : Int32) : gMet l Γ yX2_number wsX2_number 2 43 [.ref (gad Γ (25 * r)), .int a] (va_up M r P) R O (some (.int (fX2_number_v P a))) (va_up M r P) R O := by
  refine g_start (cc := cX2_number) (maxL := 2) (ret := (some .int)) (by decide) rfl (by decide) ?_
  intro p e s m below meth c ls hx hb hml hrt hts hown hlocks hname hK hZ hG hS hl
  have hl : lv_has ls 2 [(0, .ref (gad Γ (25 * r))), (1, .int a)] := hl
  have hown : s.vm.findClass RX2 = some m.cls := hown
  have hF : CallFix p m c cX2_number 2 s _ wsX2_number RX2 := ⟨hx, hb, hml, hown, hts⟩
  have k_1 : (Cond.fieldLink RX2 35 "RoadDust$Road" "segments" "I").before _ s = true := hts _ (by decide +kernel)
  have in_X2 : ∀ w ∈ wsX20, w ∈ wsX2_number := by decide +kernel
  have k_3 : (Cond.fieldLink RX2 39 "RoadDust$Road" "houses" "I").before _ s = true := hts _ (by decide +kernel)
  have k_4 : (Cond.fieldLink RX2 42 "RoadDust$Road" "wagons" "I").before _ s = true := hts _ (by decide +kernel)
  have k_5 : (Cond.fieldLink RX2 45 "RoadDust$Road" "day" "I").before _ s = true := hts _ (by decide +kernel)
  have k_6 : (Cond.fieldLink RX2 48 "RoadDust$Road" "hour" "I").before _ s = true := hts _ (by decide +kernel)
  have k_7 : (Cond.fieldLink RX2 51 "RoadDust$Road" "lorries" "I").before _ s = true := hts _ (by decide +kernel)
  have k_8 : (Cond.fieldLink RX2 54 "RoadDust$Road" "sun" "I").before _ s = true := hts _ (by decide +kernel)
  have k_9 : (Cond.fieldLink RX2 57 "RoadDust$Road" "bound" "I").before _ s = true := hts _ (by decide +kernel)
  have k_10 : (Cond.fieldLink RX2 60 "RoadDust$Road" "right" "I").before _ s = true := hts _ (by decide +kernel)
  have k_11 : (Cond.fieldLink RX2 63 "RoadDust$Road" "filled" "I").before _ s = true := hts _ (by decide +kernel)
  have k_12 : (Cond.fieldLink RX2 66 "RoadDust$Road" "complaints" "I").before _ s = true := hts _ (by decide +kernel)
  have k_13 : (Cond.fieldLink RX2 69 "RoadDust$Road" "sprayed" "I").before _ s = true := hts _ (by decide +kernel)
  refine lv_iload_n hx hb dX2_number_0 rfl (lv_at hl 1 rfl) ?_
  by_cases c_1 : a = 0
  · --0
    refine lv_tableIn (tgt := 68) hx hb dX2_number_1 (by rw [c_1]; decide) (by rw [c_1]; decide) (by rw [c_1]; rfl) (by decide) ?_
    refine lv_aload_n hx hb dX2_number_68 rfl (lv_at hl 0 rfl) ?_
    refine gRd_get hx hb hts in_X2 hown hK hG hV.1 hV.c0 0 (by decide) k_1 (fun _ h => h) (j := 0) rfl dX2_number_69 ?_
    exact g_iret hx hb hrt hlocks hS hG (by unfold fX2_number_v; rw [if_pos c_1]) rfl dX2_number_72
  · --not 0
    by_cases c_2 : a = 1
    · --1
      refine lv_tableIn (tgt := 73) hx hb dX2_number_1 (by rw [c_2]; decide) (by rw [c_2]; decide) (by rw [c_2]; rfl) (by decide) ?_
      refine lv_aload_n hx hb dX2_number_73 rfl (lv_at hl 0 rfl) ?_
      refine gRd_get hx hb hts in_X2 hown hK hG hV.1 hV.c0 1 (by decide) k_3 (fun _ h => h) (j := 1) rfl dX2_number_74 ?_
      exact g_iret hx hb hrt hlocks hS hG (by unfold fX2_number_v; rw [if_neg c_1, if_pos c_2]) rfl dX2_number_77
    · --not 1
      by_cases c_3 : a = 2
      · --2
        refine lv_tableIn (tgt := 78) hx hb dX2_number_1 (by rw [c_3]; decide) (by rw [c_3]; decide) (by rw [c_3]; rfl) (by decide) ?_
        refine lv_aload_n hx hb dX2_number_78 rfl (lv_at hl 0 rfl) ?_
        refine gRd_get hx hb hts in_X2 hown hK hG hV.1 hV.c0 2 (by decide) k_4 (fun _ h => h) (j := 2) rfl dX2_number_79 ?_
        exact g_iret hx hb hrt hlocks hS hG (by unfold fX2_number_v; rw [if_neg c_1, if_neg c_2, if_pos c_3]) rfl dX2_number_82
      · --not 2
        by_cases c_4 : a = 3
        · --3
          refine lv_tableIn (tgt := 83) hx hb dX2_number_1 (by rw [c_4]; decide) (by rw [c_4]; decide) (by rw [c_4]; rfl) (by decide) ?_
          refine lv_aload_n hx hb dX2_number_83 rfl (lv_at hl 0 rfl) ?_
          refine gRd_get hx hb hts in_X2 hown hK hG hV.1 hV.c0 3 (by decide) k_5 (fun _ h => h) (j := 3) rfl dX2_number_84 ?_
          exact g_iret hx hb hrt hlocks hS hG (by unfold fX2_number_v; rw [if_neg c_1, if_neg c_2, if_neg c_3, if_pos c_4]) rfl dX2_number_87
        · --not 3
          by_cases c_5 : a = 4
          · --4
            refine lv_tableIn (tgt := 88) hx hb dX2_number_1 (by rw [c_5]; decide) (by rw [c_5]; decide) (by rw [c_5]; rfl) (by decide) ?_
            refine lv_aload_n hx hb dX2_number_88 rfl (lv_at hl 0 rfl) ?_
            refine gRd_get hx hb hts in_X2 hown hK hG hV.1 hV.c0 4 (by decide) k_6 (fun _ h => h) (j := 4) rfl dX2_number_89 ?_
            exact g_iret hx hb hrt hlocks hS hG (by unfold fX2_number_v; rw [if_neg c_1, if_neg c_2, if_neg c_3, if_neg c_4, if_pos c_5]) rfl dX2_number_92
          · --not 4
            by_cases c_6 : a = 5
            · --5
              refine lv_tableIn (tgt := 93) hx hb dX2_number_1 (by rw [c_6]; decide) (by rw [c_6]; decide) (by rw [c_6]; rfl) (by decide) ?_
              refine lv_aload_n hx hb dX2_number_93 rfl (lv_at hl 0 rfl) ?_
              refine gRd_get hx hb hts in_X2 hown hK hG hV.1 hV.c0 5 (by decide) k_7 (fun _ h => h) (j := 5) rfl dX2_number_94 ?_
              exact g_iret hx hb hrt hlocks hS hG (by unfold fX2_number_v; rw [if_neg c_1, if_neg c_2, if_neg c_3, if_neg c_4, if_neg c_5, if_pos c_6]) rfl dX2_number_97
            · --not 5
              by_cases c_7 : a = 6
              · --6
                refine lv_tableIn (tgt := 98) hx hb dX2_number_1 (by rw [c_7]; decide) (by rw [c_7]; decide) (by rw [c_7]; rfl) (by decide) ?_
                refine lv_aload_n hx hb dX2_number_98 rfl (lv_at hl 0 rfl) ?_
                refine gRd_get hx hb hts in_X2 hown hK hG hV.1 hV.c0 6 (by decide) k_8 (fun _ h => h) (j := 6) rfl dX2_number_99 ?_
                exact g_iret hx hb hrt hlocks hS hG (by unfold fX2_number_v; rw [if_neg c_1, if_neg c_2, if_neg c_3, if_neg c_4, if_neg c_5, if_neg c_6, if_pos c_7]) rfl dX2_number_102
              · --not 6
                by_cases c_8 : a = 7
                · --7
                  refine lv_tableIn (tgt := 103) hx hb dX2_number_1 (by rw [c_8]; decide) (by rw [c_8]; decide) (by rw [c_8]; rfl) (by decide) ?_
                  refine lv_aload_n hx hb dX2_number_103 rfl (lv_at hl 0 rfl) ?_
                  refine gRd_get hx hb hts in_X2 hown hK hG hV.1 hV.c0 7 (by decide) k_9 (fun _ h => h) (j := 7) rfl dX2_number_104 ?_
                  exact g_iret hx hb hrt hlocks hS hG (by unfold fX2_number_v; rw [if_neg c_1, if_neg c_2, if_neg c_3, if_neg c_4, if_neg c_5, if_neg c_6, if_neg c_7, if_pos c_8]) rfl dX2_number_107
                · --not 7
                  by_cases c_9 : a = 8
                  · --8
                    refine lv_tableIn (tgt := 108) hx hb dX2_number_1 (by rw [c_9]; decide) (by rw [c_9]; decide) (by rw [c_9]; rfl) (by decide) ?_
                    refine lv_aload_n hx hb dX2_number_108 rfl (lv_at hl 0 rfl) ?_
                    refine gRd_get hx hb hts in_X2 hown hK hG hV.1 hV.c0 8 (by decide) k_10 (fun _ h => h) (j := 8) rfl dX2_number_109 ?_
                    exact g_iret hx hb hrt hlocks hS hG (by unfold fX2_number_v; rw [if_neg c_1, if_neg c_2, if_neg c_3, if_neg c_4, if_neg c_5, if_neg c_6, if_neg c_7, if_neg c_8, if_pos c_9]) rfl dX2_number_112
                  · --not 8
                    by_cases c_10 : a = 9
                    · --9
                      refine lv_tableIn (tgt := 113) hx hb dX2_number_1 (by rw [c_10]; decide) (by rw [c_10]; decide) (by rw [c_10]; rfl) (by decide) ?_
                      refine lv_aload_n hx hb dX2_number_113 rfl (lv_at hl 0 rfl) ?_
                      refine gRd_get hx hb hts in_X2 hown hK hG hV.1 hV.c0 9 (by decide) k_11 (fun _ h => h) (j := 9) rfl dX2_number_114 ?_
                      exact g_iret hx hb hrt hlocks hS hG (by unfold fX2_number_v; rw [if_neg c_1, if_neg c_2, if_neg c_3, if_neg c_4, if_neg c_5, if_neg c_6, if_neg c_7, if_neg c_8, if_neg c_9, if_pos c_10]) rfl dX2_number_117
                    · --not 9
                      by_cases c_11 : a = 10
                      · --10
                        refine lv_tableIn (tgt := 118) hx hb dX2_number_1 (by rw [c_11]; decide) (by rw [c_11]; decide) (by rw [c_11]; rfl) (by decide) ?_
                        refine lv_aload_n hx hb dX2_number_118 rfl (lv_at hl 0 rfl) ?_
                        refine gRd_get hx hb hts in_X2 hown hK hG hV.1 hV.c0 10 (by decide) k_12 (fun _ h => h) (j := 10) rfl dX2_number_119 ?_
                        exact g_iret hx hb hrt hlocks hS hG (by unfold fX2_number_v; rw [if_neg c_1, if_neg c_2, if_neg c_3, if_neg c_4, if_neg c_5, if_neg c_6, if_neg c_7, if_neg c_8, if_neg c_9, if_neg c_10, if_pos c_11]) rfl dX2_number_122
                      · --not 10
                        by_cases c_12 : a = 11
                        · --11
                          refine lv_tableIn (tgt := 123) hx hb dX2_number_1 (by rw [c_12]; decide) (by rw [c_12]; decide) (by rw [c_12]; rfl) (by decide) ?_
                          refine lv_aload_n hx hb dX2_number_123 rfl (lv_at hl 0 rfl) ?_
                          refine gRd_get hx hb hts in_X2 hown hK hG hV.1 hV.c0 11 (by decide) k_13 (fun _ h => h) (j := 11) rfl dX2_number_124 ?_
                          exact g_iret hx hb hrt hlocks hS hG (by unfold fX2_number_v; rw [if_neg c_1, if_neg c_2, if_neg c_3, if_neg c_4, if_neg c_5, if_neg c_6, if_neg c_7, if_neg c_8, if_neg c_9, if_neg c_10, if_neg c_11, if_pos c_12]) rfl dX2_number_127
                        · --not 11
                          by_cases c_13 : a = 12
                          · --12
                            refine lv_tableIn (tgt := 128) hx hb dX2_number_1 (by rw [c_13]; decide) (by rw [c_13]; decide) (by rw [c_13]; rfl) (by decide) ?_
                            refine lv_aload_n hx hb dX2_number_128 rfl (lv_at hl 0 rfl) ?_
                            refine g_callV (As := []) (rest := []) (st1 := [.int (fX2_dustOfAll_v P )]) hF (cX2_dustOfAll M R O hV P ) (cwV 0 hts gX2_number_X2_dustOfAll rfl rfl rfl (by decide +kernel) ⟨Nat.le_of_ble_eq_true rfl, Nat.le_of_ble_eq_true rfl⟩) hK hZ hG hS hV.c0 (gC_Rd hV.1) (by decide) rfl rfl hl.1 (Nat.le_of_ble_eq_true rfl) dX2_number_129 ⟨Nat.le_refl _, Nat.le_refl _⟩ rfl rfl (fun H locs hG hS => ?_)
                            exact g_iret hx hb hrt hlocks hS hG (by unfold fX2_number_v; rw [if_neg c_1, if_neg c_2, if_neg c_3, if_neg c_4, if_neg c_5, if_neg c_6, if_neg c_7, if_neg c_8, if_neg c_9, if_neg c_10, if_neg c_11, if_neg c_12, if_pos c_13]) rfl dX2_number_132
                          · --not 12
                            have z_14 := lv_neT (a := 0) c_1 (by decide)
                            have z_15 := lv_neT (a := 1) c_2 (by decide)
                            have z_16 := lv_neT (a := 2) c_3 (by decide)
                            have z_17 := lv_neT (a := 3) c_4 (by decide)
                            have z_18 := lv_neT (a := 4) c_5 (by decide)
                            have z_19 := lv_neT (a := 5) c_6 (by decide)
                            have z_20 := lv_neT (a := 6) c_7 (by decide)
                            have z_21 := lv_neT (a := 7) c_8 (by decide)
                            have z_22 := lv_neT (a := 8) c_9 (by decide)
                            have z_23 := lv_neT (a := 9) c_10 (by decide)
                            have z_24 := lv_neT (a := 10) c_11 (by decide)
                            have z_25 := lv_neT (a := 11) c_12 (by decide)
                            have z_26 := lv_neT (a := 12) c_13 (by decide)
                            refine lv_tableOut (tgt := 133) hx hb dX2_number_1 (by omega) (by decide) ?_
                            refine lv_bipush (v := (-2)) hx hb dX2_number_133 (by decide) ?_
                            exact g_iret hx hb hrt hlocks hS hG (by unfold fX2_number_v; rw [if_neg c_1, if_neg c_2, if_neg c_3, if_neg c_4, if_neg c_5, if_neg c_6, if_neg c_7, if_neg c_8, if_neg c_9, if_neg c_10, if_neg c_11, if_neg c_12, if_neg c_13]) rfl dX2_number_135

def fX2_tell_S (a : Int32) (Pk : Nat → Int32) (k : Nat) : Nat → Int32 := if ((a >>> ((nI k) &&& 31)) &&& 1) = 1 then upd Pk (12 + 7 * k + 5) 1 else upd Pk (12 + 7 * k + 5) 0
def fX2_tell_L (a : Int32) (P : Nat → Int32) : Nat → Nat → Int32
  | 0 => P
  | k + 1 => fX2_tell_S a (fX2_tell_L a P k) k
def fX2_tellFillingPlaces_P (P : Nat → Int32) (a : Int32) : Nat → Int32 := fX2_tell_L a P 10
set_option maxHeartbeats 4000000 in
set_option maxRecDepth 100000 in
theorem cX2_tellFillingPlaces {l : Launch} {Γ : gX} (M : Nat → Nat → Int32) (R : Nat → Nat → Option Nat) (O : Int64) {r : Nat} (hV : LV Γ R r) (P : Nat → Int32) (a : Int32) : gMet l Γ yX2_tellFillingPlaces wsX2_tellFillingPlaces 0 0 [.ref (gad Γ (25 * r)), .int a] (va_up M r P) R O none (va_up M r (fX2_tellFillingPlaces_P P a)) R O := by
  refine g_start (cc := cX2_tellFillingPlaces) (maxL := 3) (ret := none) (by decide) rfl (by decide) ?_
  intro p e s m below meth c ls hx hb hml hrt hts hown hlocks hname hK hZ hG hS hl
  have hl : lv_has ls 3 [(0, .ref (gad Γ (25 * r))), (1, .int a)] := hl
  have hown : s.vm.findClass RX2 = some m.cls := hown
  have hF : CallFix p m c cX2_tellFillingPlaces 3 s _ wsX2_tellFillingPlaces RX2 := ⟨hx, hb, hml, hown, hts⟩
  have k_1 : (Cond.fieldLink RX2 11 "RoadDust$Road" "segmentRow" "[LRoadDust$Segment;").before _ s = true := hts _ (by decide +kernel)
  have in_X2 : ∀ w ∈ wsX20, w ∈ wsX2_tellFillingPlaces := by decide +kernel
  have k_3 : (Cond.fieldLink RX2 95 "RoadDust$Segment" "filling" "Z").before _ s = true := hts _ (by decide +kernel)
  have in_X3 : ∀ w ∈ wsX30, w ∈ wsX2_tellFillingPlaces := by decide +kernel
  refine lv_iconst (v := 0) hx hb dX2_tellFillingPlaces_0 (by decide) ?_
  refine lv_istore_n (lv' := [(2, .int 0), (0, .ref (gad Γ (25 * r))), (1, .int a)]) hx hb dX2_tellFillingPlaces_1 rfl hl (by decide) rfl (fun ls hl => ?_)
  refine g_loop (N := 10) (fun k H locs ls => GH Γ (va_up M r (fX2_tell_L a P k)) R O H ∧ va_S (gA Γ) s.heap H locs ∧ lv_has ls 3 [(0, .ref (gad Γ (25 * r))), (1, .int a), (2, .int (nI k))]) ?_ ?_ 0 (Nat.zero_le _) _ _ _ ⟨hG, hS, lv_sub hl [1, 2, 0] rfl⟩
  · rintro H locs ls ⟨hG, hS, hl⟩
    refine lv_iload_n hx hb dX2_tellFillingPlaces_2 rfl (lv_at hl 2 rfl) ?_
    refine lv_bipush (v := 10) hx hb dX2_tellFillingPlaces_3 (by decide) ?_
    refine lv_icmp_ge (tgt := 37) hx hb dX2_tellFillingPlaces_5 (by decide) (fun c_1 => ?_) (fun c_1 => absurd (nI_le (Nat.le_refl _) (by decide)) c_1)
    exact g_vret hx hb hrt hlocks hS hG (congrArg (va_up M r) (by unfold fX2_tellFillingPlaces_P; rfl)) rfl dX2_tellFillingPlaces_37
  · rintro k hk_k ih_k H locs ls ⟨hG, hS, hl⟩
    refine lv_iload_n hx hb dX2_tellFillingPlaces_2 rfl (lv_at hl 2 rfl) ?_
    refine lv_bipush (v := 10) hx hb dX2_tellFillingPlaces_3 (by decide) ?_
    refine lv_icmp_ge (tgt := 37) hx hb dX2_tellFillingPlaces_5 (by decide) (fun c_2 => absurd c_2 (nI_ge hk_k (by decide))) (fun c_2 => ?_)
    refine lv_aload_n hx hb dX2_tellFillingPlaces_8 rfl (lv_at hl 0 rfl) ?_
    refine gRd_getr hx hb hts in_X2 hown hK hG hV.1 hV.c0 12 (by decide) rfl hV.2.2.1 k_1 (fun _ h => h) dX2_tellFillingPlaces_9 ?_
    refine lv_iload_n hx hb dX2_tellFillingPlaces_12 rfl (lv_at hl 2 rfl) ?_
    refine g_aald hx hb hK hG (hV.row 1 (by decide)) (gC_row1 hV.1) (by decide) (by decide) rfl (gLen_row1 hV.1) (j := k) (nI_clamp (by omega)) (vp_in_nI (by omega) (by decide)) (hV.s (i := k) (by omega)) dX2_tellFillingPlaces_13 ?_
    refine lv_iload_n hx hb dX2_tellFillingPlaces_14 rfl (lv_at hl 1 rfl) ?_
    refine lv_iload_n hx hb dX2_tellFillingPlaces_15 rfl (lv_at hl 2 rfl) ?_
    refine lv_ishr hx hb dX2_tellFillingPlaces_16 ?_
    refine lv_iconst (v := 1) hx hb dX2_tellFillingPlaces_17 (by decide) ?_
    refine lv_iand hx hb dX2_tellFillingPlaces_18 ?_
    refine lv_iconst (v := 1) hx hb dX2_tellFillingPlaces_19 (by decide) ?_
    refine lv_icmp_ne (tgt := 27) hx hb dX2_tellFillingPlaces_20 (by decide) (fun c_3 => ?_) (fun c_3 => ?_)
    · --T
      refine lv_iconst (v := 0) hx hb dX2_tellFillingPlaces_27 (by decide) ?_
      refine gS_put hx hb hts in_X3 hown hK hG hS hV.1 (by omega) (hV.seg (i := k) (by omega)) 5 (by decide) k_3 (fun _ h => h) rfl .boolean (by decide +kernel) (congrArg Value.int (by decide)) rfl (j := 12 + 7 * k + 5) rfl dX2_tellFillingPlaces_28 (fun H locs hG hS => ?_)
      refine lv_iinc (v := nI (k + 1)) (lv' := [(2, .int (nI (k + 1))), (0, .ref (gad Γ (25 * r))), (1, .int a)]) hx hb dX2_tellFillingPlaces_31 hl (k := 2) rfl (nI_1 _) (by decide) rfl (fun ls hl => ?_)
      refine lv_goto (tgt := 2) hx hb dX2_tellFillingPlaces_34 (by decide) ?_
      exact ih_k _ _ _ ⟨g_st (congrArg (va_up M r) (by show _ = fX2_tell_S a (fX2_tell_L a P k) k; unfold fX2_tell_S; rw [if_neg c_3])) hG, hS, lv_sub hl [1, 2, 0] rfl⟩
    · --F
      refine lv_iconst (v := 1) hx hb dX2_tellFillingPlaces_23 (by decide) ?_
      refine lv_goto (tgt := 28) hx hb dX2_tellFillingPlaces_24 (by decide) ?_
      refine gS_put hx hb hts in_X3 hown hK hG hS hV.1 (by omega) (hV.seg (i := k) (by omega)) 5 (by decide) k_3 (fun _ h => h) rfl .boolean (by decide +kernel) (congrArg Value.int (by decide)) rfl (j := 12 + 7 * k + 5) rfl dX2_tellFillingPlaces_28 (fun H locs hG hS => ?_)
      refine lv_iinc (v := nI (k + 1)) (lv' := [(2, .int (nI (k + 1))), (0, .ref (gad Γ (25 * r))), (1, .int a)]) hx hb dX2_tellFillingPlaces_31 hl (k := 2) rfl (nI_1 _) (by decide) rfl (fun ls hl => ?_)
      refine lv_goto (tgt := 2) hx hb dX2_tellFillingPlaces_34 (by decide) ?_
      exact ih_k _ _ _ ⟨g_st (congrArg (va_up M r) (by show _ = fX2_tell_S a (fX2_tell_L a P k) k; unfold fX2_tell_S; rw [if_pos c_3])) hG, hS, lv_sub hl [1, 2, 0] rfl⟩

def fX2_beNew_S  (Pk : Nat → Int32) (k : Nat) : Nat → Int32 := fX3_beNew_P Pk k 
def fX2_beNew_L  (P : Nat → Int32) : Nat → Nat → Int32
  | 0 => P
  | k + 1 => fX2_beNew_S  (fX2_beNew_L  P k) k
def fX2_beNew_P (P : Nat → Int32) : Nat → Int32 := fX2_tellFillingPlaces_P (fX2_beNew_L  (upd (upd (upd (upd (upd (upd (upd (upd (upd (upd (upd (upd P 0 4) 1 0) 2 0) 3 0) 4 0) 5 10) 6 5) 7 50) 8 40) 9 0) 10 0) 11 0) 10) 1
set_option maxHeartbeats 4000000 in
set_option maxRecDepth 100000 in
theorem cX2_beNew {l : Launch} {Γ : gX} (M : Nat → Nat → Int32) (R : Nat → Nat → Option Nat) (O : Int64) {r : Nat} (hV : LV Γ R r) (P : Nat → Int32) : gMet l Γ yX2_beNew wsX2_beNew 1 22 [.ref (gad Γ (25 * r))] (va_up M r P) R O none (va_up M r (fX2_beNew_P P)) R O := by
  refine g_start (cc := cX2_beNew) (maxL := 5) (ret := none) (by decide) rfl (by decide) ?_
  intro p e s m below meth c ls hx hb hml hrt hts hown hlocks hname hK hZ hG hS hl
  have hl : lv_has ls 5 [(0, .ref (gad Γ (25 * r)))] := hl
  have hown : s.vm.findClass RX2 = some m.cls := hown
  have hF : CallFix p m c cX2_beNew 5 s _ wsX2_beNew RX2 := ⟨hx, hb, hml, hown, hts⟩
  have k_1 : (Cond.fieldLink RX2 35 "RoadDust$Road" "segments" "I").before _ s = true := hts _ (by decide +kernel)
  have in_X2 : ∀ w ∈ wsX20, w ∈ wsX2_beNew := by decide +kernel
  have k_3 : (Cond.fieldLink RX2 39 "RoadDust$Road" "houses" "I").before _ s = true := hts _ (by decide +kernel)
  have k_4 : (Cond.fieldLink RX2 42 "RoadDust$Road" "wagons" "I").before _ s = true := hts _ (by decide +kernel)
  have k_5 : (Cond.fieldLink RX2 45 "RoadDust$Road" "day" "I").before _ s = true := hts _ (by decide +kernel)
  have k_6 : (Cond.fieldLink RX2 48 "RoadDust$Road" "hour" "I").before _ s = true := hts _ (by decide +kernel)
  have k_7 : (Cond.fieldLink RX2 51 "RoadDust$Road" "lorries" "I").before _ s = true := hts _ (by decide +kernel)
  have k_8 : (Cond.fieldLink RX2 54 "RoadDust$Road" "sun" "I").before _ s = true := hts _ (by decide +kernel)
  have k_9 : (Cond.fieldLink RX2 57 "RoadDust$Road" "bound" "I").before _ s = true := hts _ (by decide +kernel)
  have k_10 : (Cond.fieldLink RX2 60 "RoadDust$Road" "right" "I").before _ s = true := hts _ (by decide +kernel)
  have k_11 : (Cond.fieldLink RX2 63 "RoadDust$Road" "filled" "I").before _ s = true := hts _ (by decide +kernel)
  have k_12 : (Cond.fieldLink RX2 66 "RoadDust$Road" "complaints" "I").before _ s = true := hts _ (by decide +kernel)
  have k_13 : (Cond.fieldLink RX2 69 "RoadDust$Road" "sprayed" "I").before _ s = true := hts _ (by decide +kernel)
  have k_14 : (Cond.fieldLink RX2 11 "RoadDust$Road" "segmentRow" "[LRoadDust$Segment;").before _ s = true := hts _ (by decide +kernel)
  refine lv_aload_n hx hb dX2_beNew_0 rfl (lv_at hl 0 rfl) ?_
  refine lv_iconst (v := 4) hx hb dX2_beNew_1 (by decide) ?_
  refine gRd_put hx hb hts in_X2 hown hK hG hS hV.1 hV.c0 0 (by decide) k_1 (fun _ h => h) rfl .int (by decide +kernel) rfl rfl (j := 0) rfl dX2_beNew_2 (fun H locs hG hS => ?_)
  refine lv_aload_n hx hb dX2_beNew_5 rfl (lv_at hl 0 rfl) ?_
  refine lv_iconst (v := 0) hx hb dX2_beNew_6 (by decide) ?_
  refine gRd_put hx hb hts in_X2 hown hK hG hS hV.1 hV.c0 1 (by decide) k_3 (fun _ h => h) rfl .int (by decide +kernel) rfl rfl (j := 1) rfl dX2_beNew_7 (fun H locs hG hS => ?_)
  refine lv_aload_n hx hb dX2_beNew_10 rfl (lv_at hl 0 rfl) ?_
  refine lv_iconst (v := 0) hx hb dX2_beNew_11 (by decide) ?_
  refine gRd_put hx hb hts in_X2 hown hK hG hS hV.1 hV.c0 2 (by decide) k_4 (fun _ h => h) rfl .int (by decide +kernel) rfl rfl (j := 2) rfl dX2_beNew_12 (fun H locs hG hS => ?_)
  refine lv_aload_n hx hb dX2_beNew_15 rfl (lv_at hl 0 rfl) ?_
  refine lv_iconst (v := 0) hx hb dX2_beNew_16 (by decide) ?_
  refine gRd_put hx hb hts in_X2 hown hK hG hS hV.1 hV.c0 3 (by decide) k_5 (fun _ h => h) rfl .int (by decide +kernel) rfl rfl (j := 3) rfl dX2_beNew_17 (fun H locs hG hS => ?_)
  refine lv_aload_n hx hb dX2_beNew_20 rfl (lv_at hl 0 rfl) ?_
  refine lv_iconst (v := 0) hx hb dX2_beNew_21 (by decide) ?_
  refine gRd_put hx hb hts in_X2 hown hK hG hS hV.1 hV.c0 4 (by decide) k_6 (fun _ h => h) rfl .int (by decide +kernel) rfl rfl (j := 4) rfl dX2_beNew_22 (fun H locs hG hS => ?_)
  refine lv_aload_n hx hb dX2_beNew_25 rfl (lv_at hl 0 rfl) ?_
  refine lv_bipush (v := 10) hx hb dX2_beNew_26 (by decide) ?_
  refine gRd_put hx hb hts in_X2 hown hK hG hS hV.1 hV.c0 5 (by decide) k_7 (fun _ h => h) rfl .int (by decide +kernel) rfl rfl (j := 5) rfl dX2_beNew_28 (fun H locs hG hS => ?_)
  refine lv_aload_n hx hb dX2_beNew_31 rfl (lv_at hl 0 rfl) ?_
  refine lv_iconst (v := 5) hx hb dX2_beNew_32 (by decide) ?_
  refine gRd_put hx hb hts in_X2 hown hK hG hS hV.1 hV.c0 6 (by decide) k_8 (fun _ h => h) rfl .int (by decide +kernel) rfl rfl (j := 6) rfl dX2_beNew_33 (fun H locs hG hS => ?_)
  refine lv_aload_n hx hb dX2_beNew_36 rfl (lv_at hl 0 rfl) ?_
  refine lv_bipush (v := 50) hx hb dX2_beNew_37 (by decide) ?_
  refine gRd_put hx hb hts in_X2 hown hK hG hS hV.1 hV.c0 7 (by decide) k_9 (fun _ h => h) rfl .int (by decide +kernel) rfl rfl (j := 7) rfl dX2_beNew_39 (fun H locs hG hS => ?_)
  refine lv_aload_n hx hb dX2_beNew_42 rfl (lv_at hl 0 rfl) ?_
  refine lv_bipush (v := 40) hx hb dX2_beNew_43 (by decide) ?_
  refine gRd_put hx hb hts in_X2 hown hK hG hS hV.1 hV.c0 8 (by decide) k_10 (fun _ h => h) rfl .int (by decide +kernel) rfl rfl (j := 8) rfl dX2_beNew_45 (fun H locs hG hS => ?_)
  refine lv_aload_n hx hb dX2_beNew_48 rfl (lv_at hl 0 rfl) ?_
  refine lv_iconst (v := 0) hx hb dX2_beNew_49 (by decide) ?_
  refine gRd_put hx hb hts in_X2 hown hK hG hS hV.1 hV.c0 9 (by decide) k_11 (fun _ h => h) rfl .int (by decide +kernel) rfl rfl (j := 9) rfl dX2_beNew_50 (fun H locs hG hS => ?_)
  refine lv_aload_n hx hb dX2_beNew_53 rfl (lv_at hl 0 rfl) ?_
  refine lv_iconst (v := 0) hx hb dX2_beNew_54 (by decide) ?_
  refine gRd_put hx hb hts in_X2 hown hK hG hS hV.1 hV.c0 10 (by decide) k_12 (fun _ h => h) rfl .int (by decide +kernel) rfl rfl (j := 10) rfl dX2_beNew_55 (fun H locs hG hS => ?_)
  refine lv_aload_n hx hb dX2_beNew_58 rfl (lv_at hl 0 rfl) ?_
  refine lv_iconst (v := 0) hx hb dX2_beNew_59 (by decide) ?_
  refine gRd_put hx hb hts in_X2 hown hK hG hS hV.1 hV.c0 11 (by decide) k_13 (fun _ h => h) rfl .int (by decide +kernel) rfl rfl (j := 11) rfl dX2_beNew_60 (fun H locs hG hS => ?_)
  refine lv_aload_n hx hb dX2_beNew_63 rfl (lv_at hl 0 rfl) ?_
  refine gRd_getr hx hb hts in_X2 hown hK hG hV.1 hV.c0 12 (by decide) rfl hV.2.2.1 k_14 (fun _ h => h) dX2_beNew_64 ?_
  refine lv_astore_n (lv' := [(1, .ref (gad Γ (25 * r + 1))), (0, .ref (gad Γ (25 * r)))]) hx hb dX2_beNew_67 rfl hl (by decide) rfl (fun ls hl => ?_)
  refine lv_aload_n hx hb dX2_beNew_68 rfl (lv_at hl 0 rfl) ?_
  refine g_alen hx hb hK hG (hV.row 1 (by decide)) (gC_row1 hV.1) (by decide) (by decide) (gLen_row1 hV.1) dX2_beNew_69 ?_
  refine lv_istore_n (lv' := [(2, .int (nI 10)), (1, .ref (gad Γ (25 * r + 1))), (0, .ref (gad Γ (25 * r)))]) hx hb dX2_beNew_70 rfl hl (by decide) rfl (fun ls hl => ?_)
  refine lv_iconst (v := 0) hx hb dX2_beNew_71 (by decide) ?_
  refine lv_istore_n (lv' := [(3, .int 0), (2, .int (nI 10)), (1, .ref (gad Γ (25 * r + 1))), (0, .ref (gad Γ (25 * r)))]) hx hb dX2_beNew_72 rfl hl (by decide) rfl (fun ls hl => ?_)
  refine g_loop (N := 10) (fun k H locs ls => GH Γ (va_up M r (fX2_beNew_L  (upd (upd (upd (upd (upd (upd (upd (upd (upd (upd (upd (upd P 0 4) 1 0) 2 0) 3 0) 4 0) 5 10) 6 5) 7 50) 8 40) 9 0) 10 0) 11 0) k)) R O H ∧ va_S (gA Γ) s.heap H locs ∧ lv_has ls 5 [(0, .ref (gad Γ (25 * r))), (1, .ref (gad Γ (25 * r + 1))), (2, .int (nI 10)), (3, .int (nI k))]) ?_ ?_ 0 (Nat.zero_le _) _ _ _ ⟨hG, hS, lv_sub hl [3, 2, 1, 0] rfl⟩
  · rintro H locs ls ⟨hG, hS, hl⟩
    refine lv_iload_n hx hb dX2_beNew_73 rfl (lv_at hl 3 rfl) ?_
    refine lv_iload_n hx hb dX2_beNew_74 rfl (lv_at hl 2 rfl) ?_
    refine lv_icmp_ge (tgt := 94) hx hb dX2_beNew_75 (by decide) (fun c_1 => ?_) (fun c_1 => absurd (nI_le (Nat.le_refl _) (by decide)) c_1)
    refine lv_aload_n hx hb dX2_beNew_94 rfl (lv_at hl 0 rfl) ?_
    refine lv_iconst (v := 1) hx hb dX2_beNew_95 (by decide) ?_
    refine g_callV (As := [.int 1]) (rest := []) (st1 := []) hF (cX2_tellFillingPlaces M R O hV (fX2_beNew_L  (upd (upd (upd (upd (upd (upd (upd (upd (upd (upd (upd (upd P 0 4) 1 0) 2 0) 3 0) 4 0) 5 10) 6 5) 7 50) 8 40) 9 0) 10 0) 11 0) 10) 1) (cwV 1 hts gX2_beNew_X2_tellFillingPlaces rfl rfl rfl (by decide +kernel) ⟨Nat.le_of_ble_eq_true rfl, Nat.le_of_ble_eq_true rfl⟩) hK hZ hG hS hV.c0 (gC_Rd hV.1) (by decide) rfl rfl hl.1 (Nat.le_of_ble_eq_true rfl) dX2_beNew_96 ⟨Nat.le_refl _, Nat.le_refl _⟩ rfl rfl (fun H locs hG hS => ?_)
    exact g_vret hx hb hrt hlocks hS hG (congrArg (va_up M r) (by unfold fX2_beNew_P; rfl)) rfl dX2_beNew_99
  · rintro k hk_k ih_k H locs ls ⟨hG, hS, hl⟩
    refine lv_iload_n hx hb dX2_beNew_73 rfl (lv_at hl 3 rfl) ?_
    refine lv_iload_n hx hb dX2_beNew_74 rfl (lv_at hl 2 rfl) ?_
    refine lv_icmp_ge (tgt := 94) hx hb dX2_beNew_75 (by decide) (fun c_2 => absurd c_2 (nI_ge hk_k (by decide))) (fun c_2 => ?_)
    refine lv_aload_n hx hb dX2_beNew_78 rfl (lv_at hl 1 rfl) ?_
    refine lv_iload_n hx hb dX2_beNew_79 rfl (lv_at hl 3 rfl) ?_
    refine g_aald hx hb hK hG (hV.row 1 (by decide)) (gC_row1 hV.1) (by decide) (by decide) rfl (gLen_row1 hV.1) (j := k) (nI_clamp (by omega)) (vp_in_nI (by omega) (by decide)) (hV.s (i := k) (by omega)) dX2_beNew_80 ?_
    refine lv_astore (lv' := [(4, .ref (gad Γ (25 * r + 4 + k))), (0, .ref (gad Γ (25 * r))), (1, .ref (gad Γ (25 * r + 1))), (2, .int (nI 10)), (3, .int (nI k))]) hx hb dX2_beNew_81 hl (by decide) rfl (fun ls hl => ?_)
    refine lv_aload hx hb dX2_beNew_83 (lv_at hl 0 rfl) ?_
    refine g_callV (As := []) (rest := []) (st1 := []) hF (cX3_beNew M R O hV.1 (by omega) (hV.seg (i := k) (by omega)) (fX2_beNew_L  (upd (upd (upd (upd (upd (upd (upd (upd (upd (upd (upd (upd P 0 4) 1 0) 2 0) 3 0) 4 0) 5 10) 6 5) 7 50) 8 40) 9 0) 10 0) 11 0) k) ) (cwV 0 hts gX2_beNew_X3_beNew rfl rfl rfl (by decide +kernel) ⟨Nat.le_of_ble_eq_true rfl, Nat.le_of_ble_eq_true rfl⟩) hK hZ hG hS (hV.seg (i := k) (by omega)) (gC_S hV.1 (by omega)) (by decide) rfl rfl hl.1 (Nat.le_of_ble_eq_true rfl) dX2_beNew_85 ⟨Nat.le_refl _, Nat.le_refl _⟩ rfl rfl (fun H locs hG hS => ?_)
    refine lv_iinc (v := nI (k + 1)) (lv' := [(3, .int (nI (k + 1))), (4, .ref (gad Γ (25 * r + 4 + k))), (0, .ref (gad Γ (25 * r))), (1, .ref (gad Γ (25 * r + 1))), (2, .int (nI 10))]) hx hb dX2_beNew_88 hl (k := 4) rfl (nI_1 _) (by decide) rfl (fun ls hl => ?_)
    refine lv_goto (tgt := 73) hx hb dX2_beNew_91 (by decide) ?_
    exact ih_k _ _ _ ⟨hG, hS, lv_sub hl [2, 3, 4, 0] rfl⟩

def fX2_cpW_S (Q : Nat → Int32) (Pk : Nat → Int32) (k : Nat) : Nat → Int32 := fX5_copyFrom_P Q Pk k
def fX2_cpW_L (Q : Nat → Int32) (P : Nat → Int32) : Nat → Nat → Int32
  | 0 => P
  | k + 1 => fX2_cpW_S (M r2) (fX2_cpW_L (M r2) P k) k
def fX2_cpH_S (Q : Nat → Int32) (Pk : Nat → Int32) (k : Nat) : Nat → Int32 := fX1_copyFrom_P Q Pk k
def fX2_cpH_L (Q : Nat → Int32) (P : Nat → Int32) : Nat → Nat → Int32
  | 0 => P
  | k + 1 => fX2_cpH_S (M r2) (fX2_cpH_L (M r2) P k) k
def fX2_cpS_S (Q : Nat → Int32) (Pk : Nat → Int32) (k : Nat) : Nat → Int32 := fX3_copyFrom_P Q Pk k
def fX2_cpS_L (Q : Nat → Int32) (P : Nat → Int32) : Nat → Nat → Int32
  | 0 => P
  | k + 1 => fX2_cpS_S (M r2) (fX2_cpS_L (M r2) P k) k
def fX2_copyFrom_P (Q P : Nat → Int32) : Nat → Int32 := fX2_cpW_L Q (fX2_cpH_L Q (fX2_cpS_L Q (upd (upd (upd (upd (upd (upd (upd (upd (upd (upd (upd (upd P 0 (Q 0)) 1 (Q 1)) 2 (Q 2)) 3 (Q 3)) 4 (Q 4)) 5 (Q 5)) 6 (Q 6)) 7 (Q 7)) 8 (Q 8)) 9 (Q 9)) 10 (Q 10)) 11 (Q 11)) 10) 8) 3
set_option maxHeartbeats 4000000 in
set_option maxRecDepth 100000 in
theorem cX2_copyFrom {l : Launch} {Γ : gX} (M : Nat → Nat → Int32) (R : Nat → Nat → Option Nat) (O : Int64) {r r2 : Nat} (hV : LV Γ R r) (hV2 : LV Γ R r2) (hne : r2 ≠ r) (hB : ∀ i, i < 10 → M r2 (12 + 7 * i + 5) &&& 1 = M r2 (12 + 7 * i + 5)) (P : Nat → Int32) : gMet l Γ yX2_copyFrom wsX2_copyFrom 1 21 [.ref (gad Γ (25 * r)), .ref (gad Γ (25 * r2))] (va_up M r P) R O none (va_up M r (fX2_copyFrom_P (M r2) P)) R O := by
  refine g_start (cc := cX2_copyFrom) (maxL := 3) (ret := none) (by decide) rfl (by decide) ?_
  intro p e s m below meth c ls hx hb hml hrt hts hown hlocks hname hK hZ hG hS hl
  have hl : lv_has ls 3 [(0, .ref (gad Γ (25 * r))), (1, .ref (gad Γ (25 * r2)))] := hl
  have hown : s.vm.findClass RX2 = some m.cls := hown
  have hF : CallFix p m c cX2_copyFrom 3 s _ wsX2_copyFrom RX2 := ⟨hx, hb, hml, hown, hts⟩
  have k_1 : (Cond.fieldLink RX2 35 "RoadDust$Road" "segments" "I").before _ s = true := hts _ (by decide +kernel)
  have in_X2 : ∀ w ∈ wsX20, w ∈ wsX2_copyFrom := by decide +kernel
  have k_3 : (Cond.fieldLink RX2 39 "RoadDust$Road" "houses" "I").before _ s = true := hts _ (by decide +kernel)
  have k_4 : (Cond.fieldLink RX2 42 "RoadDust$Road" "wagons" "I").before _ s = true := hts _ (by decide +kernel)
  have k_5 : (Cond.fieldLink RX2 45 "RoadDust$Road" "day" "I").before _ s = true := hts _ (by decide +kernel)
  have k_6 : (Cond.fieldLink RX2 48 "RoadDust$Road" "hour" "I").before _ s = true := hts _ (by decide +kernel)
  have k_7 : (Cond.fieldLink RX2 51 "RoadDust$Road" "lorries" "I").before _ s = true := hts _ (by decide +kernel)
  have k_8 : (Cond.fieldLink RX2 54 "RoadDust$Road" "sun" "I").before _ s = true := hts _ (by decide +kernel)
  have k_9 : (Cond.fieldLink RX2 57 "RoadDust$Road" "bound" "I").before _ s = true := hts _ (by decide +kernel)
  have k_10 : (Cond.fieldLink RX2 60 "RoadDust$Road" "right" "I").before _ s = true := hts _ (by decide +kernel)
  have k_11 : (Cond.fieldLink RX2 63 "RoadDust$Road" "filled" "I").before _ s = true := hts _ (by decide +kernel)
  have k_12 : (Cond.fieldLink RX2 66 "RoadDust$Road" "complaints" "I").before _ s = true := hts _ (by decide +kernel)
  have k_13 : (Cond.fieldLink RX2 69 "RoadDust$Road" "sprayed" "I").before _ s = true := hts _ (by decide +kernel)
  have k_14 : (Cond.fieldLink RX2 25 "RoadDust$Road" "wagonRow" "[LRoadDust$Wagon;").before _ s = true := hts _ (by decide +kernel)
  have k_15 : (Cond.fieldLink RX2 19 "RoadDust$Road" "houseRow" "[LRoadDust$House;").before _ s = true := hts _ (by decide +kernel)
  have k_16 : (Cond.fieldLink RX2 11 "RoadDust$Road" "segmentRow" "[LRoadDust$Segment;").before _ s = true := hts _ (by decide +kernel)
  refine lv_aload_n hx hb dX2_copyFrom_0 rfl (lv_at hl 0 rfl) ?_
  refine lv_aload_n hx hb dX2_copyFrom_1 rfl (lv_at hl 1 rfl) ?_
  refine gRd_get hx hb hts in_X2 hown hK (g_st (va_back _ _ hne) hG) hV2.1 hV2.c0 0 (by decide) k_1 (fun _ h => h) (j := 0) rfl dX2_copyFrom_2 ?_
  refine gRd_put hx hb hts in_X2 hown hK hG hS hV.1 hV.c0 0 (by decide) k_1 (fun _ h => h) rfl .int (by decide +kernel) rfl rfl (j := 0) rfl dX2_copyFrom_5 (fun H locs hG hS => ?_)
  refine lv_aload_n hx hb dX2_copyFrom_8 rfl (lv_at hl 0 rfl) ?_
  refine lv_aload_n hx hb dX2_copyFrom_9 rfl (lv_at hl 1 rfl) ?_
  refine gRd_get hx hb hts in_X2 hown hK (g_st (va_back _ _ hne) hG) hV2.1 hV2.c0 1 (by decide) k_3 (fun _ h => h) (j := 1) rfl dX2_copyFrom_10 ?_
  refine gRd_put hx hb hts in_X2 hown hK hG hS hV.1 hV.c0 1 (by decide) k_3 (fun _ h => h) rfl .int (by decide +kernel) rfl rfl (j := 1) rfl dX2_copyFrom_13 (fun H locs hG hS => ?_)
  refine lv_aload_n hx hb dX2_copyFrom_16 rfl (lv_at hl 0 rfl) ?_
  refine lv_aload_n hx hb dX2_copyFrom_17 rfl (lv_at hl 1 rfl) ?_
  refine gRd_get hx hb hts in_X2 hown hK (g_st (va_back _ _ hne) hG) hV2.1 hV2.c0 2 (by decide) k_4 (fun _ h => h) (j := 2) rfl dX2_copyFrom_18 ?_
  refine gRd_put hx hb hts in_X2 hown hK hG hS hV.1 hV.c0 2 (by decide) k_4 (fun _ h => h) rfl .int (by decide +kernel) rfl rfl (j := 2) rfl dX2_copyFrom_21 (fun H locs hG hS => ?_)
  refine lv_aload_n hx hb dX2_copyFrom_24 rfl (lv_at hl 0 rfl) ?_
  refine lv_aload_n hx hb dX2_copyFrom_25 rfl (lv_at hl 1 rfl) ?_
  refine gRd_get hx hb hts in_X2 hown hK (g_st (va_back _ _ hne) hG) hV2.1 hV2.c0 3 (by decide) k_5 (fun _ h => h) (j := 3) rfl dX2_copyFrom_26 ?_
  refine gRd_put hx hb hts in_X2 hown hK hG hS hV.1 hV.c0 3 (by decide) k_5 (fun _ h => h) rfl .int (by decide +kernel) rfl rfl (j := 3) rfl dX2_copyFrom_29 (fun H locs hG hS => ?_)
  refine lv_aload_n hx hb dX2_copyFrom_32 rfl (lv_at hl 0 rfl) ?_
  refine lv_aload_n hx hb dX2_copyFrom_33 rfl (lv_at hl 1 rfl) ?_
  refine gRd_get hx hb hts in_X2 hown hK (g_st (va_back _ _ hne) hG) hV2.1 hV2.c0 4 (by decide) k_6 (fun _ h => h) (j := 4) rfl dX2_copyFrom_34 ?_
  refine gRd_put hx hb hts in_X2 hown hK hG hS hV.1 hV.c0 4 (by decide) k_6 (fun _ h => h) rfl .int (by decide +kernel) rfl rfl (j := 4) rfl dX2_copyFrom_37 (fun H locs hG hS => ?_)
  refine lv_aload_n hx hb dX2_copyFrom_40 rfl (lv_at hl 0 rfl) ?_
  refine lv_aload_n hx hb dX2_copyFrom_41 rfl (lv_at hl 1 rfl) ?_
  refine gRd_get hx hb hts in_X2 hown hK (g_st (va_back _ _ hne) hG) hV2.1 hV2.c0 5 (by decide) k_7 (fun _ h => h) (j := 5) rfl dX2_copyFrom_42 ?_
  refine gRd_put hx hb hts in_X2 hown hK hG hS hV.1 hV.c0 5 (by decide) k_7 (fun _ h => h) rfl .int (by decide +kernel) rfl rfl (j := 5) rfl dX2_copyFrom_45 (fun H locs hG hS => ?_)
  refine lv_aload_n hx hb dX2_copyFrom_48 rfl (lv_at hl 0 rfl) ?_
  refine lv_aload_n hx hb dX2_copyFrom_49 rfl (lv_at hl 1 rfl) ?_
  refine gRd_get hx hb hts in_X2 hown hK (g_st (va_back _ _ hne) hG) hV2.1 hV2.c0 6 (by decide) k_8 (fun _ h => h) (j := 6) rfl dX2_copyFrom_50 ?_
  refine gRd_put hx hb hts in_X2 hown hK hG hS hV.1 hV.c0 6 (by decide) k_8 (fun _ h => h) rfl .int (by decide +kernel) rfl rfl (j := 6) rfl dX2_copyFrom_53 (fun H locs hG hS => ?_)
  refine lv_aload_n hx hb dX2_copyFrom_56 rfl (lv_at hl 0 rfl) ?_
  refine lv_aload_n hx hb dX2_copyFrom_57 rfl (lv_at hl 1 rfl) ?_
  refine gRd_get hx hb hts in_X2 hown hK (g_st (va_back _ _ hne) hG) hV2.1 hV2.c0 7 (by decide) k_9 (fun _ h => h) (j := 7) rfl dX2_copyFrom_58 ?_
  refine gRd_put hx hb hts in_X2 hown hK hG hS hV.1 hV.c0 7 (by decide) k_9 (fun _ h => h) rfl .int (by decide +kernel) rfl rfl (j := 7) rfl dX2_copyFrom_61 (fun H locs hG hS => ?_)
  refine lv_aload_n hx hb dX2_copyFrom_64 rfl (lv_at hl 0 rfl) ?_
  refine lv_aload_n hx hb dX2_copyFrom_65 rfl (lv_at hl 1 rfl) ?_
  refine gRd_get hx hb hts in_X2 hown hK (g_st (va_back _ _ hne) hG) hV2.1 hV2.c0 8 (by decide) k_10 (fun _ h => h) (j := 8) rfl dX2_copyFrom_66 ?_
  refine gRd_put hx hb hts in_X2 hown hK hG hS hV.1 hV.c0 8 (by decide) k_10 (fun _ h => h) rfl .int (by decide +kernel) rfl rfl (j := 8) rfl dX2_copyFrom_69 (fun H locs hG hS => ?_)
  refine lv_aload_n hx hb dX2_copyFrom_72 rfl (lv_at hl 0 rfl) ?_
  refine lv_aload_n hx hb dX2_copyFrom_73 rfl (lv_at hl 1 rfl) ?_
  refine gRd_get hx hb hts in_X2 hown hK (g_st (va_back _ _ hne) hG) hV2.1 hV2.c0 9 (by decide) k_11 (fun _ h => h) (j := 9) rfl dX2_copyFrom_74 ?_
  refine gRd_put hx hb hts in_X2 hown hK hG hS hV.1 hV.c0 9 (by decide) k_11 (fun _ h => h) rfl .int (by decide +kernel) rfl rfl (j := 9) rfl dX2_copyFrom_77 (fun H locs hG hS => ?_)
  refine lv_aload_n hx hb dX2_copyFrom_80 rfl (lv_at hl 0 rfl) ?_
  refine lv_aload_n hx hb dX2_copyFrom_81 rfl (lv_at hl 1 rfl) ?_
  refine gRd_get hx hb hts in_X2 hown hK (g_st (va_back _ _ hne) hG) hV2.1 hV2.c0 10 (by decide) k_12 (fun _ h => h) (j := 10) rfl dX2_copyFrom_82 ?_
  refine gRd_put hx hb hts in_X2 hown hK hG hS hV.1 hV.c0 10 (by decide) k_12 (fun _ h => h) rfl .int (by decide +kernel) rfl rfl (j := 10) rfl dX2_copyFrom_85 (fun H locs hG hS => ?_)
  refine lv_aload_n hx hb dX2_copyFrom_88 rfl (lv_at hl 0 rfl) ?_
  refine lv_aload_n hx hb dX2_copyFrom_89 rfl (lv_at hl 1 rfl) ?_
  refine gRd_get hx hb hts in_X2 hown hK (g_st (va_back _ _ hne) hG) hV2.1 hV2.c0 11 (by decide) k_13 (fun _ h => h) (j := 11) rfl dX2_copyFrom_90 ?_
  refine gRd_put hx hb hts in_X2 hown hK hG hS hV.1 hV.c0 11 (by decide) k_13 (fun _ h => h) rfl .int (by decide +kernel) rfl rfl (j := 11) rfl dX2_copyFrom_93 (fun H locs hG hS => ?_)
  refine lv_iconst (v := 0) hx hb dX2_copyFrom_96 (by decide) ?_
  refine lv_istore_n (lv' := [(2, .int 0), (0, .ref (gad Γ (25 * r))), (1, .ref (gad Γ (25 * r2)))]) hx hb dX2_copyFrom_97 rfl hl (by decide) rfl (fun ls hl => ?_)
  refine g_loop (N := 10) (fun k H locs ls => GH Γ (va_up M r (fX2_cpS_L (M r2) (upd (upd (upd (upd (upd (upd (upd (upd (upd (upd (upd (upd P 0 ((M r2) 0)) 1 ((M r2) 1)) 2 ((M r2) 2)) 3 ((M r2) 3)) 4 ((M r2) 4)) 5 ((M r2) 5)) 6 ((M r2) 6)) 7 ((M r2) 7)) 8 ((M r2) 8)) 9 ((M r2) 9)) 10 ((M r2) 10)) 11 ((M r2) 11)) k)) R O H ∧ va_S (gA Γ) s.heap H locs ∧ lv_has ls 3 [(0, .ref (gad Γ (25 * r))), (1, .ref (gad Γ (25 * r2))), (2, .int (nI k))]) ?_ ?_ 0 (Nat.zero_le _) _ _ _ ⟨hG, hS, lv_sub hl [1, 2, 0] rfl⟩
  · rintro H locs ls ⟨hG, hS, hl⟩
    refine lv_iload_n hx hb dX2_copyFrom_98 rfl (lv_at hl 2 rfl) ?_
    refine lv_bipush (v := 10) hx hb dX2_copyFrom_99 (by decide) ?_
    refine lv_icmp_ge (tgt := 125) hx hb dX2_copyFrom_101 (by decide) (fun c_1 => ?_) (fun c_1 => absurd (nI_le (Nat.le_refl _) (by decide)) c_1)
    refine lv_iconst (v := 0) hx hb dX2_copyFrom_125 (by decide) ?_
    refine lv_istore_n (lv' := [(2, .int 0), (0, .ref (gad Γ (25 * r))), (1, .ref (gad Γ (25 * r2)))]) hx hb dX2_copyFrom_126 rfl hl (by decide) rfl (fun ls hl => ?_)
    refine g_loop (N := 8) (fun k H locs ls => GH Γ (va_up M r (fX2_cpH_L (M r2) (fX2_cpS_L (M r2) (upd (upd (upd (upd (upd (upd (upd (upd (upd (upd (upd (upd P 0 ((M r2) 0)) 1 ((M r2) 1)) 2 ((M r2) 2)) 3 ((M r2) 3)) 4 ((M r2) 4)) 5 ((M r2) 5)) 6 ((M r2) 6)) 7 ((M r2) 7)) 8 ((M r2) 8)) 9 ((M r2) 9)) 10 ((M r2) 10)) 11 ((M r2) 11)) 10) k)) R O H ∧ va_S (gA Γ) s.heap H locs ∧ lv_has ls 3 [(0, .ref (gad Γ (25 * r))), (1, .ref (gad Γ (25 * r2))), (2, .int (nI k))]) ?_ ?_ 0 (Nat.zero_le _) _ _ _ ⟨hG, hS, lv_sub hl [1, 2, 0] rfl⟩
    · rintro H locs ls ⟨hG, hS, hl⟩
      refine lv_iload_n hx hb dX2_copyFrom_127 rfl (lv_at hl 2 rfl) ?_
      refine lv_bipush (v := 8) hx hb dX2_copyFrom_128 (by decide) ?_
      refine lv_icmp_ge (tgt := 154) hx hb dX2_copyFrom_130 (by decide) (fun c_2 => ?_) (fun c_2 => absurd (nI_le (Nat.le_refl _) (by decide)) c_2)
      refine lv_iconst (v := 0) hx hb dX2_copyFrom_154 (by decide) ?_
      refine lv_istore_n (lv' := [(2, .int 0), (0, .ref (gad Γ (25 * r))), (1, .ref (gad Γ (25 * r2)))]) hx hb dX2_copyFrom_155 rfl hl (by decide) rfl (fun ls hl => ?_)
      refine g_loop (N := 3) (fun k H locs ls => GH Γ (va_up M r (fX2_cpW_L (M r2) (fX2_cpH_L (M r2) (fX2_cpS_L (M r2) (upd (upd (upd (upd (upd (upd (upd (upd (upd (upd (upd (upd P 0 ((M r2) 0)) 1 ((M r2) 1)) 2 ((M r2) 2)) 3 ((M r2) 3)) 4 ((M r2) 4)) 5 ((M r2) 5)) 6 ((M r2) 6)) 7 ((M r2) 7)) 8 ((M r2) 8)) 9 ((M r2) 9)) 10 ((M r2) 10)) 11 ((M r2) 11)) 10) 8) k)) R O H ∧ va_S (gA Γ) s.heap H locs ∧ lv_has ls 3 [(0, .ref (gad Γ (25 * r))), (1, .ref (gad Γ (25 * r2))), (2, .int (nI k))]) ?_ ?_ 0 (Nat.zero_le _) _ _ _ ⟨hG, hS, lv_sub hl [1, 2, 0] rfl⟩
      · rintro H locs ls ⟨hG, hS, hl⟩
        refine lv_iload_n hx hb dX2_copyFrom_156 rfl (lv_at hl 2 rfl) ?_
        refine lv_iconst (v := 3) hx hb dX2_copyFrom_157 (by decide) ?_
        refine lv_icmp_ge (tgt := 182) hx hb dX2_copyFrom_158 (by decide) (fun c_3 => ?_) (fun c_3 => absurd (nI_le (Nat.le_refl _) (by decide)) c_3)
        exact g_vret hx hb hrt hlocks hS hG (congrArg (va_up M r) (by unfold fX2_copyFrom_P; rfl)) rfl dX2_copyFrom_182
      · rintro k hk_k ih_k H locs ls ⟨hG, hS, hl⟩
        refine lv_iload_n hx hb dX2_copyFrom_156 rfl (lv_at hl 2 rfl) ?_
        refine lv_iconst (v := 3) hx hb dX2_copyFrom_157 (by decide) ?_
        refine lv_icmp_ge (tgt := 182) hx hb dX2_copyFrom_158 (by decide) (fun c_4 => absurd c_4 (nI_ge hk_k (by decide))) (fun c_4 => ?_)
        refine lv_aload_n hx hb dX2_copyFrom_161 rfl (lv_at hl 0 rfl) ?_
        refine gRd_getr hx hb hts in_X2 hown hK hG hV.1 hV.c0 14 (by decide) rfl hV.2.2.2.2.1 k_14 (fun _ h => h) dX2_copyFrom_162 ?_
        refine lv_iload_n hx hb dX2_copyFrom_165 rfl (lv_at hl 2 rfl) ?_
        refine g_aald hx hb hK hG (hV.row 3 (by decide)) (gC_row3 hV.1) (by decide) (by decide) rfl (gLen_row3 hV.1) (j := k) (nI_clamp (by omega)) (vp_in_nI (by omega) (by decide)) (hV.w (i := k) (by omega)) dX2_copyFrom_166 ?_
        refine lv_aload_n hx hb dX2_copyFrom_167 rfl (lv_at hl 1 rfl) ?_
        refine gRd_getr hx hb hts in_X2 hown hK hG hV2.1 hV2.c0 14 (by decide) rfl hV2.2.2.2.2.1 k_14 (fun _ h => h) dX2_copyFrom_168 ?_
        refine lv_iload_n hx hb dX2_copyFrom_171 rfl (lv_at hl 2 rfl) ?_
        refine g_aald hx hb hK hG (hV2.row 3 (by decide)) (gC_row3 hV2.1) (by decide) (by decide) rfl (gLen_row3 hV2.1) (j := k) (nI_clamp (by omega)) (vp_in_nI (by omega) (by decide)) (hV2.w (i := k) (by omega)) dX2_copyFrom_172 ?_
        refine g_callV (As := [.ref (gad Γ (25 * r2 + 22 + k))]) (rest := []) (st1 := []) hF (cX5_copyFrom M R O hV.1 (by omega) (hV.wag (i := k) (by omega)) hV2.1 (hV2.wag (i := k) (by omega)) hne (fX2_cpW_L (M r2) (fX2_cpH_L (M r2) (fX2_cpS_L (M r2) (upd (upd (upd (upd (upd (upd (upd (upd (upd (upd (upd (upd P 0 ((M r2) 0)) 1 ((M r2) 1)) 2 ((M r2) 2)) 3 ((M r2) 3)) 4 ((M r2) 4)) 5 ((M r2) 5)) 6 ((M r2) 6)) 7 ((M r2) 7)) 8 ((M r2) 8)) 9 ((M r2) 9)) 10 ((M r2) 10)) 11 ((M r2) 11)) 10) 8) k)) (cwV 1 hts gX2_copyFrom_X5_copyFrom rfl rfl rfl (by decide +kernel) ⟨Nat.le_of_ble_eq_true rfl, Nat.le_of_ble_eq_true rfl⟩) hK hZ hG hS (hV.wag (i := k) (by omega)) (gC_Wg hV.1 (by omega)) (by decide) rfl rfl hl.1 (Nat.le_of_ble_eq_true rfl) dX2_copyFrom_173 ⟨Nat.le_refl _, Nat.le_refl _⟩ rfl rfl (fun H locs hG hS => ?_)
        refine lv_iinc (v := nI (k + 1)) (lv' := [(2, .int (nI (k + 1))), (0, .ref (gad Γ (25 * r))), (1, .ref (gad Γ (25 * r2)))]) hx hb dX2_copyFrom_176 hl (k := 2) rfl (nI_1 _) (by decide) rfl (fun ls hl => ?_)
        refine lv_goto (tgt := 156) hx hb dX2_copyFrom_179 (by decide) ?_
        exact ih_k _ _ _ ⟨hG, hS, lv_sub hl [1, 2, 0] rfl⟩
    · rintro k hk_k ih_k H locs ls ⟨hG, hS, hl⟩
      refine lv_iload_n hx hb dX2_copyFrom_127 rfl (lv_at hl 2 rfl) ?_
      refine lv_bipush (v := 8) hx hb dX2_copyFrom_128 (by decide) ?_
      refine lv_icmp_ge (tgt := 154) hx hb dX2_copyFrom_130 (by decide) (fun c_5 => absurd c_5 (nI_ge hk_k (by decide))) (fun c_5 => ?_)
      refine lv_aload_n hx hb dX2_copyFrom_133 rfl (lv_at hl 0 rfl) ?_
      refine gRd_getr hx hb hts in_X2 hown hK hG hV.1 hV.c0 13 (by decide) rfl hV.2.2.2.1 k_15 (fun _ h => h) dX2_copyFrom_134 ?_
      refine lv_iload_n hx hb dX2_copyFrom_137 rfl (lv_at hl 2 rfl) ?_
      refine g_aald hx hb hK hG (hV.row 2 (by decide)) (gC_row2 hV.1) (by decide) (by decide) rfl (gLen_row2 hV.1) (j := k) (nI_clamp (by omega)) (vp_in_nI (by omega) (by decide)) (hV.h (i := k) (by omega)) dX2_copyFrom_138 ?_
      refine lv_aload_n hx hb dX2_copyFrom_139 rfl (lv_at hl 1 rfl) ?_
      refine gRd_getr hx hb hts in_X2 hown hK hG hV2.1 hV2.c0 13 (by decide) rfl hV2.2.2.2.1 k_15 (fun _ h => h) dX2_copyFrom_140 ?_
      refine lv_iload_n hx hb dX2_copyFrom_143 rfl (lv_at hl 2 rfl) ?_
      refine g_aald hx hb hK hG (hV2.row 2 (by decide)) (gC_row2 hV2.1) (by decide) (by decide) rfl (gLen_row2 hV2.1) (j := k) (nI_clamp (by omega)) (vp_in_nI (by omega) (by decide)) (hV2.h (i := k) (by omega)) dX2_copyFrom_144 ?_
      refine g_callV (As := [.ref (gad Γ (25 * r2 + 14 + k))]) (rest := []) (st1 := []) hF (cX1_copyFrom M R O hV.1 (by omega) (hV.hou (i := k) (by omega)) hV2.1 (hV2.hou (i := k) (by omega)) hne (fX2_cpH_L (M r2) (fX2_cpS_L (M r2) (upd (upd (upd (upd (upd (upd (upd (upd (upd (upd (upd (upd P 0 ((M r2) 0)) 1 ((M r2) 1)) 2 ((M r2) 2)) 3 ((M r2) 3)) 4 ((M r2) 4)) 5 ((M r2) 5)) 6 ((M r2) 6)) 7 ((M r2) 7)) 8 ((M r2) 8)) 9 ((M r2) 9)) 10 ((M r2) 10)) 11 ((M r2) 11)) 10) k)) (cwV 1 hts gX2_copyFrom_X1_copyFrom rfl rfl rfl (by decide +kernel) ⟨Nat.le_of_ble_eq_true rfl, Nat.le_of_ble_eq_true rfl⟩) hK hZ hG hS (hV.hou (i := k) (by omega)) (gC_Hs hV.1 (by omega)) (by decide) rfl rfl hl.1 (Nat.le_of_ble_eq_true rfl) dX2_copyFrom_145 ⟨Nat.le_refl _, Nat.le_refl _⟩ rfl rfl (fun H locs hG hS => ?_)
      refine lv_iinc (v := nI (k + 1)) (lv' := [(2, .int (nI (k + 1))), (0, .ref (gad Γ (25 * r))), (1, .ref (gad Γ (25 * r2)))]) hx hb dX2_copyFrom_148 hl (k := 2) rfl (nI_1 _) (by decide) rfl (fun ls hl => ?_)
      refine lv_goto (tgt := 127) hx hb dX2_copyFrom_151 (by decide) ?_
      exact ih_k _ _ _ ⟨hG, hS, lv_sub hl [1, 2, 0] rfl⟩
  · rintro k hk_k ih_k H locs ls ⟨hG, hS, hl⟩
    refine lv_iload_n hx hb dX2_copyFrom_98 rfl (lv_at hl 2 rfl) ?_
    refine lv_bipush (v := 10) hx hb dX2_copyFrom_99 (by decide) ?_
    refine lv_icmp_ge (tgt := 125) hx hb dX2_copyFrom_101 (by decide) (fun c_6 => absurd c_6 (nI_ge hk_k (by decide))) (fun c_6 => ?_)
    refine lv_aload_n hx hb dX2_copyFrom_104 rfl (lv_at hl 0 rfl) ?_
    refine gRd_getr hx hb hts in_X2 hown hK hG hV.1 hV.c0 12 (by decide) rfl hV.2.2.1 k_16 (fun _ h => h) dX2_copyFrom_105 ?_
    refine lv_iload_n hx hb dX2_copyFrom_108 rfl (lv_at hl 2 rfl) ?_
    refine g_aald hx hb hK hG (hV.row 1 (by decide)) (gC_row1 hV.1) (by decide) (by decide) rfl (gLen_row1 hV.1) (j := k) (nI_clamp (by omega)) (vp_in_nI (by omega) (by decide)) (hV.s (i := k) (by omega)) dX2_copyFrom_109 ?_
    refine lv_aload_n hx hb dX2_copyFrom_110 rfl (lv_at hl 1 rfl) ?_
    refine gRd_getr hx hb hts in_X2 hown hK hG hV2.1 hV2.c0 12 (by decide) rfl hV2.2.2.1 k_16 (fun _ h => h) dX2_copyFrom_111 ?_
    refine lv_iload_n hx hb dX2_copyFrom_114 rfl (lv_at hl 2 rfl) ?_
    refine g_aald hx hb hK hG (hV2.row 1 (by decide)) (gC_row1 hV2.1) (by decide) (by decide) rfl (gLen_row1 hV2.1) (j := k) (nI_clamp (by omega)) (vp_in_nI (by omega) (by decide)) (hV2.s (i := k) (by omega)) dX2_copyFrom_115 ?_
    refine g_callV (As := [.ref (gad Γ (25 * r2 + 4 + k))]) (rest := []) (st1 := []) hF (cX3_copyFrom M R O hV.1 (by omega) (hV.seg (i := k) (by omega)) hV2.1 (hV2.seg (i := k) (by omega)) hne (hB _ (by omega)) (fX2_cpS_L (M r2) (upd (upd (upd (upd (upd (upd (upd (upd (upd (upd (upd (upd P 0 ((M r2) 0)) 1 ((M r2) 1)) 2 ((M r2) 2)) 3 ((M r2) 3)) 4 ((M r2) 4)) 5 ((M r2) 5)) 6 ((M r2) 6)) 7 ((M r2) 7)) 8 ((M r2) 8)) 9 ((M r2) 9)) 10 ((M r2) 10)) 11 ((M r2) 11)) k)) (cwV 1 hts gX2_copyFrom_X3_copyFrom rfl rfl rfl (by decide +kernel) ⟨Nat.le_of_ble_eq_true rfl, Nat.le_of_ble_eq_true rfl⟩) hK hZ hG hS (hV.seg (i := k) (by omega)) (gC_S hV.1 (by omega)) (by decide) rfl rfl hl.1 (Nat.le_of_ble_eq_true rfl) dX2_copyFrom_116 ⟨Nat.le_refl _, Nat.le_refl _⟩ rfl rfl (fun H locs hG hS => ?_)
    refine lv_iinc (v := nI (k + 1)) (lv' := [(2, .int (nI (k + 1))), (0, .ref (gad Γ (25 * r))), (1, .ref (gad Γ (25 * r2)))]) hx hb dX2_copyFrom_119 hl (k := 2) rfl (nI_1 _) (by decide) rfl (fun ls hl => ?_)
    refine lv_goto (tgt := 98) hx hb dX2_copyFrom_122 (by decide) ?_
    exact ih_k _ _ _ ⟨hG, hS, lv_sub hl [1, 2, 0] rfl⟩

def fX2_buildHouse_v (P : Nat → Int32) (a b : Int32) : Int32 := if okI a (P 0) 10 then if (fX6_within_v b 0 9) = 0 then (-2) else if (P 1) < 0 then (-3) else if (P 1) < 8 then ((upd (fX1_beNew_P P ((P 1).toNatClampNeg) a b) 1 (((fX1_beNew_P P ((P 1).toNatClampNeg) a b) 1) + 1)) 1) - 1 else (-3) else (-1)
def fX2_buildHouse_P (P : Nat → Int32) (a b : Int32) : Nat → Int32 := if okI a (P 0) 10 then if (fX6_within_v b 0 9) = 0 then P else if (P 1) < 0 then P else if (P 1) < 8 then upd (fX1_beNew_P P ((P 1).toNatClampNeg) a b) 1 (((fX1_beNew_P P ((P 1).toNatClampNeg) a b) 1) + 1) else P else P
set_option maxHeartbeats 4000000 in
set_option maxRecDepth 100000 in
theorem cX2_buildHouse {l : Launch} {Γ : gX} (M : Nat → Nat → Int32) (R : Nat → Nat → Option Nat) (O : Int64) {r : Nat} (hV : LV Γ R r) (P : Nat → Int32) (a b : Int32) : gMet l Γ yX2_buildHouse wsX2_buildHouse 1 22 [.ref (gad Γ (25 * r)), .int a, .int b] (va_up M r P) R O (some (.int (fX2_buildHouse_v P a b))) (va_up M r (fX2_buildHouse_P P a b)) R O := by
  refine g_start (cc := cX2_buildHouse) (maxL := 3) (ret := (some .int)) (by decide) rfl (by decide) ?_
  intro p e s m below meth c ls hx hb hml hrt hts hown hlocks hname hK hZ hG hS hl
  have hl : lv_has ls 3 [(0, .ref (gad Γ (25 * r))), (1, .int a), (2, .int b)] := hl
  have hown : s.vm.findClass RX2 = some m.cls := hown
  have hF : CallFix p m c cX2_buildHouse 3 s _ wsX2_buildHouse RX2 := ⟨hx, hb, hml, hown, hts⟩
  have k_1 : (Cond.initialized RX6).before _ s = true := hts _ (by decide +kernel)
  have k_2 : (Cond.static yX6_within).before _ s = true := hts _ (by decide +kernel)
  have k_3 : (Cond.fieldLink RX2 39 "RoadDust$Road" "houses" "I").before _ s = true := hts _ (by decide +kernel)
  have in_X2 : ∀ w ∈ wsX20, w ∈ wsX2_buildHouse := by decide +kernel
  have k_5 : (Cond.fieldLink RX2 19 "RoadDust$Road" "houseRow" "[LRoadDust$House;").before _ s = true := hts _ (by decide +kernel)
  refine lv_aload_n hx hb dX2_buildHouse_0 rfl (lv_at hl 0 rfl) ?_
  refine lv_iload_n hx hb dX2_buildHouse_1 rfl (lv_at hl 1 rfl) ?_
  by_cases c_1 : okI a (P 0) 10
  · --ok
    refine g_callV (As := [.int a]) (rest := []) (st1 := [.ref (gad Γ (25 * r + 4 + a.toNatClampNeg))]) hF (cX2_segmentAt_y M R O hV P c_1 (j := a.toNatClampNeg) rfl) (cwV 1 hts gX2_buildHouse_X2_segmentAt rfl rfl rfl (by decide +kernel) ⟨Nat.le_of_ble_eq_true rfl, Nat.le_of_ble_eq_true rfl⟩) hK hZ hG hS hV.c0 (gC_Rd hV.1) (by decide) rfl rfl hl.1 (Nat.le_of_ble_eq_true rfl) dX2_buildHouse_2 ⟨Nat.le_refl _, Nat.le_refl _⟩ rfl rfl (fun H locs hG hS => ?_)
    refine lv_ifnonnull (tgt := 10) hx hb dX2_buildHouse_5 (by decide) ?_
    refine lv_iload_n hx hb dX2_buildHouse_10 rfl (lv_at hl 2 rfl) ?_
    refine lv_iconst (v := 0) hx hb dX2_buildHouse_11 (by decide) ?_
    refine lv_bipush (v := 9) hx hb dX2_buildHouse_12 (by decide) ?_
    refine g_callSN (As := [.int b, .int 0, .int 9]) (rest := []) (st1 := [.int (fX6_within_v b 0 9)]) hF (cX6_within _ R O b 0 9) ⟨va_cnB 3 hts gX2_buildHouse_X6_within_n103 rfl rfl rfl hK.2.2.2.2.2.2 k_1 (by decide +kernel) ⟨Nat.le_of_ble_eq_true rfl, Nat.le_of_ble_eq_true rfl⟩, k_2, trivial⟩ hK hZ hG hS rfl hl.1 (Nat.le_of_ble_eq_true rfl) dX2_buildHouse_14 ⟨Nat.le_refl _, Nat.le_refl _⟩ rfl rfl (fun H locs hG hS => ?_)
    refine lv_if_ne (tgt := 23) hx hb dX2_buildHouse_17 (by decide) (fun c_2 => ?_) (fun c_2 => ?_)
    · --T
      refine lv_aload_n hx hb dX2_buildHouse_23 rfl (lv_at hl 0 rfl) ?_
      refine gRd_get hx hb hts in_X2 hown hK hG hV.1 hV.c0 1 (by decide) k_3 (fun _ h => h) (j := 1) rfl dX2_buildHouse_24 ?_
      refine lv_if_lt (tgt := 39) hx hb dX2_buildHouse_27 (by decide) (fun c_3 => ?_) (fun c_3 => ?_)
      · --T
        refine lv_bipush (v := (-3)) hx hb dX2_buildHouse_39 (by decide) ?_
        exact g_iret hx hb hrt hlocks hS hG (by unfold fX2_buildHouse_v; rw [if_pos c_1, if_neg c_2, if_pos c_3]) (congrArg (va_up M r) (by unfold fX2_buildHouse_P; rw [if_pos c_1, if_neg c_2, if_pos c_3])) dX2_buildHouse_41
      · --F
        refine lv_aload_n hx hb dX2_buildHouse_30 rfl (lv_at hl 0 rfl) ?_
        refine gRd_get hx hb hts in_X2 hown hK hG hV.1 hV.c0 1 (by decide) k_3 (fun _ h => h) (j := 1) rfl dX2_buildHouse_31 ?_
        refine lv_bipush (v := 8) hx hb dX2_buildHouse_34 (by decide) ?_
        refine lv_icmp_lt (tgt := 42) hx hb dX2_buildHouse_36 (by decide) (fun c_4 => ?_) (fun c_4 => ?_)
        · --T
          refine lv_aload_n hx hb dX2_buildHouse_42 rfl (lv_at hl 0 rfl) ?_
          refine gRd_getr hx hb hts in_X2 hown hK hG hV.1 hV.c0 13 (by decide) rfl hV.2.2.2.1 k_5 (fun _ h => h) dX2_buildHouse_43 ?_
          refine lv_aload_n hx hb dX2_buildHouse_46 rfl (lv_at hl 0 rfl) ?_
          refine gRd_get hx hb hts in_X2 hown hK hG hV.1 hV.c0 1 (by decide) k_3 (fun _ h => h) (j := 1) rfl dX2_buildHouse_47 ?_
          refine g_aald hx hb hK hG (hV.row 2 (by decide)) (gC_row2 hV.1) (by decide) (by decide) rfl (gLen_row2 hV.1) (j := (P 1).toNatClampNeg) rfl (ix_in (n := 8) rfl (by decide) c_3 c_4) (hV.h (i := (P 1).toNatClampNeg) (ix_lt (n := 8) rfl (by decide) c_3 c_4)) dX2_buildHouse_50 ?_
          refine lv_iload_n hx hb dX2_buildHouse_51 rfl (lv_at hl 1 rfl) ?_
          refine lv_iload_n hx hb dX2_buildHouse_52 rfl (lv_at hl 2 rfl) ?_
          refine g_callV (As := [.int a, .int b]) (rest := []) (st1 := []) hF (cX1_beNew M R O hV.1 (ix_lt (n := 8) rfl (by decide) c_3 c_4) (hV.hou (i := (P 1).toNatClampNeg) (ix_lt (n := 8) rfl (by decide) c_3 c_4)) P a b) (cwV 2 hts gX2_buildHouse_X1_beNew rfl rfl rfl (by decide +kernel) ⟨Nat.le_of_ble_eq_true rfl, Nat.le_of_ble_eq_true rfl⟩) hK hZ hG hS (hV.hou (i := (P 1).toNatClampNeg) (ix_lt (n := 8) rfl (by decide) c_3 c_4)) (gC_Hs hV.1 (ix_lt (n := 8) rfl (by decide) c_3 c_4)) (by decide) rfl rfl hl.1 (Nat.le_of_ble_eq_true rfl) dX2_buildHouse_53 ⟨Nat.le_refl _, Nat.le_refl _⟩ rfl rfl (fun H locs hG hS => ?_)
          refine lv_aload_n hx hb dX2_buildHouse_56 rfl (lv_at hl 0 rfl) ?_
          refine lv_dup hx hb dX2_buildHouse_57 rfl ?_
          refine gRd_get hx hb hts in_X2 hown hK hG hV.1 hV.c0 1 (by decide) k_3 (fun _ h => h) (j := 1) rfl dX2_buildHouse_58 ?_
          refine lv_iconst (v := 1) hx hb dX2_buildHouse_61 (by decide) ?_
          refine lv_iadd hx hb dX2_buildHouse_62 ?_
          refine gRd_put hx hb hts in_X2 hown hK hG hS hV.1 hV.c0 1 (by decide) k_3 (fun _ h => h) rfl .int (by decide +kernel) rfl rfl (j := 1) rfl dX2_buildHouse_63 (fun H locs hG hS => ?_)
          refine lv_aload_n hx hb dX2_buildHouse_66 rfl (lv_at hl 0 rfl) ?_
          refine gRd_get hx hb hts in_X2 hown hK hG hV.1 hV.c0 1 (by decide) k_3 (fun _ h => h) (j := 1) rfl dX2_buildHouse_67 ?_
          refine lv_iconst (v := 1) hx hb dX2_buildHouse_70 (by decide) ?_
          refine lv_isub hx hb dX2_buildHouse_71 ?_
          exact g_iret hx hb hrt hlocks hS hG (by unfold fX2_buildHouse_v; rw [if_pos c_1, if_neg c_2, if_neg c_3, if_pos c_4]) (congrArg (va_up M r) (by unfold fX2_buildHouse_P; rw [if_pos c_1, if_neg c_2, if_neg c_3, if_pos c_4])) dX2_buildHouse_72
        · --F
          refine lv_bipush (v := (-3)) hx hb dX2_buildHouse_39 (by decide) ?_
          exact g_iret hx hb hrt hlocks hS hG (by unfold fX2_buildHouse_v; rw [if_pos c_1, if_neg c_2, if_neg c_3, if_neg c_4]) (congrArg (va_up M r) (by unfold fX2_buildHouse_P; rw [if_pos c_1, if_neg c_2, if_neg c_3, if_neg c_4])) dX2_buildHouse_41
    · --F
      refine lv_bipush (v := (-2)) hx hb dX2_buildHouse_20 (by decide) ?_
      exact g_iret hx hb hrt hlocks hS hG (by unfold fX2_buildHouse_v; rw [if_pos c_1, if_pos c_2]) (congrArg (va_up M r) (by unfold fX2_buildHouse_P; rw [if_pos c_1, if_pos c_2])) dX2_buildHouse_22
  · --none
    refine g_callV (As := [.int a]) (rest := []) (st1 := [.null]) hF (cX2_segmentAt_n M R O hV P c_1) (cwV 1 hts gX2_buildHouse_X2_segmentAt rfl rfl rfl (by decide +kernel) ⟨Nat.le_of_ble_eq_true rfl, Nat.le_of_ble_eq_true rfl⟩) hK hZ hG hS hV.c0 (gC_Rd hV.1) (by decide) rfl rfl hl.1 (Nat.le_of_ble_eq_true rfl) dX2_buildHouse_2 ⟨Nat.le_refl _, Nat.le_refl _⟩ rfl rfl (fun H locs hG hS => ?_)
    refine lv_ifnonnullN hx hb dX2_buildHouse_5 ?_
    refine lv_iconst (v := (-1)) hx hb dX2_buildHouse_8 (by decide) ?_
    exact g_iret hx hb hrt hlocks hS hG (by unfold fX2_buildHouse_v; rw [if_neg c_1]) (congrArg (va_up M r) (by unfold fX2_buildHouse_P; rw [if_neg c_1])) dX2_buildHouse_9

def fX2_bringWagon_v (P : Nat → Int32) (a : Int32) : Int32 := if okI a (P 0) 10 then if (P 2) < 0 then (-3) else if (P 2) < 3 then ((upd (fX5_beNew_P P ((P 2).toNatClampNeg) a) 2 (((fX5_beNew_P P ((P 2).toNatClampNeg) a) 2) + 1)) 2) - 1 else (-3) else (-1)
def fX2_bringWagon_P (P : Nat → Int32) (a : Int32) : Nat → Int32 := if okI a (P 0) 10 then if (P 2) < 0 then P else if (P 2) < 3 then upd (fX5_beNew_P P ((P 2).toNatClampNeg) a) 2 (((fX5_beNew_P P ((P 2).toNatClampNeg) a) 2) + 1) else P else P
set_option maxHeartbeats 4000000 in
set_option maxRecDepth 100000 in
theorem cX2_bringWagon {l : Launch} {Γ : gX} (M : Nat → Nat → Int32) (R : Nat → Nat → Option Nat) (O : Int64) {r : Nat} (hV : LV Γ R r) (P : Nat → Int32) (a : Int32) : gMet l Γ yX2_bringWagon wsX2_bringWagon 1 21 [.ref (gad Γ (25 * r)), .int a] (va_up M r P) R O (some (.int (fX2_bringWagon_v P a))) (va_up M r (fX2_bringWagon_P P a)) R O := by
  refine g_start (cc := cX2_bringWagon) (maxL := 2) (ret := (some .int)) (by decide) rfl (by decide) ?_
  intro p e s m below meth c ls hx hb hml hrt hts hown hlocks hname hK hZ hG hS hl
  have hl : lv_has ls 2 [(0, .ref (gad Γ (25 * r))), (1, .int a)] := hl
  have hown : s.vm.findClass RX2 = some m.cls := hown
  have hF : CallFix p m c cX2_bringWagon 2 s _ wsX2_bringWagon RX2 := ⟨hx, hb, hml, hown, hts⟩
  have k_1 : (Cond.fieldLink RX2 42 "RoadDust$Road" "wagons" "I").before _ s = true := hts _ (by decide +kernel)
  have in_X2 : ∀ w ∈ wsX20, w ∈ wsX2_bringWagon := by decide +kernel
  have k_3 : (Cond.fieldLink RX2 25 "RoadDust$Road" "wagonRow" "[LRoadDust$Wagon;").before _ s = true := hts _ (by decide +kernel)
  refine lv_aload_n hx hb dX2_bringWagon_0 rfl (lv_at hl 0 rfl) ?_
  refine lv_iload_n hx hb dX2_bringWagon_1 rfl (lv_at hl 1 rfl) ?_
  by_cases c_1 : okI a (P 0) 10
  · --ok
    refine g_callV (As := [.int a]) (rest := []) (st1 := [.ref (gad Γ (25 * r + 4 + a.toNatClampNeg))]) hF (cX2_segmentAt_y M R O hV P c_1 (j := a.toNatClampNeg) rfl) (cwV 1 hts gX2_bringWagon_X2_segmentAt rfl rfl rfl (by decide +kernel) ⟨Nat.le_of_ble_eq_true rfl, Nat.le_of_ble_eq_true rfl⟩) hK hZ hG hS hV.c0 (gC_Rd hV.1) (by decide) rfl rfl hl.1 (Nat.le_of_ble_eq_true rfl) dX2_bringWagon_2 ⟨Nat.le_refl _, Nat.le_refl _⟩ rfl rfl (fun H locs hG hS => ?_)
    refine lv_ifnonnull (tgt := 10) hx hb dX2_bringWagon_5 (by decide) ?_
    refine lv_aload_n hx hb dX2_bringWagon_10 rfl (lv_at hl 0 rfl) ?_
    refine gRd_get hx hb hts in_X2 hown hK hG hV.1 hV.c0 2 (by decide) k_1 (fun _ h => h) (j := 2) rfl dX2_bringWagon_11 ?_
    refine lv_if_lt (tgt := 25) hx hb dX2_bringWagon_14 (by decide) (fun c_2 => ?_) (fun c_2 => ?_)
    · --T
      refine lv_bipush (v := (-3)) hx hb dX2_bringWagon_25 (by decide) ?_
      exact g_iret hx hb hrt hlocks hS hG (by unfold fX2_bringWagon_v; rw [if_pos c_1, if_pos c_2]) (congrArg (va_up M r) (by unfold fX2_bringWagon_P; rw [if_pos c_1, if_pos c_2])) dX2_bringWagon_27
    · --F
      refine lv_aload_n hx hb dX2_bringWagon_17 rfl (lv_at hl 0 rfl) ?_
      refine gRd_get hx hb hts in_X2 hown hK hG hV.1 hV.c0 2 (by decide) k_1 (fun _ h => h) (j := 2) rfl dX2_bringWagon_18 ?_
      refine lv_iconst (v := 3) hx hb dX2_bringWagon_21 (by decide) ?_
      refine lv_icmp_lt (tgt := 28) hx hb dX2_bringWagon_22 (by decide) (fun c_3 => ?_) (fun c_3 => ?_)
      · --T
        refine lv_aload_n hx hb dX2_bringWagon_28 rfl (lv_at hl 0 rfl) ?_
        refine gRd_getr hx hb hts in_X2 hown hK hG hV.1 hV.c0 14 (by decide) rfl hV.2.2.2.2.1 k_3 (fun _ h => h) dX2_bringWagon_29 ?_
        refine lv_aload_n hx hb dX2_bringWagon_32 rfl (lv_at hl 0 rfl) ?_
        refine gRd_get hx hb hts in_X2 hown hK hG hV.1 hV.c0 2 (by decide) k_1 (fun _ h => h) (j := 2) rfl dX2_bringWagon_33 ?_
        refine g_aald hx hb hK hG (hV.row 3 (by decide)) (gC_row3 hV.1) (by decide) (by decide) rfl (gLen_row3 hV.1) (j := (P 2).toNatClampNeg) rfl (ix_in (n := 3) rfl (by decide) c_2 c_3) (hV.w (i := (P 2).toNatClampNeg) (ix_lt (n := 3) rfl (by decide) c_2 c_3)) dX2_bringWagon_36 ?_
        refine lv_iload_n hx hb dX2_bringWagon_37 rfl (lv_at hl 1 rfl) ?_
        refine g_callV (As := [.int a]) (rest := []) (st1 := []) hF (cX5_beNew M R O hV.1 (ix_lt (n := 3) rfl (by decide) c_2 c_3) (hV.wag (i := (P 2).toNatClampNeg) (ix_lt (n := 3) rfl (by decide) c_2 c_3)) P a) (cwV 1 hts gX2_bringWagon_X5_beNew rfl rfl rfl (by decide +kernel) ⟨Nat.le_of_ble_eq_true rfl, Nat.le_of_ble_eq_true rfl⟩) hK hZ hG hS (hV.wag (i := (P 2).toNatClampNeg) (ix_lt (n := 3) rfl (by decide) c_2 c_3)) (gC_Wg hV.1 (ix_lt (n := 3) rfl (by decide) c_2 c_3)) (by decide) rfl rfl hl.1 (Nat.le_of_ble_eq_true rfl) dX2_bringWagon_38 ⟨Nat.le_refl _, Nat.le_refl _⟩ rfl rfl (fun H locs hG hS => ?_)
        refine lv_aload_n hx hb dX2_bringWagon_41 rfl (lv_at hl 0 rfl) ?_
        refine lv_dup hx hb dX2_bringWagon_42 rfl ?_
        refine gRd_get hx hb hts in_X2 hown hK hG hV.1 hV.c0 2 (by decide) k_1 (fun _ h => h) (j := 2) rfl dX2_bringWagon_43 ?_
        refine lv_iconst (v := 1) hx hb dX2_bringWagon_46 (by decide) ?_
        refine lv_iadd hx hb dX2_bringWagon_47 ?_
        refine gRd_put hx hb hts in_X2 hown hK hG hS hV.1 hV.c0 2 (by decide) k_1 (fun _ h => h) rfl .int (by decide +kernel) rfl rfl (j := 2) rfl dX2_bringWagon_48 (fun H locs hG hS => ?_)
        refine lv_aload_n hx hb dX2_bringWagon_51 rfl (lv_at hl 0 rfl) ?_
        refine gRd_get hx hb hts in_X2 hown hK hG hV.1 hV.c0 2 (by decide) k_1 (fun _ h => h) (j := 2) rfl dX2_bringWagon_52 ?_
        refine lv_iconst (v := 1) hx hb dX2_bringWagon_55 (by decide) ?_
        refine lv_isub hx hb dX2_bringWagon_56 ?_
        exact g_iret hx hb hrt hlocks hS hG (by unfold fX2_bringWagon_v; rw [if_pos c_1, if_neg c_2, if_pos c_3]) (congrArg (va_up M r) (by unfold fX2_bringWagon_P; rw [if_pos c_1, if_neg c_2, if_pos c_3])) dX2_bringWagon_57
      · --F
        refine lv_bipush (v := (-3)) hx hb dX2_bringWagon_25 (by decide) ?_
        exact g_iret hx hb hrt hlocks hS hG (by unfold fX2_bringWagon_v; rw [if_pos c_1, if_neg c_2, if_neg c_3]) (congrArg (va_up M r) (by unfold fX2_bringWagon_P; rw [if_pos c_1, if_neg c_2, if_neg c_3])) dX2_bringWagon_27
  · --none
    refine g_callV (As := [.int a]) (rest := []) (st1 := [.null]) hF (cX2_segmentAt_n M R O hV P c_1) (cwV 1 hts gX2_bringWagon_X2_segmentAt rfl rfl rfl (by decide +kernel) ⟨Nat.le_of_ble_eq_true rfl, Nat.le_of_ble_eq_true rfl⟩) hK hZ hG hS hV.c0 (gC_Rd hV.1) (by decide) rfl rfl hl.1 (Nat.le_of_ble_eq_true rfl) dX2_bringWagon_2 ⟨Nat.le_refl _, Nat.le_refl _⟩ rfl rfl (fun H locs hG hS => ?_)
    refine lv_ifnonnullN hx hb dX2_bringWagon_5 ?_
    refine lv_iconst (v := (-1)) hx hb dX2_bringWagon_8 (by decide) ?_
    exact g_iret hx hb hrt hlocks hS hG (by unfold fX2_bringWagon_v; rw [if_neg c_1]) (congrArg (va_up M r) (by unfold fX2_bringWagon_P; rw [if_neg c_1])) dX2_bringWagon_9

def fX2_changeSurface_v (P : Nat → Int32) (a b : Int32) : Int32 := if okI a (P 0) 10 then if (fX6_within_v b 0 2) = 0 then (-2) else P (12 + 7 * a.toNatClampNeg) else (-1)
def fX2_changeSurface_P (P : Nat → Int32) (a b : Int32) : Nat → Int32 := if okI a (P 0) 10 then if (fX6_within_v b 0 2) = 0 then P else upd P (12 + 7 * a.toNatClampNeg) b else P
set_option maxHeartbeats 4000000 in
set_option maxRecDepth 100000 in
theorem cX2_changeSurface {l : Launch} {Γ : gX} (M : Nat → Nat → Int32) (R : Nat → Nat → Option Nat) (O : Int64) {r : Nat} (hV : LV Γ R r) (P : Nat → Int32) (a b : Int32) : gMet l Γ yX2_changeSurface wsX2_changeSurface 1 22 [.ref (gad Γ (25 * r)), .int a, .int b] (va_up M r P) R O (some (.int (fX2_changeSurface_v P a b))) (va_up M r (fX2_changeSurface_P P a b)) R O := by
  refine g_start (cc := cX2_changeSurface) (maxL := 5) (ret := (some .int)) (by decide) rfl (by decide) ?_
  intro p e s m below meth c ls hx hb hml hrt hts hown hlocks hname hK hZ hG hS hl
  have hl : lv_has ls 5 [(0, .ref (gad Γ (25 * r))), (1, .int a), (2, .int b)] := hl
  have hown : s.vm.findClass RX2 = some m.cls := hown
  have hF : CallFix p m c cX2_changeSurface 5 s _ wsX2_changeSurface RX2 := ⟨hx, hb, hml, hown, hts⟩
  have k_1 : (Cond.initialized RX6).before _ s = true := hts _ (by decide +kernel)
  have k_2 : (Cond.static yX6_within).before _ s = true := hts _ (by decide +kernel)
  have k_3 : (Cond.fieldLink RX2 112 "RoadDust$Segment" "surface" "I").before _ s = true := hts _ (by decide +kernel)
  have in_X3 : ∀ w ∈ wsX30, w ∈ wsX2_changeSurface := by decide +kernel
  refine lv_aload_n hx hb dX2_changeSurface_0 rfl (lv_at hl 0 rfl) ?_
  refine lv_iload_n hx hb dX2_changeSurface_1 rfl (lv_at hl 1 rfl) ?_
  by_cases c_1 : okI a (P 0) 10
  · --ok
    refine g_callV (As := [.int a]) (rest := []) (st1 := [.ref (gad Γ (25 * r + 4 + a.toNatClampNeg))]) hF (cX2_segmentAt_y M R O hV P c_1 (j := a.toNatClampNeg) rfl) (cwV 1 hts gX2_changeSurface_X2_segmentAt rfl rfl rfl (by decide +kernel) ⟨Nat.le_of_ble_eq_true rfl, Nat.le_of_ble_eq_true rfl⟩) hK hZ hG hS hV.c0 (gC_Rd hV.1) (by decide) rfl rfl hl.1 (Nat.le_of_ble_eq_true rfl) dX2_changeSurface_2 ⟨Nat.le_refl _, Nat.le_refl _⟩ rfl rfl (fun H locs hG hS => ?_)
    refine lv_astore_n (lv' := [(3, .ref (gad Γ (25 * r + 4 + a.toNatClampNeg))), (0, .ref (gad Γ (25 * r))), (1, .int a), (2, .int b)]) hx hb dX2_changeSurface_5 rfl hl (by decide) rfl (fun ls hl => ?_)
    refine lv_aload_n hx hb dX2_changeSurface_6 rfl (lv_at hl 0 rfl) ?_
    refine lv_ifnonnull (tgt := 12) hx hb dX2_changeSurface_7 (by decide) ?_
    refine lv_iload_n hx hb dX2_changeSurface_12 rfl (lv_at hl 3 rfl) ?_
    refine lv_iconst (v := 0) hx hb dX2_changeSurface_13 (by decide) ?_
    refine lv_iconst (v := 2) hx hb dX2_changeSurface_14 (by decide) ?_
    refine g_callSN (As := [.int b, .int 0, .int 2]) (rest := []) (st1 := [.int (fX6_within_v b 0 2)]) hF (cX6_within _ R O b 0 2) ⟨va_cnB 3 hts gX2_changeSurface_X6_within_n103 rfl rfl rfl hK.2.2.2.2.2.2 k_1 (by decide +kernel) ⟨Nat.le_of_ble_eq_true rfl, Nat.le_of_ble_eq_true rfl⟩, k_2, trivial⟩ hK hZ hG hS rfl hl.1 (Nat.le_of_ble_eq_true rfl) dX2_changeSurface_15 ⟨Nat.le_refl _, Nat.le_refl _⟩ rfl rfl (fun H locs hG hS => ?_)
    refine lv_if_ne (tgt := 24) hx hb dX2_changeSurface_18 (by decide) (fun c_2 => ?_) (fun c_2 => ?_)
    · --T
      refine lv_aload_n hx hb dX2_changeSurface_24 rfl (lv_at hl 0 rfl) ?_
      refine gS_get hx hb hts in_X3 hown hK hG hV.1 (okI_lt (k := 10) rfl (by decide) c_1) (hV.seg (i := a.toNatClampNeg) (okI_lt (k := 10) rfl (by decide) c_1)) 0 (by decide) k_3 (fun _ h => h) (j := 12 + 7 * a.toNatClampNeg) rfl dX2_changeSurface_25 ?_
      refine lv_istore (lv' := [(4, .int (P (12 + 7 * a.toNatClampNeg))), (3, .ref (gad Γ (25 * r + 4 + a.toNatClampNeg))), (0, .ref (gad Γ (25 * r))), (1, .int a), (2, .int b)]) hx hb dX2_changeSurface_28 hl (by decide) rfl (fun ls hl => ?_)
      refine lv_aload_n hx hb dX2_changeSurface_30 rfl (lv_at hl 1 rfl) ?_
      refine lv_iload_n hx hb dX2_changeSurface_31 rfl (lv_at hl 4 rfl) ?_
      refine gS_put hx hb hts in_X3 hown hK hG hS hV.1 (okI_lt (k := 10) rfl (by decide) c_1) (hV.seg (i := a.toNatClampNeg) (okI_lt (k := 10) rfl (by decide) c_1)) 0 (by decide) k_3 (fun _ h => h) rfl .int (by decide +kernel) rfl rfl (j := 12 + 7 * a.toNatClampNeg) rfl dX2_changeSurface_32 (fun H locs hG hS => ?_)
      refine lv_iload hx hb dX2_changeSurface_35 (lv_at hl 0 rfl) ?_
      exact g_iret hx hb hrt hlocks hS hG (by unfold fX2_changeSurface_v; rw [if_pos c_1, if_neg c_2]) (congrArg (va_up M r) (by unfold fX2_changeSurface_P; rw [if_pos c_1, if_neg c_2])) dX2_changeSurface_37
    · --F
      refine lv_bipush (v := (-2)) hx hb dX2_changeSurface_21 (by decide) ?_
      exact g_iret hx hb hrt hlocks hS hG (by unfold fX2_changeSurface_v; rw [if_pos c_1, if_pos c_2]) (congrArg (va_up M r) (by unfold fX2_changeSurface_P; rw [if_pos c_1, if_pos c_2])) dX2_changeSurface_23
  · --none
    refine g_callV (As := [.int a]) (rest := []) (st1 := [.null]) hF (cX2_segmentAt_n M R O hV P c_1) (cwV 1 hts gX2_changeSurface_X2_segmentAt rfl rfl rfl (by decide +kernel) ⟨Nat.le_of_ble_eq_true rfl, Nat.le_of_ble_eq_true rfl⟩) hK hZ hG hS hV.c0 (gC_Rd hV.1) (by decide) rfl rfl hl.1 (Nat.le_of_ble_eq_true rfl) dX2_changeSurface_2 ⟨Nat.le_refl _, Nat.le_refl _⟩ rfl rfl (fun H locs hG hS => ?_)
    refine lv_astore_nN (lv' := [(3, .null), (0, .ref (gad Γ (25 * r))), (1, .int a), (2, .int b)]) hx hb dX2_changeSurface_5 rfl hl (by decide) rfl (fun ls hl => ?_)
    refine lv_aload_nN hx hb dX2_changeSurface_6 rfl (lv_at hl 0 rfl) ?_
    refine lv_ifnonnullN hx hb dX2_changeSurface_7 ?_
    refine lv_iconst (v := (-1)) hx hb dX2_changeSurface_10 (by decide) ?_
    exact g_iret hx hb hrt hlocks hS hG (by unfold fX2_changeSurface_v; rw [if_neg c_1]) (congrArg (va_up M r) (by unfold fX2_changeSurface_P; rw [if_neg c_1])) dX2_changeSurface_11

def fX2_changeLimit_v (P : Nat → Int32) (a b : Int32) : Int32 := if okI a (P 0) 10 then if (fX6_within_v b 1 5) = 0 then (-2) else if b ≤ (fX3_greatestLimit_v P a.toNatClampNeg) then P (12 + 7 * a.toNatClampNeg + 1) else (-3) else (-1)
def fX2_changeLimit_P (P : Nat → Int32) (a b : Int32) : Nat → Int32 := if okI a (P 0) 10 then if (fX6_within_v b 1 5) = 0 then P else if b ≤ (fX3_greatestLimit_v P a.toNatClampNeg) then upd P (12 + 7 * a.toNatClampNeg + 1) b else P else P
set_option maxHeartbeats 4000000 in
set_option maxRecDepth 100000 in
theorem cX2_changeLimit {l : Launch} {Γ : gX} (M : Nat → Nat → Int32) (R : Nat → Nat → Option Nat) (O : Int64) {r : Nat} (hV : LV Γ R r) (P : Nat → Int32) (a b : Int32) : gMet l Γ yX2_changeLimit wsX2_changeLimit 1 22 [.ref (gad Γ (25 * r)), .int a, .int b] (va_up M r P) R O (some (.int (fX2_changeLimit_v P a b))) (va_up M r (fX2_changeLimit_P P a b)) R O := by
  refine g_start (cc := cX2_changeLimit) (maxL := 5) (ret := (some .int)) (by decide) rfl (by decide) ?_
  intro p e s m below meth c ls hx hb hml hrt hts hown hlocks hname hK hZ hG hS hl
  have hl : lv_has ls 5 [(0, .ref (gad Γ (25 * r))), (1, .int a), (2, .int b)] := hl
  have hown : s.vm.findClass RX2 = some m.cls := hown
  have hF : CallFix p m c cX2_changeLimit 5 s _ wsX2_changeLimit RX2 := ⟨hx, hb, hml, hown, hts⟩
  have k_1 : (Cond.initialized RX6).before _ s = true := hts _ (by decide +kernel)
  have k_2 : (Cond.static yX6_within).before _ s = true := hts _ (by decide +kernel)
  have k_3 : (Cond.fieldLink RX2 118 "RoadDust$Segment" "limit" "I").before _ s = true := hts _ (by decide +kernel)
  have in_X3 : ∀ w ∈ wsX30, w ∈ wsX2_changeLimit := by decide +kernel
  refine lv_aload_n hx hb dX2_changeLimit_0 rfl (lv_at hl 0 rfl) ?_
  refine lv_iload_n hx hb dX2_changeLimit_1 rfl (lv_at hl 1 rfl) ?_
  by_cases c_1 : okI a (P 0) 10
  · --ok
    refine g_callV (As := [.int a]) (rest := []) (st1 := [.ref (gad Γ (25 * r + 4 + a.toNatClampNeg))]) hF (cX2_segmentAt_y M R O hV P c_1 (j := a.toNatClampNeg) rfl) (cwV 1 hts gX2_changeLimit_X2_segmentAt rfl rfl rfl (by decide +kernel) ⟨Nat.le_of_ble_eq_true rfl, Nat.le_of_ble_eq_true rfl⟩) hK hZ hG hS hV.c0 (gC_Rd hV.1) (by decide) rfl rfl hl.1 (Nat.le_of_ble_eq_true rfl) dX2_changeLimit_2 ⟨Nat.le_refl _, Nat.le_refl _⟩ rfl rfl (fun H locs hG hS => ?_)
    refine lv_astore_n (lv' := [(3, .ref (gad Γ (25 * r + 4 + a.toNatClampNeg))), (0, .ref (gad Γ (25 * r))), (1, .int a), (2, .int b)]) hx hb dX2_changeLimit_5 rfl hl (by decide) rfl (fun ls hl => ?_)
    refine lv_aload_n hx hb dX2_changeLimit_6 rfl (lv_at hl 0 rfl) ?_
    refine lv_ifnonnull (tgt := 12) hx hb dX2_changeLimit_7 (by decide) ?_
    refine lv_iload_n hx hb dX2_changeLimit_12 rfl (lv_at hl 3 rfl) ?_
    refine lv_iconst (v := 1) hx hb dX2_changeLimit_13 (by decide) ?_
    refine lv_iconst (v := 5) hx hb dX2_changeLimit_14 (by decide) ?_
    refine g_callSN (As := [.int b, .int 1, .int 5]) (rest := []) (st1 := [.int (fX6_within_v b 1 5)]) hF (cX6_within _ R O b 1 5) ⟨va_cnB 3 hts gX2_changeLimit_X6_within_n103 rfl rfl rfl hK.2.2.2.2.2.2 k_1 (by decide +kernel) ⟨Nat.le_of_ble_eq_true rfl, Nat.le_of_ble_eq_true rfl⟩, k_2, trivial⟩ hK hZ hG hS rfl hl.1 (Nat.le_of_ble_eq_true rfl) dX2_changeLimit_15 ⟨Nat.le_refl _, Nat.le_refl _⟩ rfl rfl (fun H locs hG hS => ?_)
    refine lv_if_ne (tgt := 24) hx hb dX2_changeLimit_18 (by decide) (fun c_2 => ?_) (fun c_2 => ?_)
    · --T
      refine lv_iload_n hx hb dX2_changeLimit_24 rfl (lv_at hl 3 rfl) ?_
      refine lv_aload_n hx hb dX2_changeLimit_25 rfl (lv_at hl 0 rfl) ?_
      refine g_callV (As := []) (rest := [.int b]) (st1 := [.int (fX3_greatestLimit_v P a.toNatClampNeg), .int b]) hF (cX3_greatestLimit M R O hV.1 (okI_lt (k := 10) rfl (by decide) c_1) (hV.seg (i := a.toNatClampNeg) (okI_lt (k := 10) rfl (by decide) c_1)) P ) (cwV 0 hts gX2_changeLimit_X3_greatestLimit rfl rfl rfl (by decide +kernel) ⟨Nat.le_of_ble_eq_true rfl, Nat.le_of_ble_eq_true rfl⟩) hK hZ hG hS (hV.seg (i := a.toNatClampNeg) (okI_lt (k := 10) rfl (by decide) c_1)) (gC_S hV.1 (okI_lt (k := 10) rfl (by decide) c_1)) (by decide) rfl rfl hl.1 (Nat.le_of_ble_eq_true rfl) dX2_changeLimit_26 ⟨Nat.le_refl _, Nat.le_refl _⟩ rfl rfl (fun H locs hG hS => ?_)
      refine lv_icmp_le (tgt := 35) hx hb dX2_changeLimit_29 (by decide) (fun c_3 => ?_) (fun c_3 => ?_)
      · --T
        refine lv_aload_n hx hb dX2_changeLimit_35 rfl (lv_at hl 0 rfl) ?_
        refine gS_get hx hb hts in_X3 hown hK hG hV.1 (okI_lt (k := 10) rfl (by decide) c_1) (hV.seg (i := a.toNatClampNeg) (okI_lt (k := 10) rfl (by decide) c_1)) 1 (by decide) k_3 (fun _ h => h) (j := 12 + 7 * a.toNatClampNeg + 1) rfl dX2_changeLimit_36 ?_
        refine lv_istore (lv' := [(4, .int (P (12 + 7 * a.toNatClampNeg + 1))), (3, .ref (gad Γ (25 * r + 4 + a.toNatClampNeg))), (0, .ref (gad Γ (25 * r))), (1, .int a), (2, .int b)]) hx hb dX2_changeLimit_39 hl (by decide) rfl (fun ls hl => ?_)
        refine lv_aload_n hx hb dX2_changeLimit_41 rfl (lv_at hl 1 rfl) ?_
        refine lv_iload_n hx hb dX2_changeLimit_42 rfl (lv_at hl 4 rfl) ?_
        refine gS_put hx hb hts in_X3 hown hK hG hS hV.1 (okI_lt (k := 10) rfl (by decide) c_1) (hV.seg (i := a.toNatClampNeg) (okI_lt (k := 10) rfl (by decide) c_1)) 1 (by decide) k_3 (fun _ h => h) rfl .int (by decide +kernel) rfl rfl (j := 12 + 7 * a.toNatClampNeg + 1) rfl dX2_changeLimit_43 (fun H locs hG hS => ?_)
        refine lv_iload hx hb dX2_changeLimit_46 (lv_at hl 0 rfl) ?_
        exact g_iret hx hb hrt hlocks hS hG (by unfold fX2_changeLimit_v; rw [if_pos c_1, if_neg c_2, if_pos c_3]) (congrArg (va_up M r) (by unfold fX2_changeLimit_P; rw [if_pos c_1, if_neg c_2, if_pos c_3])) dX2_changeLimit_48
      · --F
        refine lv_bipush (v := (-3)) hx hb dX2_changeLimit_32 (by decide) ?_
        exact g_iret hx hb hrt hlocks hS hG (by unfold fX2_changeLimit_v; rw [if_pos c_1, if_neg c_2, if_neg c_3]) (congrArg (va_up M r) (by unfold fX2_changeLimit_P; rw [if_pos c_1, if_neg c_2, if_neg c_3])) dX2_changeLimit_34
    · --F
      refine lv_bipush (v := (-2)) hx hb dX2_changeLimit_21 (by decide) ?_
      exact g_iret hx hb hrt hlocks hS hG (by unfold fX2_changeLimit_v; rw [if_pos c_1, if_pos c_2]) (congrArg (va_up M r) (by unfold fX2_changeLimit_P; rw [if_pos c_1, if_pos c_2])) dX2_changeLimit_23
  · --none
    refine g_callV (As := [.int a]) (rest := []) (st1 := [.null]) hF (cX2_segmentAt_n M R O hV P c_1) (cwV 1 hts gX2_changeLimit_X2_segmentAt rfl rfl rfl (by decide +kernel) ⟨Nat.le_of_ble_eq_true rfl, Nat.le_of_ble_eq_true rfl⟩) hK hZ hG hS hV.c0 (gC_Rd hV.1) (by decide) rfl rfl hl.1 (Nat.le_of_ble_eq_true rfl) dX2_changeLimit_2 ⟨Nat.le_refl _, Nat.le_refl _⟩ rfl rfl (fun H locs hG hS => ?_)
    refine lv_astore_nN (lv' := [(3, .null), (0, .ref (gad Γ (25 * r))), (1, .int a), (2, .int b)]) hx hb dX2_changeLimit_5 rfl hl (by decide) rfl (fun ls hl => ?_)
    refine lv_aload_nN hx hb dX2_changeLimit_6 rfl (lv_at hl 0 rfl) ?_
    refine lv_ifnonnullN hx hb dX2_changeLimit_7 ?_
    refine lv_iconst (v := (-1)) hx hb dX2_changeLimit_10 (by decide) ?_
    exact g_iret hx hb hrt hlocks hS hG (by unfold fX2_changeLimit_v; rw [if_neg c_1]) (congrArg (va_up M r) (by unfold fX2_changeLimit_P; rw [if_neg c_1])) dX2_changeLimit_11

def fX2_changeNumber_v (P : Nat → Int32) (a b : Int32) : Int32 := if a = 5 then if (fX6_within_v b 0 20) = 0 then if a = 6 then if (fX6_within_v b 0 9) = 0 then if a = 7 then if (fX6_within_v b 1 200) = 0 then if a = 8 then if (fX6_within_v b 0 99) = 0 then (-2) else fX2_number_v P a else (-2) else fX2_number_v P a else if a = 8 then if (fX6_within_v b 0 99) = 0 then (-2) else fX2_number_v P a else (-2) else fX2_number_v P a else if a = 7 then if (fX6_within_v b 1 200) = 0 then if a = 8 then if (fX6_within_v b 0 99) = 0 then (-2) else fX2_number_v P a else (-2) else fX2_number_v P a else if a = 8 then if (fX6_within_v b 0 99) = 0 then (-2) else fX2_number_v P a else (-2) else fX2_number_v P a else if a = 6 then if (fX6_within_v b 0 9) = 0 then if a = 7 then if (fX6_within_v b 1 200) = 0 then if a = 8 then if (fX6_within_v b 0 99) = 0 then (-2) else fX2_number_v P a else (-2) else fX2_number_v P a else if a = 8 then if (fX6_within_v b 0 99) = 0 then (-2) else fX2_number_v P a else (-2) else fX2_number_v P a else if a = 7 then if (fX6_within_v b 1 200) = 0 then if a = 8 then if (fX6_within_v b 0 99) = 0 then (-2) else fX2_number_v P a else (-2) else fX2_number_v P a else if a = 8 then if (fX6_within_v b 0 99) = 0 then (-2) else fX2_number_v P a else (-2)
def fX2_changeNumber_P (P : Nat → Int32) (a b : Int32) : Nat → Int32 := if a = 5 then if (fX6_within_v b 0 20) = 0 then if a = 6 then if (fX6_within_v b 0 9) = 0 then if a = 7 then if (fX6_within_v b 1 200) = 0 then if a = 8 then if (fX6_within_v b 0 99) = 0 then P else upd P 8 b else P else upd P 7 b else if a = 8 then if (fX6_within_v b 0 99) = 0 then P else upd P 8 b else P else upd P 6 b else if a = 7 then if (fX6_within_v b 1 200) = 0 then if a = 8 then if (fX6_within_v b 0 99) = 0 then P else upd P 8 b else P else upd P 7 b else if a = 8 then if (fX6_within_v b 0 99) = 0 then P else upd P 8 b else P else upd P 5 b else if a = 6 then if (fX6_within_v b 0 9) = 0 then if a = 7 then if (fX6_within_v b 1 200) = 0 then if a = 8 then if (fX6_within_v b 0 99) = 0 then P else upd P 8 b else P else upd P 7 b else if a = 8 then if (fX6_within_v b 0 99) = 0 then P else upd P 8 b else P else upd P 6 b else if a = 7 then if (fX6_within_v b 1 200) = 0 then if a = 8 then if (fX6_within_v b 0 99) = 0 then P else upd P 8 b else P else upd P 7 b else if a = 8 then if (fX6_within_v b 0 99) = 0 then P else upd P 8 b else P
set_option maxHeartbeats 4000000 in
set_option maxRecDepth 100000 in
theorem cX2_changeNumber {l : Launch} {Γ : gX} (M : Nat → Nat → Int32) (R : Nat → Nat → Option Nat) (O : Int64) {r : Nat} (hV : LV Γ R r) (P : Nat → Int32) (a b : Int32) : gMet l Γ yX2_changeNumber wsX2_changeNumber 3 64 [.ref (gad Γ (25 * r)), .int a, .int b] (va_up M r P) R O (some (.int (fX2_changeNumber_v P a b))) (va_up M r (fX2_changeNumber_P P a b)) R O := by
  refine g_start (cc := cX2_changeNumber) (maxL := 4) (ret := (some .int)) (by decide) rfl (by decide) ?_
  intro p e s m below meth c ls hx hb hml hrt hts hown hlocks hname hK hZ hG hS hl
  have hl : lv_has ls 4 [(0, .ref (gad Γ (25 * r))), (1, .int a), (2, .int b)] := hl
  have hown : s.vm.findClass RX2 = some m.cls := hown
  have hF : CallFix p m c cX2_changeNumber 4 s _ wsX2_changeNumber RX2 := ⟨hx, hb, hml, hown, hts⟩
  have k_1 : (Cond.initialized RX6).before _ s = true := hts _ (by decide +kernel)
  have k_2 : (Cond.static yX6_within).before _ s = true := hts _ (by decide +kernel)
  have k_3 : (Cond.fieldLink RX2 60 "RoadDust$Road" "right" "I").before _ s = true := hts _ (by decide +kernel)
  have in_X2 : ∀ w ∈ wsX20, w ∈ wsX2_changeNumber := by decide +kernel
  have k_5 : (Cond.fieldLink RX2 57 "RoadDust$Road" "bound" "I").before _ s = true := hts _ (by decide +kernel)
  have k_6 : (Cond.fieldLink RX2 54 "RoadDust$Road" "sun" "I").before _ s = true := hts _ (by decide +kernel)
  have k_7 : (Cond.fieldLink RX2 51 "RoadDust$Road" "lorries" "I").before _ s = true := hts _ (by decide +kernel)
  refine lv_aload_n hx hb dX2_changeNumber_0 rfl (lv_at hl 0 rfl) ?_
  refine lv_iload_n hx hb dX2_changeNumber_1 rfl (lv_at hl 1 rfl) ?_
  refine g_callV (As := [.int a]) (rest := []) (st1 := [.int (fX2_number_v P a)]) hF (cX2_number M R O hV P a) (cwV 1 hts gX2_changeNumber_X2_number rfl rfl rfl (by decide +kernel) ⟨Nat.le_of_ble_eq_true rfl, Nat.le_of_ble_eq_true rfl⟩) hK hZ hG hS hV.c0 (gC_Rd hV.1) (by decide) rfl rfl hl.1 (Nat.le_of_ble_eq_true rfl) dX2_changeNumber_2 ⟨Nat.le_refl _, Nat.le_refl _⟩ rfl rfl (fun H locs hG hS => ?_)
  refine lv_istore_n (lv' := [(3, .int (fX2_number_v P a)), (0, .ref (gad Γ (25 * r))), (1, .int a), (2, .int b)]) hx hb dX2_changeNumber_5 rfl hl (by decide) rfl (fun ls hl => ?_)
  refine lv_iload_n hx hb dX2_changeNumber_6 rfl (lv_at hl 2 rfl) ?_
  refine lv_iconst (v := 5) hx hb dX2_changeNumber_7 (by decide) ?_
  refine lv_icmp_ne (tgt := 29) hx hb dX2_changeNumber_8 (by decide) (fun c_1 => ?_) (fun c_1 => ?_)
  · --T
    refine lv_iload_n hx hb dX2_changeNumber_29 rfl (lv_at hl 2 rfl) ?_
    refine lv_bipush (v := 6) hx hb dX2_changeNumber_30 (by decide) ?_
    refine lv_icmp_ne (tgt := 53) hx hb dX2_changeNumber_32 (by decide) (fun c_2 => ?_) (fun c_2 => ?_)
    · --T
      refine lv_iload_n hx hb dX2_changeNumber_53 rfl (lv_at hl 2 rfl) ?_
      refine lv_bipush (v := 7) hx hb dX2_changeNumber_54 (by decide) ?_
      refine lv_icmp_ne (tgt := 78) hx hb dX2_changeNumber_56 (by decide) (fun c_3 => ?_) (fun c_3 => ?_)
      · --T
        refine lv_iload_n hx hb dX2_changeNumber_78 rfl (lv_at hl 2 rfl) ?_
        refine lv_bipush (v := 8) hx hb dX2_changeNumber_79 (by decide) ?_
        refine lv_icmp_ne (tgt := 102) hx hb dX2_changeNumber_81 (by decide) (fun c_4 => ?_) (fun c_4 => ?_)
        · --T
          refine lv_bipush (v := (-2)) hx hb dX2_changeNumber_102 (by decide) ?_
          exact g_iret hx hb hrt hlocks hS hG (by unfold fX2_changeNumber_v; rw [if_neg c_1, if_neg c_2, if_neg c_3, if_neg c_4]) (congrArg (va_up M r) (by unfold fX2_changeNumber_P; rw [if_neg c_1, if_neg c_2, if_neg c_3, if_neg c_4])) dX2_changeNumber_104
        · --F
          refine lv_iload_n hx hb dX2_changeNumber_84 rfl (lv_at hl 3 rfl) ?_
          refine lv_iconst (v := 0) hx hb dX2_changeNumber_85 (by decide) ?_
          refine lv_bipush (v := 99) hx hb dX2_changeNumber_86 (by decide) ?_
          refine g_callSN (As := [.int b, .int 0, .int 99]) (rest := []) (st1 := [.int (fX6_within_v b 0 99)]) hF (cX6_within _ R O b 0 99) ⟨va_cnB 3 hts gX2_changeNumber_X6_within_n103 rfl rfl rfl hK.2.2.2.2.2.2 k_1 (by decide +kernel) ⟨Nat.le_of_ble_eq_true rfl, Nat.le_of_ble_eq_true rfl⟩, k_2, trivial⟩ hK hZ hG hS rfl hl.1 (Nat.le_of_ble_eq_true rfl) dX2_changeNumber_88 ⟨Nat.le_refl _, Nat.le_refl _⟩ rfl rfl (fun H locs hG hS => ?_)
          refine lv_if_eq (tgt := 102) hx hb dX2_changeNumber_91 (by decide) (fun c_5 => ?_) (fun c_5 => ?_)
          · --T
            refine lv_bipush (v := (-2)) hx hb dX2_changeNumber_102 (by decide) ?_
            exact g_iret hx hb hrt hlocks hS hG (by unfold fX2_changeNumber_v; rw [if_neg c_1, if_neg c_2, if_neg c_3, if_pos c_4, if_pos c_5]) (congrArg (va_up M r) (by unfold fX2_changeNumber_P; rw [if_neg c_1, if_neg c_2, if_neg c_3, if_pos c_4, if_pos c_5])) dX2_changeNumber_104
          · --F
            refine lv_aload_n hx hb dX2_changeNumber_94 rfl (lv_at hl 1 rfl) ?_
            refine lv_iload_n hx hb dX2_changeNumber_95 rfl (lv_at hl 3 rfl) ?_
            refine gRd_put hx hb hts in_X2 hown hK hG hS hV.1 hV.c0 8 (by decide) k_3 (fun _ h => h) rfl .int (by decide +kernel) rfl rfl (j := 8) rfl dX2_changeNumber_96 (fun H locs hG hS => ?_)
            refine lv_goto (tgt := 105) hx hb dX2_changeNumber_99 (by decide) ?_
            refine lv_iload_n hx hb dX2_changeNumber_105 rfl (lv_at hl 0 rfl) ?_
            exact g_iret hx hb hrt hlocks hS hG (by unfold fX2_changeNumber_v; rw [if_neg c_1, if_neg c_2, if_neg c_3, if_pos c_4, if_neg c_5]) (congrArg (va_up M r) (by unfold fX2_changeNumber_P; rw [if_neg c_1, if_neg c_2, if_neg c_3, if_pos c_4, if_neg c_5])) dX2_changeNumber_106
      · --F
        refine lv_iload_n hx hb dX2_changeNumber_59 rfl (lv_at hl 3 rfl) ?_
        refine lv_iconst (v := 1) hx hb dX2_changeNumber_60 (by decide) ?_
        refine lv_sipush (v := 200) hx hb dX2_changeNumber_61 (by decide) ?_
        refine g_callSN (As := [.int b, .int 1, .int 200]) (rest := []) (st1 := [.int (fX6_within_v b 1 200)]) hF (cX6_within _ R O b 1 200) ⟨va_cnB 3 hts gX2_changeNumber_X6_within_n103 rfl rfl rfl hK.2.2.2.2.2.2 k_1 (by decide +kernel) ⟨Nat.le_of_ble_eq_true rfl, Nat.le_of_ble_eq_true rfl⟩, k_2, trivial⟩ hK hZ hG hS rfl hl.1 (Nat.le_of_ble_eq_true rfl) dX2_changeNumber_64 ⟨Nat.le_refl _, Nat.le_refl _⟩ rfl rfl (fun H locs hG hS => ?_)
        refine lv_if_eq (tgt := 78) hx hb dX2_changeNumber_67 (by decide) (fun c_6 => ?_) (fun c_6 => ?_)
        · --T
          refine lv_iload_n hx hb dX2_changeNumber_78 rfl (lv_at hl 2 rfl) ?_
          refine lv_bipush (v := 8) hx hb dX2_changeNumber_79 (by decide) ?_
          refine lv_icmp_ne (tgt := 102) hx hb dX2_changeNumber_81 (by decide) (fun c_7 => ?_) (fun c_7 => ?_)
          · --T
            refine lv_bipush (v := (-2)) hx hb dX2_changeNumber_102 (by decide) ?_
            exact g_iret hx hb hrt hlocks hS hG (by unfold fX2_changeNumber_v; rw [if_neg c_1, if_neg c_2, if_pos c_3, if_pos c_6, if_neg c_7]) (congrArg (va_up M r) (by unfold fX2_changeNumber_P; rw [if_neg c_1, if_neg c_2, if_pos c_3, if_pos c_6, if_neg c_7])) dX2_changeNumber_104
          · --F
            refine lv_iload_n hx hb dX2_changeNumber_84 rfl (lv_at hl 3 rfl) ?_
            refine lv_iconst (v := 0) hx hb dX2_changeNumber_85 (by decide) ?_
            refine lv_bipush (v := 99) hx hb dX2_changeNumber_86 (by decide) ?_
            refine g_callSN (As := [.int b, .int 0, .int 99]) (rest := []) (st1 := [.int (fX6_within_v b 0 99)]) hF (cX6_within _ R O b 0 99) ⟨va_cnB 3 hts gX2_changeNumber_X6_within_n103 rfl rfl rfl hK.2.2.2.2.2.2 k_1 (by decide +kernel) ⟨Nat.le_of_ble_eq_true rfl, Nat.le_of_ble_eq_true rfl⟩, k_2, trivial⟩ hK hZ hG hS rfl hl.1 (Nat.le_of_ble_eq_true rfl) dX2_changeNumber_88 ⟨Nat.le_refl _, Nat.le_refl _⟩ rfl rfl (fun H locs hG hS => ?_)
            refine lv_if_eq (tgt := 102) hx hb dX2_changeNumber_91 (by decide) (fun c_8 => ?_) (fun c_8 => ?_)
            · --T
              refine lv_bipush (v := (-2)) hx hb dX2_changeNumber_102 (by decide) ?_
              exact g_iret hx hb hrt hlocks hS hG (by unfold fX2_changeNumber_v; rw [if_neg c_1, if_neg c_2, if_pos c_3, if_pos c_6, if_pos c_7, if_pos c_8]) (congrArg (va_up M r) (by unfold fX2_changeNumber_P; rw [if_neg c_1, if_neg c_2, if_pos c_3, if_pos c_6, if_pos c_7, if_pos c_8])) dX2_changeNumber_104
            · --F
              refine lv_aload_n hx hb dX2_changeNumber_94 rfl (lv_at hl 1 rfl) ?_
              refine lv_iload_n hx hb dX2_changeNumber_95 rfl (lv_at hl 3 rfl) ?_
              refine gRd_put hx hb hts in_X2 hown hK hG hS hV.1 hV.c0 8 (by decide) k_3 (fun _ h => h) rfl .int (by decide +kernel) rfl rfl (j := 8) rfl dX2_changeNumber_96 (fun H locs hG hS => ?_)
              refine lv_goto (tgt := 105) hx hb dX2_changeNumber_99 (by decide) ?_
              refine lv_iload_n hx hb dX2_changeNumber_105 rfl (lv_at hl 0 rfl) ?_
              exact g_iret hx hb hrt hlocks hS hG (by unfold fX2_changeNumber_v; rw [if_neg c_1, if_neg c_2, if_pos c_3, if_pos c_6, if_pos c_7, if_neg c_8]) (congrArg (va_up M r) (by unfold fX2_changeNumber_P; rw [if_neg c_1, if_neg c_2, if_pos c_3, if_pos c_6, if_pos c_7, if_neg c_8])) dX2_changeNumber_106
        · --F
          refine lv_aload_n hx hb dX2_changeNumber_70 rfl (lv_at hl 1 rfl) ?_
          refine lv_iload_n hx hb dX2_changeNumber_71 rfl (lv_at hl 3 rfl) ?_
          refine gRd_put hx hb hts in_X2 hown hK hG hS hV.1 hV.c0 7 (by decide) k_5 (fun _ h => h) rfl .int (by decide +kernel) rfl rfl (j := 7) rfl dX2_changeNumber_72 (fun H locs hG hS => ?_)
          refine lv_goto (tgt := 105) hx hb dX2_changeNumber_75 (by decide) ?_
          refine lv_iload_n hx hb dX2_changeNumber_105 rfl (lv_at hl 0 rfl) ?_
          exact g_iret hx hb hrt hlocks hS hG (by unfold fX2_changeNumber_v; rw [if_neg c_1, if_neg c_2, if_pos c_3, if_neg c_6]) (congrArg (va_up M r) (by unfold fX2_changeNumber_P; rw [if_neg c_1, if_neg c_2, if_pos c_3, if_neg c_6])) dX2_changeNumber_106
    · --F
      refine lv_iload_n hx hb dX2_changeNumber_35 rfl (lv_at hl 3 rfl) ?_
      refine lv_iconst (v := 0) hx hb dX2_changeNumber_36 (by decide) ?_
      refine lv_bipush (v := 9) hx hb dX2_changeNumber_37 (by decide) ?_
      refine g_callSN (As := [.int b, .int 0, .int 9]) (rest := []) (st1 := [.int (fX6_within_v b 0 9)]) hF (cX6_within _ R O b 0 9) ⟨va_cnB 3 hts gX2_changeNumber_X6_within_n103 rfl rfl rfl hK.2.2.2.2.2.2 k_1 (by decide +kernel) ⟨Nat.le_of_ble_eq_true rfl, Nat.le_of_ble_eq_true rfl⟩, k_2, trivial⟩ hK hZ hG hS rfl hl.1 (Nat.le_of_ble_eq_true rfl) dX2_changeNumber_39 ⟨Nat.le_refl _, Nat.le_refl _⟩ rfl rfl (fun H locs hG hS => ?_)
      refine lv_if_eq (tgt := 53) hx hb dX2_changeNumber_42 (by decide) (fun c_9 => ?_) (fun c_9 => ?_)
      · --T
        refine lv_iload_n hx hb dX2_changeNumber_53 rfl (lv_at hl 2 rfl) ?_
        refine lv_bipush (v := 7) hx hb dX2_changeNumber_54 (by decide) ?_
        refine lv_icmp_ne (tgt := 78) hx hb dX2_changeNumber_56 (by decide) (fun c_10 => ?_) (fun c_10 => ?_)
        · --T
          refine lv_iload_n hx hb dX2_changeNumber_78 rfl (lv_at hl 2 rfl) ?_
          refine lv_bipush (v := 8) hx hb dX2_changeNumber_79 (by decide) ?_
          refine lv_icmp_ne (tgt := 102) hx hb dX2_changeNumber_81 (by decide) (fun c_11 => ?_) (fun c_11 => ?_)
          · --T
            refine lv_bipush (v := (-2)) hx hb dX2_changeNumber_102 (by decide) ?_
            exact g_iret hx hb hrt hlocks hS hG (by unfold fX2_changeNumber_v; rw [if_neg c_1, if_pos c_2, if_pos c_9, if_neg c_10, if_neg c_11]) (congrArg (va_up M r) (by unfold fX2_changeNumber_P; rw [if_neg c_1, if_pos c_2, if_pos c_9, if_neg c_10, if_neg c_11])) dX2_changeNumber_104
          · --F
            refine lv_iload_n hx hb dX2_changeNumber_84 rfl (lv_at hl 3 rfl) ?_
            refine lv_iconst (v := 0) hx hb dX2_changeNumber_85 (by decide) ?_
            refine lv_bipush (v := 99) hx hb dX2_changeNumber_86 (by decide) ?_
            refine g_callSN (As := [.int b, .int 0, .int 99]) (rest := []) (st1 := [.int (fX6_within_v b 0 99)]) hF (cX6_within _ R O b 0 99) ⟨va_cnB 3 hts gX2_changeNumber_X6_within_n103 rfl rfl rfl hK.2.2.2.2.2.2 k_1 (by decide +kernel) ⟨Nat.le_of_ble_eq_true rfl, Nat.le_of_ble_eq_true rfl⟩, k_2, trivial⟩ hK hZ hG hS rfl hl.1 (Nat.le_of_ble_eq_true rfl) dX2_changeNumber_88 ⟨Nat.le_refl _, Nat.le_refl _⟩ rfl rfl (fun H locs hG hS => ?_)
            refine lv_if_eq (tgt := 102) hx hb dX2_changeNumber_91 (by decide) (fun c_12 => ?_) (fun c_12 => ?_)
            · --T
              refine lv_bipush (v := (-2)) hx hb dX2_changeNumber_102 (by decide) ?_
              exact g_iret hx hb hrt hlocks hS hG (by unfold fX2_changeNumber_v; rw [if_neg c_1, if_pos c_2, if_pos c_9, if_neg c_10, if_pos c_11, if_pos c_12]) (congrArg (va_up M r) (by unfold fX2_changeNumber_P; rw [if_neg c_1, if_pos c_2, if_pos c_9, if_neg c_10, if_pos c_11, if_pos c_12])) dX2_changeNumber_104
            · --F
              refine lv_aload_n hx hb dX2_changeNumber_94 rfl (lv_at hl 1 rfl) ?_
              refine lv_iload_n hx hb dX2_changeNumber_95 rfl (lv_at hl 3 rfl) ?_
              refine gRd_put hx hb hts in_X2 hown hK hG hS hV.1 hV.c0 8 (by decide) k_3 (fun _ h => h) rfl .int (by decide +kernel) rfl rfl (j := 8) rfl dX2_changeNumber_96 (fun H locs hG hS => ?_)
              refine lv_goto (tgt := 105) hx hb dX2_changeNumber_99 (by decide) ?_
              refine lv_iload_n hx hb dX2_changeNumber_105 rfl (lv_at hl 0 rfl) ?_
              exact g_iret hx hb hrt hlocks hS hG (by unfold fX2_changeNumber_v; rw [if_neg c_1, if_pos c_2, if_pos c_9, if_neg c_10, if_pos c_11, if_neg c_12]) (congrArg (va_up M r) (by unfold fX2_changeNumber_P; rw [if_neg c_1, if_pos c_2, if_pos c_9, if_neg c_10, if_pos c_11, if_neg c_12])) dX2_changeNumber_106
        · --F
          refine lv_iload_n hx hb dX2_changeNumber_59 rfl (lv_at hl 3 rfl) ?_
          refine lv_iconst (v := 1) hx hb dX2_changeNumber_60 (by decide) ?_
          refine lv_sipush (v := 200) hx hb dX2_changeNumber_61 (by decide) ?_
          refine g_callSN (As := [.int b, .int 1, .int 200]) (rest := []) (st1 := [.int (fX6_within_v b 1 200)]) hF (cX6_within _ R O b 1 200) ⟨va_cnB 3 hts gX2_changeNumber_X6_within_n103 rfl rfl rfl hK.2.2.2.2.2.2 k_1 (by decide +kernel) ⟨Nat.le_of_ble_eq_true rfl, Nat.le_of_ble_eq_true rfl⟩, k_2, trivial⟩ hK hZ hG hS rfl hl.1 (Nat.le_of_ble_eq_true rfl) dX2_changeNumber_64 ⟨Nat.le_refl _, Nat.le_refl _⟩ rfl rfl (fun H locs hG hS => ?_)
          refine lv_if_eq (tgt := 78) hx hb dX2_changeNumber_67 (by decide) (fun c_13 => ?_) (fun c_13 => ?_)
          · --T
            refine lv_iload_n hx hb dX2_changeNumber_78 rfl (lv_at hl 2 rfl) ?_
            refine lv_bipush (v := 8) hx hb dX2_changeNumber_79 (by decide) ?_
            refine lv_icmp_ne (tgt := 102) hx hb dX2_changeNumber_81 (by decide) (fun c_14 => ?_) (fun c_14 => ?_)
            · --T
              refine lv_bipush (v := (-2)) hx hb dX2_changeNumber_102 (by decide) ?_
              exact g_iret hx hb hrt hlocks hS hG (by unfold fX2_changeNumber_v; rw [if_neg c_1, if_pos c_2, if_pos c_9, if_pos c_10, if_pos c_13, if_neg c_14]) (congrArg (va_up M r) (by unfold fX2_changeNumber_P; rw [if_neg c_1, if_pos c_2, if_pos c_9, if_pos c_10, if_pos c_13, if_neg c_14])) dX2_changeNumber_104
            · --F
              refine lv_iload_n hx hb dX2_changeNumber_84 rfl (lv_at hl 3 rfl) ?_
              refine lv_iconst (v := 0) hx hb dX2_changeNumber_85 (by decide) ?_
              refine lv_bipush (v := 99) hx hb dX2_changeNumber_86 (by decide) ?_
              refine g_callSN (As := [.int b, .int 0, .int 99]) (rest := []) (st1 := [.int (fX6_within_v b 0 99)]) hF (cX6_within _ R O b 0 99) ⟨va_cnB 3 hts gX2_changeNumber_X6_within_n103 rfl rfl rfl hK.2.2.2.2.2.2 k_1 (by decide +kernel) ⟨Nat.le_of_ble_eq_true rfl, Nat.le_of_ble_eq_true rfl⟩, k_2, trivial⟩ hK hZ hG hS rfl hl.1 (Nat.le_of_ble_eq_true rfl) dX2_changeNumber_88 ⟨Nat.le_refl _, Nat.le_refl _⟩ rfl rfl (fun H locs hG hS => ?_)
              refine lv_if_eq (tgt := 102) hx hb dX2_changeNumber_91 (by decide) (fun c_15 => ?_) (fun c_15 => ?_)
              · --T
                refine lv_bipush (v := (-2)) hx hb dX2_changeNumber_102 (by decide) ?_
                exact g_iret hx hb hrt hlocks hS hG (by unfold fX2_changeNumber_v; rw [if_neg c_1, if_pos c_2, if_pos c_9, if_pos c_10, if_pos c_13, if_pos c_14, if_pos c_15]) (congrArg (va_up M r) (by unfold fX2_changeNumber_P; rw [if_neg c_1, if_pos c_2, if_pos c_9, if_pos c_10, if_pos c_13, if_pos c_14, if_pos c_15])) dX2_changeNumber_104
              · --F
                refine lv_aload_n hx hb dX2_changeNumber_94 rfl (lv_at hl 1 rfl) ?_
                refine lv_iload_n hx hb dX2_changeNumber_95 rfl (lv_at hl 3 rfl) ?_
                refine gRd_put hx hb hts in_X2 hown hK hG hS hV.1 hV.c0 8 (by decide) k_3 (fun _ h => h) rfl .int (by decide +kernel) rfl rfl (j := 8) rfl dX2_changeNumber_96 (fun H locs hG hS => ?_)
                refine lv_goto (tgt := 105) hx hb dX2_changeNumber_99 (by decide) ?_
                refine lv_iload_n hx hb dX2_changeNumber_105 rfl (lv_at hl 0 rfl) ?_
                exact g_iret hx hb hrt hlocks hS hG (by unfold fX2_changeNumber_v; rw [if_neg c_1, if_pos c_2, if_pos c_9, if_pos c_10, if_pos c_13, if_pos c_14, if_neg c_15]) (congrArg (va_up M r) (by unfold fX2_changeNumber_P; rw [if_neg c_1, if_pos c_2, if_pos c_9, if_pos c_10, if_pos c_13, if_pos c_14, if_neg c_15])) dX2_changeNumber_106
          · --F
            refine lv_aload_n hx hb dX2_changeNumber_70 rfl (lv_at hl 1 rfl) ?_
            refine lv_iload_n hx hb dX2_changeNumber_71 rfl (lv_at hl 3 rfl) ?_
            refine gRd_put hx hb hts in_X2 hown hK hG hS hV.1 hV.c0 7 (by decide) k_5 (fun _ h => h) rfl .int (by decide +kernel) rfl rfl (j := 7) rfl dX2_changeNumber_72 (fun H locs hG hS => ?_)
            refine lv_goto (tgt := 105) hx hb dX2_changeNumber_75 (by decide) ?_
            refine lv_iload_n hx hb dX2_changeNumber_105 rfl (lv_at hl 0 rfl) ?_
            exact g_iret hx hb hrt hlocks hS hG (by unfold fX2_changeNumber_v; rw [if_neg c_1, if_pos c_2, if_pos c_9, if_pos c_10, if_neg c_13]) (congrArg (va_up M r) (by unfold fX2_changeNumber_P; rw [if_neg c_1, if_pos c_2, if_pos c_9, if_pos c_10, if_neg c_13])) dX2_changeNumber_106
      · --F
        refine lv_aload_n hx hb dX2_changeNumber_45 rfl (lv_at hl 1 rfl) ?_
        refine lv_iload_n hx hb dX2_changeNumber_46 rfl (lv_at hl 3 rfl) ?_
        refine gRd_put hx hb hts in_X2 hown hK hG hS hV.1 hV.c0 6 (by decide) k_6 (fun _ h => h) rfl .int (by decide +kernel) rfl rfl (j := 6) rfl dX2_changeNumber_47 (fun H locs hG hS => ?_)
        refine lv_goto (tgt := 105) hx hb dX2_changeNumber_50 (by decide) ?_
        refine lv_iload_n hx hb dX2_changeNumber_105 rfl (lv_at hl 0 rfl) ?_
        exact g_iret hx hb hrt hlocks hS hG (by unfold fX2_changeNumber_v; rw [if_neg c_1, if_pos c_2, if_neg c_9]) (congrArg (va_up M r) (by unfold fX2_changeNumber_P; rw [if_neg c_1, if_pos c_2, if_neg c_9])) dX2_changeNumber_106
  · --F
    refine lv_iload_n hx hb dX2_changeNumber_11 rfl (lv_at hl 3 rfl) ?_
    refine lv_iconst (v := 0) hx hb dX2_changeNumber_12 (by decide) ?_
    refine lv_bipush (v := 20) hx hb dX2_changeNumber_13 (by decide) ?_
    refine g_callSN (As := [.int b, .int 0, .int 20]) (rest := []) (st1 := [.int (fX6_within_v b 0 20)]) hF (cX6_within _ R O b 0 20) ⟨va_cnB 3 hts gX2_changeNumber_X6_within_n103 rfl rfl rfl hK.2.2.2.2.2.2 k_1 (by decide +kernel) ⟨Nat.le_of_ble_eq_true rfl, Nat.le_of_ble_eq_true rfl⟩, k_2, trivial⟩ hK hZ hG hS rfl hl.1 (Nat.le_of_ble_eq_true rfl) dX2_changeNumber_15 ⟨Nat.le_refl _, Nat.le_refl _⟩ rfl rfl (fun H locs hG hS => ?_)
    refine lv_if_eq (tgt := 29) hx hb dX2_changeNumber_18 (by decide) (fun c_16 => ?_) (fun c_16 => ?_)
    · --T
      refine lv_iload_n hx hb dX2_changeNumber_29 rfl (lv_at hl 2 rfl) ?_
      refine lv_bipush (v := 6) hx hb dX2_changeNumber_30 (by decide) ?_
      refine lv_icmp_ne (tgt := 53) hx hb dX2_changeNumber_32 (by decide) (fun c_17 => ?_) (fun c_17 => ?_)
      · --T
        refine lv_iload_n hx hb dX2_changeNumber_53 rfl (lv_at hl 2 rfl) ?_
        refine lv_bipush (v := 7) hx hb dX2_changeNumber_54 (by decide) ?_
        refine lv_icmp_ne (tgt := 78) hx hb dX2_changeNumber_56 (by decide) (fun c_18 => ?_) (fun c_18 => ?_)
        · --T
          refine lv_iload_n hx hb dX2_changeNumber_78 rfl (lv_at hl 2 rfl) ?_
          refine lv_bipush (v := 8) hx hb dX2_changeNumber_79 (by decide) ?_
          refine lv_icmp_ne (tgt := 102) hx hb dX2_changeNumber_81 (by decide) (fun c_19 => ?_) (fun c_19 => ?_)
          · --T
            refine lv_bipush (v := (-2)) hx hb dX2_changeNumber_102 (by decide) ?_
            exact g_iret hx hb hrt hlocks hS hG (by unfold fX2_changeNumber_v; rw [if_pos c_1, if_pos c_16, if_neg c_17, if_neg c_18, if_neg c_19]) (congrArg (va_up M r) (by unfold fX2_changeNumber_P; rw [if_pos c_1, if_pos c_16, if_neg c_17, if_neg c_18, if_neg c_19])) dX2_changeNumber_104
          · --F
            refine lv_iload_n hx hb dX2_changeNumber_84 rfl (lv_at hl 3 rfl) ?_
            refine lv_iconst (v := 0) hx hb dX2_changeNumber_85 (by decide) ?_
            refine lv_bipush (v := 99) hx hb dX2_changeNumber_86 (by decide) ?_
            refine g_callSN (As := [.int b, .int 0, .int 99]) (rest := []) (st1 := [.int (fX6_within_v b 0 99)]) hF (cX6_within _ R O b 0 99) ⟨va_cnB 3 hts gX2_changeNumber_X6_within_n103 rfl rfl rfl hK.2.2.2.2.2.2 k_1 (by decide +kernel) ⟨Nat.le_of_ble_eq_true rfl, Nat.le_of_ble_eq_true rfl⟩, k_2, trivial⟩ hK hZ hG hS rfl hl.1 (Nat.le_of_ble_eq_true rfl) dX2_changeNumber_88 ⟨Nat.le_refl _, Nat.le_refl _⟩ rfl rfl (fun H locs hG hS => ?_)
            refine lv_if_eq (tgt := 102) hx hb dX2_changeNumber_91 (by decide) (fun c_20 => ?_) (fun c_20 => ?_)
            · --T
              refine lv_bipush (v := (-2)) hx hb dX2_changeNumber_102 (by decide) ?_
              exact g_iret hx hb hrt hlocks hS hG (by unfold fX2_changeNumber_v; rw [if_pos c_1, if_pos c_16, if_neg c_17, if_neg c_18, if_pos c_19, if_pos c_20]) (congrArg (va_up M r) (by unfold fX2_changeNumber_P; rw [if_pos c_1, if_pos c_16, if_neg c_17, if_neg c_18, if_pos c_19, if_pos c_20])) dX2_changeNumber_104
            · --F
              refine lv_aload_n hx hb dX2_changeNumber_94 rfl (lv_at hl 1 rfl) ?_
              refine lv_iload_n hx hb dX2_changeNumber_95 rfl (lv_at hl 3 rfl) ?_
              refine gRd_put hx hb hts in_X2 hown hK hG hS hV.1 hV.c0 8 (by decide) k_3 (fun _ h => h) rfl .int (by decide +kernel) rfl rfl (j := 8) rfl dX2_changeNumber_96 (fun H locs hG hS => ?_)
              refine lv_goto (tgt := 105) hx hb dX2_changeNumber_99 (by decide) ?_
              refine lv_iload_n hx hb dX2_changeNumber_105 rfl (lv_at hl 0 rfl) ?_
              exact g_iret hx hb hrt hlocks hS hG (by unfold fX2_changeNumber_v; rw [if_pos c_1, if_pos c_16, if_neg c_17, if_neg c_18, if_pos c_19, if_neg c_20]) (congrArg (va_up M r) (by unfold fX2_changeNumber_P; rw [if_pos c_1, if_pos c_16, if_neg c_17, if_neg c_18, if_pos c_19, if_neg c_20])) dX2_changeNumber_106
        · --F
          refine lv_iload_n hx hb dX2_changeNumber_59 rfl (lv_at hl 3 rfl) ?_
          refine lv_iconst (v := 1) hx hb dX2_changeNumber_60 (by decide) ?_
          refine lv_sipush (v := 200) hx hb dX2_changeNumber_61 (by decide) ?_
          refine g_callSN (As := [.int b, .int 1, .int 200]) (rest := []) (st1 := [.int (fX6_within_v b 1 200)]) hF (cX6_within _ R O b 1 200) ⟨va_cnB 3 hts gX2_changeNumber_X6_within_n103 rfl rfl rfl hK.2.2.2.2.2.2 k_1 (by decide +kernel) ⟨Nat.le_of_ble_eq_true rfl, Nat.le_of_ble_eq_true rfl⟩, k_2, trivial⟩ hK hZ hG hS rfl hl.1 (Nat.le_of_ble_eq_true rfl) dX2_changeNumber_64 ⟨Nat.le_refl _, Nat.le_refl _⟩ rfl rfl (fun H locs hG hS => ?_)
          refine lv_if_eq (tgt := 78) hx hb dX2_changeNumber_67 (by decide) (fun c_21 => ?_) (fun c_21 => ?_)
          · --T
            refine lv_iload_n hx hb dX2_changeNumber_78 rfl (lv_at hl 2 rfl) ?_
            refine lv_bipush (v := 8) hx hb dX2_changeNumber_79 (by decide) ?_
            refine lv_icmp_ne (tgt := 102) hx hb dX2_changeNumber_81 (by decide) (fun c_22 => ?_) (fun c_22 => ?_)
            · --T
              refine lv_bipush (v := (-2)) hx hb dX2_changeNumber_102 (by decide) ?_
              exact g_iret hx hb hrt hlocks hS hG (by unfold fX2_changeNumber_v; rw [if_pos c_1, if_pos c_16, if_neg c_17, if_pos c_18, if_pos c_21, if_neg c_22]) (congrArg (va_up M r) (by unfold fX2_changeNumber_P; rw [if_pos c_1, if_pos c_16, if_neg c_17, if_pos c_18, if_pos c_21, if_neg c_22])) dX2_changeNumber_104
            · --F
              refine lv_iload_n hx hb dX2_changeNumber_84 rfl (lv_at hl 3 rfl) ?_
              refine lv_iconst (v := 0) hx hb dX2_changeNumber_85 (by decide) ?_
              refine lv_bipush (v := 99) hx hb dX2_changeNumber_86 (by decide) ?_
              refine g_callSN (As := [.int b, .int 0, .int 99]) (rest := []) (st1 := [.int (fX6_within_v b 0 99)]) hF (cX6_within _ R O b 0 99) ⟨va_cnB 3 hts gX2_changeNumber_X6_within_n103 rfl rfl rfl hK.2.2.2.2.2.2 k_1 (by decide +kernel) ⟨Nat.le_of_ble_eq_true rfl, Nat.le_of_ble_eq_true rfl⟩, k_2, trivial⟩ hK hZ hG hS rfl hl.1 (Nat.le_of_ble_eq_true rfl) dX2_changeNumber_88 ⟨Nat.le_refl _, Nat.le_refl _⟩ rfl rfl (fun H locs hG hS => ?_)
              refine lv_if_eq (tgt := 102) hx hb dX2_changeNumber_91 (by decide) (fun c_23 => ?_) (fun c_23 => ?_)
              · --T
                refine lv_bipush (v := (-2)) hx hb dX2_changeNumber_102 (by decide) ?_
                exact g_iret hx hb hrt hlocks hS hG (by unfold fX2_changeNumber_v; rw [if_pos c_1, if_pos c_16, if_neg c_17, if_pos c_18, if_pos c_21, if_pos c_22, if_pos c_23]) (congrArg (va_up M r) (by unfold fX2_changeNumber_P; rw [if_pos c_1, if_pos c_16, if_neg c_17, if_pos c_18, if_pos c_21, if_pos c_22, if_pos c_23])) dX2_changeNumber_104
              · --F
                refine lv_aload_n hx hb dX2_changeNumber_94 rfl (lv_at hl 1 rfl) ?_
                refine lv_iload_n hx hb dX2_changeNumber_95 rfl (lv_at hl 3 rfl) ?_
                refine gRd_put hx hb hts in_X2 hown hK hG hS hV.1 hV.c0 8 (by decide) k_3 (fun _ h => h) rfl .int (by decide +kernel) rfl rfl (j := 8) rfl dX2_changeNumber_96 (fun H locs hG hS => ?_)
                refine lv_goto (tgt := 105) hx hb dX2_changeNumber_99 (by decide) ?_
                refine lv_iload_n hx hb dX2_changeNumber_105 rfl (lv_at hl 0 rfl) ?_
                exact g_iret hx hb hrt hlocks hS hG (by unfold fX2_changeNumber_v; rw [if_pos c_1, if_pos c_16, if_neg c_17, if_pos c_18, if_pos c_21, if_pos c_22, if_neg c_23]) (congrArg (va_up M r) (by unfold fX2_changeNumber_P; rw [if_pos c_1, if_pos c_16, if_neg c_17, if_pos c_18, if_pos c_21, if_pos c_22, if_neg c_23])) dX2_changeNumber_106
          · --F
            refine lv_aload_n hx hb dX2_changeNumber_70 rfl (lv_at hl 1 rfl) ?_
            refine lv_iload_n hx hb dX2_changeNumber_71 rfl (lv_at hl 3 rfl) ?_
            refine gRd_put hx hb hts in_X2 hown hK hG hS hV.1 hV.c0 7 (by decide) k_5 (fun _ h => h) rfl .int (by decide +kernel) rfl rfl (j := 7) rfl dX2_changeNumber_72 (fun H locs hG hS => ?_)
            refine lv_goto (tgt := 105) hx hb dX2_changeNumber_75 (by decide) ?_
            refine lv_iload_n hx hb dX2_changeNumber_105 rfl (lv_at hl 0 rfl) ?_
            exact g_iret hx hb hrt hlocks hS hG (by unfold fX2_changeNumber_v; rw [if_pos c_1, if_pos c_16, if_neg c_17, if_pos c_18, if_neg c_21]) (congrArg (va_up M r) (by unfold fX2_changeNumber_P; rw [if_pos c_1, if_pos c_16, if_neg c_17, if_pos c_18, if_neg c_21])) dX2_changeNumber_106
      · --F
        refine lv_iload_n hx hb dX2_changeNumber_35 rfl (lv_at hl 3 rfl) ?_
        refine lv_iconst (v := 0) hx hb dX2_changeNumber_36 (by decide) ?_
        refine lv_bipush (v := 9) hx hb dX2_changeNumber_37 (by decide) ?_
        refine g_callSN (As := [.int b, .int 0, .int 9]) (rest := []) (st1 := [.int (fX6_within_v b 0 9)]) hF (cX6_within _ R O b 0 9) ⟨va_cnB 3 hts gX2_changeNumber_X6_within_n103 rfl rfl rfl hK.2.2.2.2.2.2 k_1 (by decide +kernel) ⟨Nat.le_of_ble_eq_true rfl, Nat.le_of_ble_eq_true rfl⟩, k_2, trivial⟩ hK hZ hG hS rfl hl.1 (Nat.le_of_ble_eq_true rfl) dX2_changeNumber_39 ⟨Nat.le_refl _, Nat.le_refl _⟩ rfl rfl (fun H locs hG hS => ?_)
        refine lv_if_eq (tgt := 53) hx hb dX2_changeNumber_42 (by decide) (fun c_24 => ?_) (fun c_24 => ?_)
        · --T
          refine lv_iload_n hx hb dX2_changeNumber_53 rfl (lv_at hl 2 rfl) ?_
          refine lv_bipush (v := 7) hx hb dX2_changeNumber_54 (by decide) ?_
          refine lv_icmp_ne (tgt := 78) hx hb dX2_changeNumber_56 (by decide) (fun c_25 => ?_) (fun c_25 => ?_)
          · --T
            refine lv_iload_n hx hb dX2_changeNumber_78 rfl (lv_at hl 2 rfl) ?_
            refine lv_bipush (v := 8) hx hb dX2_changeNumber_79 (by decide) ?_
            refine lv_icmp_ne (tgt := 102) hx hb dX2_changeNumber_81 (by decide) (fun c_26 => ?_) (fun c_26 => ?_)
            · --T
              refine lv_bipush (v := (-2)) hx hb dX2_changeNumber_102 (by decide) ?_
              exact g_iret hx hb hrt hlocks hS hG (by unfold fX2_changeNumber_v; rw [if_pos c_1, if_pos c_16, if_pos c_17, if_pos c_24, if_neg c_25, if_neg c_26]) (congrArg (va_up M r) (by unfold fX2_changeNumber_P; rw [if_pos c_1, if_pos c_16, if_pos c_17, if_pos c_24, if_neg c_25, if_neg c_26])) dX2_changeNumber_104
            · --F
              refine lv_iload_n hx hb dX2_changeNumber_84 rfl (lv_at hl 3 rfl) ?_
              refine lv_iconst (v := 0) hx hb dX2_changeNumber_85 (by decide) ?_
              refine lv_bipush (v := 99) hx hb dX2_changeNumber_86 (by decide) ?_
              refine g_callSN (As := [.int b, .int 0, .int 99]) (rest := []) (st1 := [.int (fX6_within_v b 0 99)]) hF (cX6_within _ R O b 0 99) ⟨va_cnB 3 hts gX2_changeNumber_X6_within_n103 rfl rfl rfl hK.2.2.2.2.2.2 k_1 (by decide +kernel) ⟨Nat.le_of_ble_eq_true rfl, Nat.le_of_ble_eq_true rfl⟩, k_2, trivial⟩ hK hZ hG hS rfl hl.1 (Nat.le_of_ble_eq_true rfl) dX2_changeNumber_88 ⟨Nat.le_refl _, Nat.le_refl _⟩ rfl rfl (fun H locs hG hS => ?_)
              refine lv_if_eq (tgt := 102) hx hb dX2_changeNumber_91 (by decide) (fun c_27 => ?_) (fun c_27 => ?_)
              · --T
                refine lv_bipush (v := (-2)) hx hb dX2_changeNumber_102 (by decide) ?_
                exact g_iret hx hb hrt hlocks hS hG (by unfold fX2_changeNumber_v; rw [if_pos c_1, if_pos c_16, if_pos c_17, if_pos c_24, if_neg c_25, if_pos c_26, if_pos c_27]) (congrArg (va_up M r) (by unfold fX2_changeNumber_P; rw [if_pos c_1, if_pos c_16, if_pos c_17, if_pos c_24, if_neg c_25, if_pos c_26, if_pos c_27])) dX2_changeNumber_104
              · --F
                refine lv_aload_n hx hb dX2_changeNumber_94 rfl (lv_at hl 1 rfl) ?_
                refine lv_iload_n hx hb dX2_changeNumber_95 rfl (lv_at hl 3 rfl) ?_
                refine gRd_put hx hb hts in_X2 hown hK hG hS hV.1 hV.c0 8 (by decide) k_3 (fun _ h => h) rfl .int (by decide +kernel) rfl rfl (j := 8) rfl dX2_changeNumber_96 (fun H locs hG hS => ?_)
                refine lv_goto (tgt := 105) hx hb dX2_changeNumber_99 (by decide) ?_
                refine lv_iload_n hx hb dX2_changeNumber_105 rfl (lv_at hl 0 rfl) ?_
                exact g_iret hx hb hrt hlocks hS hG (by unfold fX2_changeNumber_v; rw [if_pos c_1, if_pos c_16, if_pos c_17, if_pos c_24, if_neg c_25, if_pos c_26, if_neg c_27]) (congrArg (va_up M r) (by unfold fX2_changeNumber_P; rw [if_pos c_1, if_pos c_16, if_pos c_17, if_pos c_24, if_neg c_25, if_pos c_26, if_neg c_27])) dX2_changeNumber_106
          · --F
            refine lv_iload_n hx hb dX2_changeNumber_59 rfl (lv_at hl 3 rfl) ?_
            refine lv_iconst (v := 1) hx hb dX2_changeNumber_60 (by decide) ?_
            refine lv_sipush (v := 200) hx hb dX2_changeNumber_61 (by decide) ?_
            refine g_callSN (As := [.int b, .int 1, .int 200]) (rest := []) (st1 := [.int (fX6_within_v b 1 200)]) hF (cX6_within _ R O b 1 200) ⟨va_cnB 3 hts gX2_changeNumber_X6_within_n103 rfl rfl rfl hK.2.2.2.2.2.2 k_1 (by decide +kernel) ⟨Nat.le_of_ble_eq_true rfl, Nat.le_of_ble_eq_true rfl⟩, k_2, trivial⟩ hK hZ hG hS rfl hl.1 (Nat.le_of_ble_eq_true rfl) dX2_changeNumber_64 ⟨Nat.le_refl _, Nat.le_refl _⟩ rfl rfl (fun H locs hG hS => ?_)
            refine lv_if_eq (tgt := 78) hx hb dX2_changeNumber_67 (by decide) (fun c_28 => ?_) (fun c_28 => ?_)
            · --T
              refine lv_iload_n hx hb dX2_changeNumber_78 rfl (lv_at hl 2 rfl) ?_
              refine lv_bipush (v := 8) hx hb dX2_changeNumber_79 (by decide) ?_
              refine lv_icmp_ne (tgt := 102) hx hb dX2_changeNumber_81 (by decide) (fun c_29 => ?_) (fun c_29 => ?_)
              · --T
                refine lv_bipush (v := (-2)) hx hb dX2_changeNumber_102 (by decide) ?_
                exact g_iret hx hb hrt hlocks hS hG (by unfold fX2_changeNumber_v; rw [if_pos c_1, if_pos c_16, if_pos c_17, if_pos c_24, if_pos c_25, if_pos c_28, if_neg c_29]) (congrArg (va_up M r) (by unfold fX2_changeNumber_P; rw [if_pos c_1, if_pos c_16, if_pos c_17, if_pos c_24, if_pos c_25, if_pos c_28, if_neg c_29])) dX2_changeNumber_104
              · --F
                refine lv_iload_n hx hb dX2_changeNumber_84 rfl (lv_at hl 3 rfl) ?_
                refine lv_iconst (v := 0) hx hb dX2_changeNumber_85 (by decide) ?_
                refine lv_bipush (v := 99) hx hb dX2_changeNumber_86 (by decide) ?_
                refine g_callSN (As := [.int b, .int 0, .int 99]) (rest := []) (st1 := [.int (fX6_within_v b 0 99)]) hF (cX6_within _ R O b 0 99) ⟨va_cnB 3 hts gX2_changeNumber_X6_within_n103 rfl rfl rfl hK.2.2.2.2.2.2 k_1 (by decide +kernel) ⟨Nat.le_of_ble_eq_true rfl, Nat.le_of_ble_eq_true rfl⟩, k_2, trivial⟩ hK hZ hG hS rfl hl.1 (Nat.le_of_ble_eq_true rfl) dX2_changeNumber_88 ⟨Nat.le_refl _, Nat.le_refl _⟩ rfl rfl (fun H locs hG hS => ?_)
                refine lv_if_eq (tgt := 102) hx hb dX2_changeNumber_91 (by decide) (fun c_30 => ?_) (fun c_30 => ?_)
                · --T
                  refine lv_bipush (v := (-2)) hx hb dX2_changeNumber_102 (by decide) ?_
                  exact g_iret hx hb hrt hlocks hS hG (by unfold fX2_changeNumber_v; rw [if_pos c_1, if_pos c_16, if_pos c_17, if_pos c_24, if_pos c_25, if_pos c_28, if_pos c_29, if_pos c_30]) (congrArg (va_up M r) (by unfold fX2_changeNumber_P; rw [if_pos c_1, if_pos c_16, if_pos c_17, if_pos c_24, if_pos c_25, if_pos c_28, if_pos c_29, if_pos c_30])) dX2_changeNumber_104
                · --F
                  refine lv_aload_n hx hb dX2_changeNumber_94 rfl (lv_at hl 1 rfl) ?_
                  refine lv_iload_n hx hb dX2_changeNumber_95 rfl (lv_at hl 3 rfl) ?_
                  refine gRd_put hx hb hts in_X2 hown hK hG hS hV.1 hV.c0 8 (by decide) k_3 (fun _ h => h) rfl .int (by decide +kernel) rfl rfl (j := 8) rfl dX2_changeNumber_96 (fun H locs hG hS => ?_)
                  refine lv_goto (tgt := 105) hx hb dX2_changeNumber_99 (by decide) ?_
                  refine lv_iload_n hx hb dX2_changeNumber_105 rfl (lv_at hl 0 rfl) ?_
                  exact g_iret hx hb hrt hlocks hS hG (by unfold fX2_changeNumber_v; rw [if_pos c_1, if_pos c_16, if_pos c_17, if_pos c_24, if_pos c_25, if_pos c_28, if_pos c_29, if_neg c_30]) (congrArg (va_up M r) (by unfold fX2_changeNumber_P; rw [if_pos c_1, if_pos c_16, if_pos c_17, if_pos c_24, if_pos c_25, if_pos c_28, if_pos c_29, if_neg c_30])) dX2_changeNumber_106
            · --F
              refine lv_aload_n hx hb dX2_changeNumber_70 rfl (lv_at hl 1 rfl) ?_
              refine lv_iload_n hx hb dX2_changeNumber_71 rfl (lv_at hl 3 rfl) ?_
              refine gRd_put hx hb hts in_X2 hown hK hG hS hV.1 hV.c0 7 (by decide) k_5 (fun _ h => h) rfl .int (by decide +kernel) rfl rfl (j := 7) rfl dX2_changeNumber_72 (fun H locs hG hS => ?_)
              refine lv_goto (tgt := 105) hx hb dX2_changeNumber_75 (by decide) ?_
              refine lv_iload_n hx hb dX2_changeNumber_105 rfl (lv_at hl 0 rfl) ?_
              exact g_iret hx hb hrt hlocks hS hG (by unfold fX2_changeNumber_v; rw [if_pos c_1, if_pos c_16, if_pos c_17, if_pos c_24, if_pos c_25, if_neg c_28]) (congrArg (va_up M r) (by unfold fX2_changeNumber_P; rw [if_pos c_1, if_pos c_16, if_pos c_17, if_pos c_24, if_pos c_25, if_neg c_28])) dX2_changeNumber_106
        · --F
          refine lv_aload_n hx hb dX2_changeNumber_45 rfl (lv_at hl 1 rfl) ?_
          refine lv_iload_n hx hb dX2_changeNumber_46 rfl (lv_at hl 3 rfl) ?_
          refine gRd_put hx hb hts in_X2 hown hK hG hS hV.1 hV.c0 6 (by decide) k_6 (fun _ h => h) rfl .int (by decide +kernel) rfl rfl (j := 6) rfl dX2_changeNumber_47 (fun H locs hG hS => ?_)
          refine lv_goto (tgt := 105) hx hb dX2_changeNumber_50 (by decide) ?_
          refine lv_iload_n hx hb dX2_changeNumber_105 rfl (lv_at hl 0 rfl) ?_
          exact g_iret hx hb hrt hlocks hS hG (by unfold fX2_changeNumber_v; rw [if_pos c_1, if_pos c_16, if_pos c_17, if_neg c_24]) (congrArg (va_up M r) (by unfold fX2_changeNumber_P; rw [if_pos c_1, if_pos c_16, if_pos c_17, if_neg c_24])) dX2_changeNumber_106
    · --F
      refine lv_aload_n hx hb dX2_changeNumber_21 rfl (lv_at hl 1 rfl) ?_
      refine lv_iload_n hx hb dX2_changeNumber_22 rfl (lv_at hl 3 rfl) ?_
      refine gRd_put hx hb hts in_X2 hown hK hG hS hV.1 hV.c0 5 (by decide) k_7 (fun _ h => h) rfl .int (by decide +kernel) rfl rfl (j := 5) rfl dX2_changeNumber_23 (fun H locs hG hS => ?_)
      refine lv_goto (tgt := 105) hx hb dX2_changeNumber_26 (by decide) ?_
      refine lv_iload_n hx hb dX2_changeNumber_105 rfl (lv_at hl 0 rfl) ?_
      exact g_iret hx hb hrt hlocks hS hG (by unfold fX2_changeNumber_v; rw [if_pos c_1, if_neg c_16]) (congrArg (va_up M r) (by unfold fX2_changeNumber_P; rw [if_pos c_1, if_neg c_16])) dX2_changeNumber_106

def fX2_moveWagon_v (P : Nat → Int32) (a b : Int32) : Int32 := if okI a (P 2) 3 then if okI b (P 0) 10 then if (fX5_wayTo_v P a.toNatClampNeg b) ≤ (P (122 + 3 * a.toNatClampNeg + 2)) then (upd (upd P (122 + 3 * a.toNatClampNeg + 2) ((P (122 + 3 * a.toNatClampNeg + 2)) - (fX5_wayTo_v P a.toNatClampNeg b))) (122 + 3 * a.toNatClampNeg) b) (122 + 3 * a.toNatClampNeg + 2) else (-3) else (-1) else (-1)
def fX2_moveWagon_P (P : Nat → Int32) (a b : Int32) : Nat → Int32 := if okI a (P 2) 3 then if okI b (P 0) 10 then if (fX5_wayTo_v P a.toNatClampNeg b) ≤ (P (122 + 3 * a.toNatClampNeg + 2)) then upd (upd P (122 + 3 * a.toNatClampNeg + 2) ((P (122 + 3 * a.toNatClampNeg + 2)) - (fX5_wayTo_v P a.toNatClampNeg b))) (122 + 3 * a.toNatClampNeg) b else P else P else P
set_option maxHeartbeats 4000000 in
set_option maxRecDepth 100000 in
theorem cX2_moveWagon {l : Launch} {Γ : gX} (M : Nat → Nat → Int32) (R : Nat → Nat → Option Nat) (O : Int64) {r : Nat} (hV : LV Γ R r) (P : Nat → Int32) (a b : Int32) : gMet l Γ yX2_moveWagon wsX2_moveWagon 2 42 [.ref (gad Γ (25 * r)), .int a, .int b] (va_up M r P) R O (some (.int (fX2_moveWagon_v P a b))) (va_up M r (fX2_moveWagon_P P a b)) R O := by
  refine g_start (cc := cX2_moveWagon) (maxL := 5) (ret := (some .int)) (by decide) rfl (by decide) ?_
  intro p e s m below meth c ls hx hb hml hrt hts hown hlocks hname hK hZ hG hS hl
  have hl : lv_has ls 5 [(0, .ref (gad Γ (25 * r))), (1, .int a), (2, .int b)] := hl
  have hown : s.vm.findClass RX2 = some m.cls := hown
  have hF : CallFix p m c cX2_moveWagon 5 s _ wsX2_moveWagon RX2 := ⟨hx, hb, hml, hown, hts⟩
  have k_1 : (Cond.fieldLink RX2 131 "RoadDust$Wagon" "moves" "I").before _ s = true := hts _ (by decide +kernel)
  have in_X5 : ∀ w ∈ wsX50, w ∈ wsX2_moveWagon := by decide +kernel
  have k_3 : (Cond.fieldLink RX2 134 "RoadDust$Wagon" "segment" "I").before _ s = true := hts _ (by decide +kernel)
  refine lv_aload_n hx hb dX2_moveWagon_0 rfl (lv_at hl 0 rfl) ?_
  refine lv_iload_n hx hb dX2_moveWagon_1 rfl (lv_at hl 1 rfl) ?_
  by_cases c_1 : okI a (P 2) 3
  · --ok
    refine g_callV (As := [.int a]) (rest := []) (st1 := [.ref (gad Γ (25 * r + 22 + a.toNatClampNeg))]) hF (cX2_wagonAt_y M R O hV P c_1 (j := a.toNatClampNeg) rfl) (cwV 1 hts gX2_moveWagon_X2_wagonAt rfl rfl rfl (by decide +kernel) ⟨Nat.le_of_ble_eq_true rfl, Nat.le_of_ble_eq_true rfl⟩) hK hZ hG hS hV.c0 (gC_Rd hV.1) (by decide) rfl rfl hl.1 (Nat.le_of_ble_eq_true rfl) dX2_moveWagon_2 ⟨Nat.le_refl _, Nat.le_refl _⟩ rfl rfl (fun H locs hG hS => ?_)
    refine lv_astore_n (lv' := [(3, .ref (gad Γ (25 * r + 22 + a.toNatClampNeg))), (0, .ref (gad Γ (25 * r))), (1, .int a), (2, .int b)]) hx hb dX2_moveWagon_5 rfl hl (by decide) rfl (fun ls hl => ?_)
    refine lv_aload_n hx hb dX2_moveWagon_6 rfl (lv_at hl 0 rfl) ?_
    refine lv_ifnull hx hb dX2_moveWagon_7 ?_
    refine lv_aload_n hx hb dX2_moveWagon_10 rfl (lv_at hl 1 rfl) ?_
    refine lv_iload_n hx hb dX2_moveWagon_11 rfl (lv_at hl 3 rfl) ?_
    by_cases c_2 : okI b (P 0) 10
    · --ok
      refine g_callV (As := [.int b]) (rest := []) (st1 := [.ref (gad Γ (25 * r + 4 + b.toNatClampNeg))]) hF (cX2_segmentAt_y M R O hV P c_2 (j := b.toNatClampNeg) rfl) (cwV 1 hts gX2_moveWagon_X2_segmentAt rfl rfl rfl (by decide +kernel) ⟨Nat.le_of_ble_eq_true rfl, Nat.le_of_ble_eq_true rfl⟩) hK hZ hG hS hV.c0 (gC_Rd hV.1) (by decide) rfl rfl hl.1 (Nat.le_of_ble_eq_true rfl) dX2_moveWagon_12 ⟨Nat.le_refl _, Nat.le_refl _⟩ rfl rfl (fun H locs hG hS => ?_)
      refine lv_ifnonnull (tgt := 20) hx hb dX2_moveWagon_15 (by decide) ?_
      refine lv_aload_n hx hb dX2_moveWagon_20 rfl (lv_at hl 0 rfl) ?_
      refine lv_iload_n hx hb dX2_moveWagon_21 rfl (lv_at hl 3 rfl) ?_
      refine g_callV (As := [.int b]) (rest := []) (st1 := [.int (fX5_wayTo_v P a.toNatClampNeg b)]) hF (cX5_wayTo M R O hV.1 (okI_lt (k := 3) rfl (by decide) c_1) (hV.wag (i := a.toNatClampNeg) (okI_lt (k := 3) rfl (by decide) c_1)) P b) (cwV 1 hts gX2_moveWagon_X5_wayTo rfl rfl rfl (by decide +kernel) ⟨Nat.le_of_ble_eq_true rfl, Nat.le_of_ble_eq_true rfl⟩) hK hZ hG hS (hV.wag (i := a.toNatClampNeg) (okI_lt (k := 3) rfl (by decide) c_1)) (gC_Wg hV.1 (okI_lt (k := 3) rfl (by decide) c_1)) (by decide) rfl rfl hl.1 (Nat.le_of_ble_eq_true rfl) dX2_moveWagon_22 ⟨Nat.le_refl _, Nat.le_refl _⟩ rfl rfl (fun H locs hG hS => ?_)
      refine lv_istore (lv' := [(4, .int (fX5_wayTo_v P a.toNatClampNeg b)), (3, .ref (gad Γ (25 * r + 22 + a.toNatClampNeg))), (0, .ref (gad Γ (25 * r))), (1, .int a), (2, .int b)]) hx hb dX2_moveWagon_25 hl (by decide) rfl (fun ls hl => ?_)
      refine lv_iload hx hb dX2_moveWagon_27 (lv_at hl 0 rfl) ?_
      refine lv_aload_n hx hb dX2_moveWagon_29 rfl (lv_at hl 1 rfl) ?_
      refine gWg_get hx hb hts in_X5 hown hK hG hV.1 (okI_lt (k := 3) rfl (by decide) c_1) (hV.wag (i := a.toNatClampNeg) (okI_lt (k := 3) rfl (by decide) c_1)) 2 (by decide) k_1 (fun _ h => h) (j := 122 + 3 * a.toNatClampNeg + 2) rfl dX2_moveWagon_30 ?_
      refine lv_icmp_le (tgt := 39) hx hb dX2_moveWagon_33 (by decide) (fun c_3 => ?_) (fun c_3 => ?_)
      · --T
        refine lv_aload_n hx hb dX2_moveWagon_39 rfl (lv_at hl 1 rfl) ?_
        refine lv_dup hx hb dX2_moveWagon_40 rfl ?_
        refine gWg_get hx hb hts in_X5 hown hK hG hV.1 (okI_lt (k := 3) rfl (by decide) c_1) (hV.wag (i := a.toNatClampNeg) (okI_lt (k := 3) rfl (by decide) c_1)) 2 (by decide) k_1 (fun _ h => h) (j := 122 + 3 * a.toNatClampNeg + 2) rfl dX2_moveWagon_41 ?_
        refine lv_iload hx hb dX2_moveWagon_44 (lv_at hl 0 rfl) ?_
        refine lv_isub hx hb dX2_moveWagon_46 ?_
        refine gWg_put hx hb hts in_X5 hown hK hG hS hV.1 (okI_lt (k := 3) rfl (by decide) c_1) (hV.wag (i := a.toNatClampNeg) (okI_lt (k := 3) rfl (by decide) c_1)) 2 (by decide) k_1 (fun _ h => h) rfl .int (by decide +kernel) rfl rfl (j := 122 + 3 * a.toNatClampNeg + 2) rfl dX2_moveWagon_47 (fun H locs hG hS => ?_)
        refine lv_aload_n hx hb dX2_moveWagon_50 rfl (lv_at hl 1 rfl) ?_
        refine lv_iload_n hx hb dX2_moveWagon_51 rfl (lv_at hl 4 rfl) ?_
        refine gWg_put hx hb hts in_X5 hown hK hG hS hV.1 (okI_lt (k := 3) rfl (by decide) c_1) (hV.wag (i := a.toNatClampNeg) (okI_lt (k := 3) rfl (by decide) c_1)) 0 (by decide) k_3 (fun _ h => h) rfl .int (by decide +kernel) rfl rfl (j := 122 + 3 * a.toNatClampNeg) rfl dX2_moveWagon_52 (fun H locs hG hS => ?_)
        refine lv_aload_n hx hb dX2_moveWagon_55 rfl (lv_at hl 1 rfl) ?_
        refine gWg_get hx hb hts in_X5 hown hK hG hV.1 (okI_lt (k := 3) rfl (by decide) c_1) (hV.wag (i := a.toNatClampNeg) (okI_lt (k := 3) rfl (by decide) c_1)) 2 (by decide) k_1 (fun _ h => h) (j := 122 + 3 * a.toNatClampNeg + 2) rfl dX2_moveWagon_56 ?_
        exact g_iret hx hb hrt hlocks hS hG (by unfold fX2_moveWagon_v; rw [if_pos c_1, if_pos c_2, if_pos c_3]) (congrArg (va_up M r) (by unfold fX2_moveWagon_P; rw [if_pos c_1, if_pos c_2, if_pos c_3])) dX2_moveWagon_59
      · --F
        refine lv_bipush (v := (-3)) hx hb dX2_moveWagon_36 (by decide) ?_
        exact g_iret hx hb hrt hlocks hS hG (by unfold fX2_moveWagon_v; rw [if_pos c_1, if_pos c_2, if_neg c_3]) (congrArg (va_up M r) (by unfold fX2_moveWagon_P; rw [if_pos c_1, if_pos c_2, if_neg c_3])) dX2_moveWagon_38
    · --none
      refine g_callV (As := [.int b]) (rest := []) (st1 := [.null]) hF (cX2_segmentAt_n M R O hV P c_2) (cwV 1 hts gX2_moveWagon_X2_segmentAt rfl rfl rfl (by decide +kernel) ⟨Nat.le_of_ble_eq_true rfl, Nat.le_of_ble_eq_true rfl⟩) hK hZ hG hS hV.c0 (gC_Rd hV.1) (by decide) rfl rfl hl.1 (Nat.le_of_ble_eq_true rfl) dX2_moveWagon_12 ⟨Nat.le_refl _, Nat.le_refl _⟩ rfl rfl (fun H locs hG hS => ?_)
      refine lv_ifnonnullN hx hb dX2_moveWagon_15 ?_
      refine lv_iconst (v := (-1)) hx hb dX2_moveWagon_18 (by decide) ?_
      exact g_iret hx hb hrt hlocks hS hG (by unfold fX2_moveWagon_v; rw [if_pos c_1, if_neg c_2]) (congrArg (va_up M r) (by unfold fX2_moveWagon_P; rw [if_pos c_1, if_neg c_2])) dX2_moveWagon_19
  · --none
    refine g_callV (As := [.int a]) (rest := []) (st1 := [.null]) hF (cX2_wagonAt_n M R O hV P c_1) (cwV 1 hts gX2_moveWagon_X2_wagonAt rfl rfl rfl (by decide +kernel) ⟨Nat.le_of_ble_eq_true rfl, Nat.le_of_ble_eq_true rfl⟩) hK hZ hG hS hV.c0 (gC_Rd hV.1) (by decide) rfl rfl hl.1 (Nat.le_of_ble_eq_true rfl) dX2_moveWagon_2 ⟨Nat.le_refl _, Nat.le_refl _⟩ rfl rfl (fun H locs hG hS => ?_)
    refine lv_astore_nN (lv' := [(3, .null), (0, .ref (gad Γ (25 * r))), (1, .int a), (2, .int b)]) hx hb dX2_moveWagon_5 rfl hl (by decide) rfl (fun ls hl => ?_)
    refine lv_aload_nN hx hb dX2_moveWagon_6 rfl (lv_at hl 0 rfl) ?_
    refine lv_ifnullN (tgt := 18) hx hb dX2_moveWagon_7 (by decide) ?_
    refine lv_iconst (v := (-1)) hx hb dX2_moveWagon_18 (by decide) ?_
    exact g_iret hx hb hrt hlocks hS hG (by unfold fX2_moveWagon_v; rw [if_neg c_1]) (congrArg (va_up M r) (by unfold fX2_moveWagon_P; rw [if_neg c_1])) dX2_moveWagon_19

def fX2_sprayFrom_v (P : Nat → Int32) (a b : Int32) : Int32 := if okI a (P 2) 3 then if okI (P (122 + 3 * a.toNatClampNeg)) (P 0) 10 then if (fX6_within_v b 1 9) = 0 then (-2) else if (fX5_couldSpray_v P a.toNatClampNeg (P (122 + 3 * a.toNatClampNeg)) b) = 0 then (-3) else (fX3_wet_P (upd (upd (upd P (122 + 3 * a.toNatClampNeg + 2) ((P (122 + 3 * a.toNatClampNeg + 2)) - 1)) (122 + 3 * a.toNatClampNeg + 1) (((upd P (122 + 3 * a.toNatClampNeg + 2) ((P (122 + 3 * a.toNatClampNeg + 2)) - 1)) (122 + 3 * a.toNatClampNeg + 1)) - b)) 11 (((upd (upd P (122 + 3 * a.toNatClampNeg + 2) ((P (122 + 3 * a.toNatClampNeg + 2)) - 1)) (122 + 3 * a.toNatClampNeg + 1) (((upd P (122 + 3 * a.toNatClampNeg + 2) ((P (122 + 3 * a.toNatClampNeg + 2)) - 1)) (122 + 3 * a.toNatClampNeg + 1)) - b)) 11) + b)) ((P (122 + 3 * a.toNatClampNeg)).toNatClampNeg) b) (12 + 7 * ((P (122 + 3 * a.toNatClampNeg)).toNatClampNeg) + 4) else (-1) else (-1)
def fX2_sprayFrom_P (P : Nat → Int32) (a b : Int32) : Nat → Int32 := if okI a (P 2) 3 then if okI (P (122 + 3 * a.toNatClampNeg)) (P 0) 10 then if (fX6_within_v b 1 9) = 0 then P else if (fX5_couldSpray_v P a.toNatClampNeg (P (122 + 3 * a.toNatClampNeg)) b) = 0 then P else fX3_wet_P (upd (upd (upd P (122 + 3 * a.toNatClampNeg + 2) ((P (122 + 3 * a.toNatClampNeg + 2)) - 1)) (122 + 3 * a.toNatClampNeg + 1) (((upd P (122 + 3 * a.toNatClampNeg + 2) ((P (122 + 3 * a.toNatClampNeg + 2)) - 1)) (122 + 3 * a.toNatClampNeg + 1)) - b)) 11 (((upd (upd P (122 + 3 * a.toNatClampNeg + 2) ((P (122 + 3 * a.toNatClampNeg + 2)) - 1)) (122 + 3 * a.toNatClampNeg + 1) (((upd P (122 + 3 * a.toNatClampNeg + 2) ((P (122 + 3 * a.toNatClampNeg + 2)) - 1)) (122 + 3 * a.toNatClampNeg + 1)) - b)) 11) + b)) ((P (122 + 3 * a.toNatClampNeg)).toNatClampNeg) b else P else P
set_option maxHeartbeats 4000000 in
set_option maxRecDepth 100000 in
theorem cX2_sprayFrom {l : Launch} {Γ : gX} (M : Nat → Nat → Int32) (R : Nat → Nat → Option Nat) (O : Int64) {r : Nat} (hV : LV Γ R r) (P : Nat → Int32) (a b : Int32) : gMet l Γ yX2_sprayFrom wsX2_sprayFrom 3 64 [.ref (gad Γ (25 * r)), .int a, .int b] (va_up M r P) R O (some (.int (fX2_sprayFrom_v P a b))) (va_up M r (fX2_sprayFrom_P P a b)) R O := by
  refine g_start (cc := cX2_sprayFrom) (maxL := 5) (ret := (some .int)) (by decide) rfl (by decide) ?_
  intro p e s m below meth c ls hx hb hml hrt hts hown hlocks hname hK hZ hG hS hl
  have hl : lv_has ls 5 [(0, .ref (gad Γ (25 * r))), (1, .int a), (2, .int b)] := hl
  have hown : s.vm.findClass RX2 = some m.cls := hown
  have hF : CallFix p m c cX2_sprayFrom 5 s _ wsX2_sprayFrom RX2 := ⟨hx, hb, hml, hown, hts⟩
  have k_1 : (Cond.fieldLink RX2 134 "RoadDust$Wagon" "segment" "I").before _ s = true := hts _ (by decide +kernel)
  have in_X5 : ∀ w ∈ wsX50, w ∈ wsX2_sprayFrom := by decide +kernel
  have k_3 : (Cond.initialized RX6).before _ s = true := hts _ (by decide +kernel)
  have k_4 : (Cond.static yX6_within).before _ s = true := hts _ (by decide +kernel)
  have k_5 : (Cond.fieldLink RX2 131 "RoadDust$Wagon" "moves" "I").before _ s = true := hts _ (by decide +kernel)
  have k_6 : (Cond.fieldLink RX2 141 "RoadDust$Wagon" "liters" "I").before _ s = true := hts _ (by decide +kernel)
  have k_7 : (Cond.fieldLink RX2 69 "RoadDust$Road" "sprayed" "I").before _ s = true := hts _ (by decide +kernel)
  have in_X2 : ∀ w ∈ wsX20, w ∈ wsX2_sprayFrom := by decide +kernel
  have k_9 : (Cond.fieldLink RX2 147 "RoadDust$Segment" "water" "I").before _ s = true := hts _ (by decide +kernel)
  have in_X3 : ∀ w ∈ wsX30, w ∈ wsX2_sprayFrom := by decide +kernel
  refine lv_aload_n hx hb dX2_sprayFrom_0 rfl (lv_at hl 0 rfl) ?_
  refine lv_iload_n hx hb dX2_sprayFrom_1 rfl (lv_at hl 1 rfl) ?_
  by_cases c_1 : okI a (P 2) 3
  · --ok
    refine g_callV (As := [.int a]) (rest := []) (st1 := [.ref (gad Γ (25 * r + 22 + a.toNatClampNeg))]) hF (cX2_wagonAt_y M R O hV P c_1 (j := a.toNatClampNeg) rfl) (cwV 1 hts gX2_sprayFrom_X2_wagonAt rfl rfl rfl (by decide +kernel) ⟨Nat.le_of_ble_eq_true rfl, Nat.le_of_ble_eq_true rfl⟩) hK hZ hG hS hV.c0 (gC_Rd hV.1) (by decide) rfl rfl hl.1 (Nat.le_of_ble_eq_true rfl) dX2_sprayFrom_2 ⟨Nat.le_refl _, Nat.le_refl _⟩ rfl rfl (fun H locs hG hS => ?_)
    refine lv_astore_n (lv' := [(3, .ref (gad Γ (25 * r + 22 + a.toNatClampNeg))), (0, .ref (gad Γ (25 * r))), (1, .int a), (2, .int b)]) hx hb dX2_sprayFrom_5 rfl hl (by decide) rfl (fun ls hl => ?_)
    refine lv_aload_n hx hb dX2_sprayFrom_6 rfl (lv_at hl 0 rfl) ?_
    refine lv_ifnonnull (tgt := 14) hx hb dX2_sprayFrom_7 (by decide) ?_
    refine lv_aload_n hx hb dX2_sprayFrom_14 rfl (lv_at hl 1 rfl) ?_
    refine lv_aload_n hx hb dX2_sprayFrom_15 rfl (lv_at hl 0 rfl) ?_
    refine gWg_get hx hb hts in_X5 hown hK hG hV.1 (okI_lt (k := 3) rfl (by decide) c_1) (hV.wag (i := a.toNatClampNeg) (okI_lt (k := 3) rfl (by decide) c_1)) 0 (by decide) k_1 (fun _ h => h) (j := 122 + 3 * a.toNatClampNeg) rfl dX2_sprayFrom_16 ?_
    by_cases c_2 : okI (P (122 + 3 * a.toNatClampNeg)) (P 0) 10
    · --ok
      refine g_callV (As := [.int (P (122 + 3 * a.toNatClampNeg))]) (rest := []) (st1 := [.ref (gad Γ (25 * r + 4 + ((P (122 + 3 * a.toNatClampNeg)).toNatClampNeg)))]) hF (cX2_segmentAt_y M R O hV P c_2 (j := (P (122 + 3 * a.toNatClampNeg)).toNatClampNeg) rfl) (cwV 1 hts gX2_sprayFrom_X2_segmentAt rfl rfl rfl (by decide +kernel) ⟨Nat.le_of_ble_eq_true rfl, Nat.le_of_ble_eq_true rfl⟩) hK hZ hG hS hV.c0 (gC_Rd hV.1) (by decide) rfl rfl hl.1 (Nat.le_of_ble_eq_true rfl) dX2_sprayFrom_19 ⟨Nat.le_refl _, Nat.le_refl _⟩ rfl rfl (fun H locs hG hS => ?_)
      refine lv_astore (lv' := [(4, .ref (gad Γ (25 * r + 4 + ((P (122 + 3 * a.toNatClampNeg)).toNatClampNeg)))), (3, .ref (gad Γ (25 * r + 22 + a.toNatClampNeg))), (0, .ref (gad Γ (25 * r))), (1, .int a), (2, .int b)]) hx hb dX2_sprayFrom_22 hl (by decide) rfl (fun ls hl => ?_)
      refine lv_aload_n hx hb dX2_sprayFrom_24 rfl (lv_at hl 1 rfl) ?_
      refine lv_ifnull hx hb dX2_sprayFrom_25 ?_
      refine lv_aload hx hb dX2_sprayFrom_28 (lv_at hl 0 rfl) ?_
      refine lv_ifnonnull (tgt := 35) hx hb dX2_sprayFrom_30 (by decide) ?_
      refine lv_iload_n hx hb dX2_sprayFrom_35 rfl (lv_at hl 4 rfl) ?_
      refine lv_iconst (v := 1) hx hb dX2_sprayFrom_36 (by decide) ?_
      refine lv_bipush (v := 9) hx hb dX2_sprayFrom_37 (by decide) ?_
      refine g_callSN (As := [.int b, .int 1, .int 9]) (rest := []) (st1 := [.int (fX6_within_v b 1 9)]) hF (cX6_within _ R O b 1 9) ⟨va_cnB 3 hts gX2_sprayFrom_X6_within_n103 rfl rfl rfl hK.2.2.2.2.2.2 k_3 (by decide +kernel) ⟨Nat.le_of_ble_eq_true rfl, Nat.le_of_ble_eq_true rfl⟩, k_4, trivial⟩ hK hZ hG hS rfl hl.1 (Nat.le_of_ble_eq_true rfl) dX2_sprayFrom_39 ⟨Nat.le_refl _, Nat.le_refl _⟩ rfl rfl (fun H locs hG hS => ?_)
      refine lv_if_ne (tgt := 48) hx hb dX2_sprayFrom_42 (by decide) (fun c_3 => ?_) (fun c_3 => ?_)
      · --T
        refine lv_aload_n hx hb dX2_sprayFrom_48 rfl (lv_at hl 1 rfl) ?_
        refine lv_aload_n hx hb dX2_sprayFrom_49 rfl (lv_at hl 1 rfl) ?_
        refine gWg_get hx hb hts in_X5 hown hK hG hV.1 (okI_lt (k := 3) rfl (by decide) c_1) (hV.wag (i := a.toNatClampNeg) (okI_lt (k := 3) rfl (by decide) c_1)) 0 (by decide) k_1 (fun _ h => h) (j := 122 + 3 * a.toNatClampNeg) rfl dX2_sprayFrom_50 ?_
        refine lv_iload_n hx hb dX2_sprayFrom_53 rfl (lv_at hl 4 rfl) ?_
        refine g_callV (As := [.int (P (122 + 3 * a.toNatClampNeg)), .int b]) (rest := []) (st1 := [.int (fX5_couldSpray_v P a.toNatClampNeg (P (122 + 3 * a.toNatClampNeg)) b)]) hF (cX5_couldSpray M R O hV.1 (okI_lt (k := 3) rfl (by decide) c_1) (hV.wag (i := a.toNatClampNeg) (okI_lt (k := 3) rfl (by decide) c_1)) P (P (122 + 3 * a.toNatClampNeg)) b) (cwV 2 hts gX2_sprayFrom_X5_couldSpray rfl rfl rfl (by decide +kernel) ⟨Nat.le_of_ble_eq_true rfl, Nat.le_of_ble_eq_true rfl⟩) hK hZ hG hS (hV.wag (i := a.toNatClampNeg) (okI_lt (k := 3) rfl (by decide) c_1)) (gC_Wg hV.1 (okI_lt (k := 3) rfl (by decide) c_1)) (by decide) rfl rfl hl.1 (Nat.le_of_ble_eq_true rfl) dX2_sprayFrom_54 ⟨Nat.le_refl _, Nat.le_refl _⟩ rfl rfl (fun H locs hG hS => ?_)
        refine lv_if_ne (tgt := 63) hx hb dX2_sprayFrom_57 (by decide) (fun c_4 => ?_) (fun c_4 => ?_)
        · --T
          refine lv_aload_n hx hb dX2_sprayFrom_63 rfl (lv_at hl 1 rfl) ?_
          refine lv_dup hx hb dX2_sprayFrom_64 rfl ?_
          refine gWg_get hx hb hts in_X5 hown hK hG hV.1 (okI_lt (k := 3) rfl (by decide) c_1) (hV.wag (i := a.toNatClampNeg) (okI_lt (k := 3) rfl (by decide) c_1)) 2 (by decide) k_5 (fun _ h => h) (j := 122 + 3 * a.toNatClampNeg + 2) rfl dX2_sprayFrom_65 ?_
          refine lv_iconst (v := 1) hx hb dX2_sprayFrom_68 (by decide) ?_
          refine lv_isub hx hb dX2_sprayFrom_69 ?_
          refine gWg_put hx hb hts in_X5 hown hK hG hS hV.1 (okI_lt (k := 3) rfl (by decide) c_1) (hV.wag (i := a.toNatClampNeg) (okI_lt (k := 3) rfl (by decide) c_1)) 2 (by decide) k_5 (fun _ h => h) rfl .int (by decide +kernel) rfl rfl (j := 122 + 3 * a.toNatClampNeg + 2) rfl dX2_sprayFrom_70 (fun H locs hG hS => ?_)
          refine lv_aload_n hx hb dX2_sprayFrom_73 rfl (lv_at hl 1 rfl) ?_
          refine lv_dup hx hb dX2_sprayFrom_74 rfl ?_
          refine gWg_get hx hb hts in_X5 hown hK hG hV.1 (okI_lt (k := 3) rfl (by decide) c_1) (hV.wag (i := a.toNatClampNeg) (okI_lt (k := 3) rfl (by decide) c_1)) 1 (by decide) k_6 (fun _ h => h) (j := 122 + 3 * a.toNatClampNeg + 1) rfl dX2_sprayFrom_75 ?_
          refine lv_iload_n hx hb dX2_sprayFrom_78 rfl (lv_at hl 4 rfl) ?_
          refine lv_isub hx hb dX2_sprayFrom_79 ?_
          refine gWg_put hx hb hts in_X5 hown hK hG hS hV.1 (okI_lt (k := 3) rfl (by decide) c_1) (hV.wag (i := a.toNatClampNeg) (okI_lt (k := 3) rfl (by decide) c_1)) 1 (by decide) k_6 (fun _ h => h) rfl .int (by decide +kernel) rfl rfl (j := 122 + 3 * a.toNatClampNeg + 1) rfl dX2_sprayFrom_80 (fun H locs hG hS => ?_)
          refine lv_aload_n hx hb dX2_sprayFrom_83 rfl (lv_at hl 2 rfl) ?_
          refine lv_dup hx hb dX2_sprayFrom_84 rfl ?_
          refine gRd_get hx hb hts in_X2 hown hK hG hV.1 hV.c0 11 (by decide) k_7 (fun _ h => h) (j := 11) rfl dX2_sprayFrom_85 ?_
          refine lv_iload_n hx hb dX2_sprayFrom_88 rfl (lv_at hl 4 rfl) ?_
          refine lv_iadd hx hb dX2_sprayFrom_89 ?_
          refine gRd_put hx hb hts in_X2 hown hK hG hS hV.1 hV.c0 11 (by decide) k_7 (fun _ h => h) rfl .int (by decide +kernel) rfl rfl (j := 11) rfl dX2_sprayFrom_90 (fun H locs hG hS => ?_)
          refine lv_aload hx hb dX2_sprayFrom_93 (lv_at hl 0 rfl) ?_
          refine lv_iload_n hx hb dX2_sprayFrom_95 rfl (lv_at hl 4 rfl) ?_
          refine g_callV (As := [.int b]) (rest := []) (st1 := []) hF (cX3_wet M R O hV.1 (okI_lt (k := 10) rfl (by decide) c_2) (hV.seg (i := (P (122 + 3 * a.toNatClampNeg)).toNatClampNeg) (okI_lt (k := 10) rfl (by decide) c_2)) (upd (upd (upd P (122 + 3 * a.toNatClampNeg + 2) ((P (122 + 3 * a.toNatClampNeg + 2)) - 1)) (122 + 3 * a.toNatClampNeg + 1) (((upd P (122 + 3 * a.toNatClampNeg + 2) ((P (122 + 3 * a.toNatClampNeg + 2)) - 1)) (122 + 3 * a.toNatClampNeg + 1)) - b)) 11 (((upd (upd P (122 + 3 * a.toNatClampNeg + 2) ((P (122 + 3 * a.toNatClampNeg + 2)) - 1)) (122 + 3 * a.toNatClampNeg + 1) (((upd P (122 + 3 * a.toNatClampNeg + 2) ((P (122 + 3 * a.toNatClampNeg + 2)) - 1)) (122 + 3 * a.toNatClampNeg + 1)) - b)) 11) + b)) b) (cwV 1 hts gX2_sprayFrom_X3_wet rfl rfl rfl (by decide +kernel) ⟨Nat.le_of_ble_eq_true rfl, Nat.le_of_ble_eq_true rfl⟩) hK hZ hG hS (hV.seg (i := (P (122 + 3 * a.toNatClampNeg)).toNatClampNeg) (okI_lt (k := 10) rfl (by decide) c_2)) (gC_S hV.1 (okI_lt (k := 10) rfl (by decide) c_2)) (by decide) rfl rfl hl.1 (Nat.le_of_ble_eq_true rfl) dX2_sprayFrom_96 ⟨Nat.le_refl _, Nat.le_refl _⟩ rfl rfl (fun H locs hG hS => ?_)
          refine lv_aload hx hb dX2_sprayFrom_99 (lv_at hl 0 rfl) ?_
          refine gS_get hx hb hts in_X3 hown hK hG hV.1 (okI_lt (k := 10) rfl (by decide) c_2) (hV.seg (i := (P (122 + 3 * a.toNatClampNeg)).toNatClampNeg) (okI_lt (k := 10) rfl (by decide) c_2)) 4 (by decide) k_9 (fun _ h => h) (j := 12 + 7 * ((P (122 + 3 * a.toNatClampNeg)).toNatClampNeg) + 4) rfl dX2_sprayFrom_101 ?_
          exact g_iret hx hb hrt hlocks hS hG (by unfold fX2_sprayFrom_v; rw [if_pos c_1, if_pos c_2, if_neg c_3, if_neg c_4]) (congrArg (va_up M r) (by unfold fX2_sprayFrom_P; rw [if_pos c_1, if_pos c_2, if_neg c_3, if_neg c_4])) dX2_sprayFrom_104
        · --F
          refine lv_bipush (v := (-3)) hx hb dX2_sprayFrom_60 (by decide) ?_
          exact g_iret hx hb hrt hlocks hS hG (by unfold fX2_sprayFrom_v; rw [if_pos c_1, if_pos c_2, if_neg c_3, if_pos c_4]) (congrArg (va_up M r) (by unfold fX2_sprayFrom_P; rw [if_pos c_1, if_pos c_2, if_neg c_3, if_pos c_4])) dX2_sprayFrom_62
      · --F
        refine lv_bipush (v := (-2)) hx hb dX2_sprayFrom_45 (by decide) ?_
        exact g_iret hx hb hrt hlocks hS hG (by unfold fX2_sprayFrom_v; rw [if_pos c_1, if_pos c_2, if_pos c_3]) (congrArg (va_up M r) (by unfold fX2_sprayFrom_P; rw [if_pos c_1, if_pos c_2, if_pos c_3])) dX2_sprayFrom_47
    · --none
      refine g_callV (As := [.int (P (122 + 3 * a.toNatClampNeg))]) (rest := []) (st1 := [.null]) hF (cX2_segmentAt_n M R O hV P c_2) (cwV 1 hts gX2_sprayFrom_X2_segmentAt rfl rfl rfl (by decide +kernel) ⟨Nat.le_of_ble_eq_true rfl, Nat.le_of_ble_eq_true rfl⟩) hK hZ hG hS hV.c0 (gC_Rd hV.1) (by decide) rfl rfl hl.1 (Nat.le_of_ble_eq_true rfl) dX2_sprayFrom_19 ⟨Nat.le_refl _, Nat.le_refl _⟩ rfl rfl (fun H locs hG hS => ?_)
      refine lv_astoreN (lv' := [(4, .null), (3, .ref (gad Γ (25 * r + 22 + a.toNatClampNeg))), (0, .ref (gad Γ (25 * r))), (1, .int a), (2, .int b)]) hx hb dX2_sprayFrom_22 hl (by decide) rfl (fun ls hl => ?_)
      refine lv_aload_n hx hb dX2_sprayFrom_24 rfl (lv_at hl 1 rfl) ?_
      refine lv_ifnull hx hb dX2_sprayFrom_25 ?_
      refine lv_aloadN hx hb dX2_sprayFrom_28 (lv_at hl 0 rfl) ?_
      refine lv_ifnonnullN hx hb dX2_sprayFrom_30 ?_
      refine lv_iconst (v := (-1)) hx hb dX2_sprayFrom_33 (by decide) ?_
      exact g_iret hx hb hrt hlocks hS hG (by unfold fX2_sprayFrom_v; rw [if_pos c_1, if_neg c_2]) (congrArg (va_up M r) (by unfold fX2_sprayFrom_P; rw [if_pos c_1, if_neg c_2])) dX2_sprayFrom_34
  · --none
    refine g_callV (As := [.int a]) (rest := []) (st1 := [.null]) hF (cX2_wagonAt_n M R O hV P c_1) (cwV 1 hts gX2_sprayFrom_X2_wagonAt rfl rfl rfl (by decide +kernel) ⟨Nat.le_of_ble_eq_true rfl, Nat.le_of_ble_eq_true rfl⟩) hK hZ hG hS hV.c0 (gC_Rd hV.1) (by decide) rfl rfl hl.1 (Nat.le_of_ble_eq_true rfl) dX2_sprayFrom_2 ⟨Nat.le_refl _, Nat.le_refl _⟩ rfl rfl (fun H locs hG hS => ?_)
    refine lv_astore_nN (lv' := [(3, .null), (0, .ref (gad Γ (25 * r))), (1, .int a), (2, .int b)]) hx hb dX2_sprayFrom_5 rfl hl (by decide) rfl (fun ls hl => ?_)
    refine lv_aload_nN hx hb dX2_sprayFrom_6 rfl (lv_at hl 0 rfl) ?_
    refine lv_ifnonnullN hx hb dX2_sprayFrom_7 ?_
    refine lv_null hx hb dX2_sprayFrom_10 ?_
    refine lv_goto (tgt := 22) hx hb dX2_sprayFrom_11 (by decide) ?_
    refine lv_astoreN (lv' := [(4, .null), (3, .null), (0, .ref (gad Γ (25 * r))), (1, .int a), (2, .int b)]) hx hb dX2_sprayFrom_22 hl (by decide) rfl (fun ls hl => ?_)
    refine lv_aload_nN hx hb dX2_sprayFrom_24 rfl (lv_at hl 1 rfl) ?_
    refine lv_ifnullN (tgt := 33) hx hb dX2_sprayFrom_25 (by decide) ?_
    refine lv_iconst (v := (-1)) hx hb dX2_sprayFrom_33 (by decide) ?_
    exact g_iret hx hb hrt hlocks hS hG (by unfold fX2_sprayFrom_v; rw [if_neg c_1]) (congrArg (va_up M r) (by unfold fX2_sprayFrom_P; rw [if_neg c_1])) dX2_sprayFrom_34

def fX2_whyNoWater_v (P : Nat → Int32) (i : Nat) : Int32 := if 0 < (P (122 + 3 * i + 2)) then if okI (P (122 + 3 * i)) (P 0) 10 then if (P (12 + 7 * ((P (122 + 3 * i)).toNatClampNeg) + 5)) = 0 then 2 else if (P (122 + 3 * i + 1)) < 20 then if (P 9) < (P 8) then 0 else 4 else 3 else 2 else 1
set_option maxHeartbeats 4000000 in
set_option maxRecDepth 100000 in
theorem cX2_whyNoWater {l : Launch} {Γ : gX} (M : Nat → Nat → Int32) (R : Nat → Nat → Option Nat) (O : Int64) {r : Nat} (hV : LV Γ R r) (P : Nat → Int32) {i : Nat} (hi : i < 3) : gMet l Γ yX2_whyNoWater wsX2_whyNoWater 1 21 [.ref (gad Γ (25 * r)), .ref (gad Γ (25 * r + 22 + i))] (va_up M r P) R O (some (.int (fX2_whyNoWater_v P i))) (va_up M r P) R O := by
  refine g_start (cc := cX2_whyNoWater) (maxL := 3) (ret := (some .int)) (by decide) rfl (by decide) ?_
  intro p e s m below meth c ls hx hb hml hrt hts hown hlocks hname hK hZ hG hS hl
  have hl : lv_has ls 3 [(0, .ref (gad Γ (25 * r))), (1, .ref (gad Γ (25 * r + 22 + i)))] := hl
  have hown : s.vm.findClass RX2 = some m.cls := hown
  have hF : CallFix p m c cX2_whyNoWater 3 s _ wsX2_whyNoWater RX2 := ⟨hx, hb, hml, hown, hts⟩
  have k_1 : (Cond.fieldLink RX2 131 "RoadDust$Wagon" "moves" "I").before _ s = true := hts _ (by decide +kernel)
  have in_X5 : ∀ w ∈ wsX50, w ∈ wsX2_whyNoWater := by decide +kernel
  have k_3 : (Cond.fieldLink RX2 134 "RoadDust$Wagon" "segment" "I").before _ s = true := hts _ (by decide +kernel)
  have k_4 : (Cond.fieldLink RX2 95 "RoadDust$Segment" "filling" "Z").before _ s = true := hts _ (by decide +kernel)
  have in_X3 : ∀ w ∈ wsX30, w ∈ wsX2_whyNoWater := by decide +kernel
  have k_6 : (Cond.fieldLink RX2 141 "RoadDust$Wagon" "liters" "I").before _ s = true := hts _ (by decide +kernel)
  have k_7 : (Cond.fieldLink RX2 63 "RoadDust$Road" "filled" "I").before _ s = true := hts _ (by decide +kernel)
  have in_X2 : ∀ w ∈ wsX20, w ∈ wsX2_whyNoWater := by decide +kernel
  have k_9 : (Cond.fieldLink RX2 60 "RoadDust$Road" "right" "I").before _ s = true := hts _ (by decide +kernel)
  refine lv_aload_n hx hb dX2_whyNoWater_0 rfl (lv_at hl 1 rfl) ?_
  refine gWg_get hx hb hts in_X5 hown hK hG hV.1 hi (hV.wag hi) 2 (by decide) k_1 (fun _ h => h) (j := 122 + 3 * i + 2) rfl dX2_whyNoWater_1 ?_
  refine lv_if_gt (tgt := 9) hx hb dX2_whyNoWater_4 (by decide) (fun c_1 => ?_) (fun c_1 => ?_)
  · --T
    refine lv_aload_n hx hb dX2_whyNoWater_9 rfl (lv_at hl 0 rfl) ?_
    refine lv_aload_n hx hb dX2_whyNoWater_10 rfl (lv_at hl 1 rfl) ?_
    refine gWg_get hx hb hts in_X5 hown hK hG hV.1 hi (hV.wag hi) 0 (by decide) k_3 (fun _ h => h) (j := 122 + 3 * i) rfl dX2_whyNoWater_11 ?_
    by_cases c_2 : okI (P (122 + 3 * i)) (P 0) 10
    · --ok
      refine g_callV (As := [.int (P (122 + 3 * i))]) (rest := []) (st1 := [.ref (gad Γ (25 * r + 4 + ((P (122 + 3 * i)).toNatClampNeg)))]) hF (cX2_segmentAt_y M R O hV P c_2 (j := (P (122 + 3 * i)).toNatClampNeg) rfl) (cwV 1 hts gX2_whyNoWater_X2_segmentAt rfl rfl rfl (by decide +kernel) ⟨Nat.le_of_ble_eq_true rfl, Nat.le_of_ble_eq_true rfl⟩) hK hZ hG hS hV.c0 (gC_Rd hV.1) (by decide) rfl rfl hl.1 (Nat.le_of_ble_eq_true rfl) dX2_whyNoWater_14 ⟨Nat.le_refl _, Nat.le_refl _⟩ rfl rfl (fun H locs hG hS => ?_)
      refine lv_astore_n (lv' := [(2, .ref (gad Γ (25 * r + 4 + ((P (122 + 3 * i)).toNatClampNeg)))), (0, .ref (gad Γ (25 * r))), (1, .ref (gad Γ (25 * r + 22 + i)))]) hx hb dX2_whyNoWater_17 rfl hl (by decide) rfl (fun ls hl => ?_)
      refine lv_aload_n hx hb dX2_whyNoWater_18 rfl (lv_at hl 0 rfl) ?_
      refine lv_ifnull hx hb dX2_whyNoWater_19 ?_
      refine lv_aload_n hx hb dX2_whyNoWater_22 rfl (lv_at hl 0 rfl) ?_
      refine gS_get hx hb hts in_X3 hown hK hG hV.1 (okI_lt (k := 10) rfl (by decide) c_2) (hV.seg (i := (P (122 + 3 * i)).toNatClampNeg) (okI_lt (k := 10) rfl (by decide) c_2)) 5 (by decide) k_4 (fun _ h => h) (j := 12 + 7 * ((P (122 + 3 * i)).toNatClampNeg) + 5) rfl dX2_whyNoWater_23 ?_
      refine lv_if_ne (tgt := 31) hx hb dX2_whyNoWater_26 (by decide) (fun c_3 => ?_) (fun c_3 => ?_)
      · --T
        refine lv_aload_n hx hb dX2_whyNoWater_31 rfl (lv_at hl 2 rfl) ?_
        refine gWg_get hx hb hts in_X5 hown hK hG hV.1 hi (hV.wag hi) 1 (by decide) k_6 (fun _ h => h) (j := 122 + 3 * i + 1) rfl dX2_whyNoWater_32 ?_
        refine lv_bipush (v := 20) hx hb dX2_whyNoWater_35 (by decide) ?_
        refine lv_icmp_lt (tgt := 42) hx hb dX2_whyNoWater_37 (by decide) (fun c_4 => ?_) (fun c_4 => ?_)
        · --T
          refine lv_aload_n hx hb dX2_whyNoWater_42 rfl (lv_at hl 1 rfl) ?_
          refine gRd_get hx hb hts in_X2 hown hK hG hV.1 hV.c0 9 (by decide) k_7 (fun _ h => h) (j := 9) rfl dX2_whyNoWater_43 ?_
          refine lv_aload_n hx hb dX2_whyNoWater_46 rfl (lv_at hl 1 rfl) ?_
          refine gRd_get hx hb hts in_X2 hown hK hG hV.1 hV.c0 8 (by decide) k_9 (fun _ h => h) (j := 8) rfl dX2_whyNoWater_47 ?_
          refine lv_icmp_lt (tgt := 57) hx hb dX2_whyNoWater_50 (by decide) (fun c_5 => ?_) (fun c_5 => ?_)
          · --T
            refine lv_iconst (v := 0) hx hb dX2_whyNoWater_57 (by decide) ?_
            exact g_iret hx hb hrt hlocks hS hG (by unfold fX2_whyNoWater_v; rw [if_pos c_1, if_pos c_2, if_neg c_3, if_pos c_4, if_pos c_5]) rfl dX2_whyNoWater_58
          · --F
            refine lv_iconst (v := 4) hx hb dX2_whyNoWater_53 (by decide) ?_
            refine lv_goto (tgt := 58) hx hb dX2_whyNoWater_54 (by decide) ?_
            exact g_iret hx hb hrt hlocks hS hG (by unfold fX2_whyNoWater_v; rw [if_pos c_1, if_pos c_2, if_neg c_3, if_pos c_4, if_neg c_5]) rfl dX2_whyNoWater_58
        · --F
          refine lv_iconst (v := 3) hx hb dX2_whyNoWater_40 (by decide) ?_
          exact g_iret hx hb hrt hlocks hS hG (by unfold fX2_whyNoWater_v; rw [if_pos c_1, if_pos c_2, if_neg c_3, if_neg c_4]) rfl dX2_whyNoWater_41
      · --F
        refine lv_iconst (v := 2) hx hb dX2_whyNoWater_29 (by decide) ?_
        exact g_iret hx hb hrt hlocks hS hG (by unfold fX2_whyNoWater_v; rw [if_pos c_1, if_pos c_2, if_pos c_3]) rfl dX2_whyNoWater_30
    · --none
      refine g_callV (As := [.int (P (122 + 3 * i))]) (rest := []) (st1 := [.null]) hF (cX2_segmentAt_n M R O hV P c_2) (cwV 1 hts gX2_whyNoWater_X2_segmentAt rfl rfl rfl (by decide +kernel) ⟨Nat.le_of_ble_eq_true rfl, Nat.le_of_ble_eq_true rfl⟩) hK hZ hG hS hV.c0 (gC_Rd hV.1) (by decide) rfl rfl hl.1 (Nat.le_of_ble_eq_true rfl) dX2_whyNoWater_14 ⟨Nat.le_refl _, Nat.le_refl _⟩ rfl rfl (fun H locs hG hS => ?_)
      refine lv_astore_nN (lv' := [(2, .null), (0, .ref (gad Γ (25 * r))), (1, .ref (gad Γ (25 * r + 22 + i)))]) hx hb dX2_whyNoWater_17 rfl hl (by decide) rfl (fun ls hl => ?_)
      refine lv_aload_nN hx hb dX2_whyNoWater_18 rfl (lv_at hl 0 rfl) ?_
      refine lv_ifnullN (tgt := 29) hx hb dX2_whyNoWater_19 (by decide) ?_
      refine lv_iconst (v := 2) hx hb dX2_whyNoWater_29 (by decide) ?_
      exact g_iret hx hb hrt hlocks hS hG (by unfold fX2_whyNoWater_v; rw [if_pos c_1, if_neg c_2]) rfl dX2_whyNoWater_30
  · --F
    refine lv_iconst (v := 1) hx hb dX2_whyNoWater_7 (by decide) ?_
    exact g_iret hx hb hrt hlocks hS hG (by unfold fX2_whyNoWater_v; rw [if_neg c_1]) rfl dX2_whyNoWater_8

def fX2_fillTank_v (P : Nat → Int32) (a : Int32) : Int32 := if okI a (P 2) 3 then if (fX2_whyNoWater_v P a.toNatClampNeg) = 0 then if ((P 8) - (P 9)) < (20 - (P (122 + 3 * a.toNatClampNeg + 1))) then ((P 8) - (P 9)) else (20 - (P (122 + 3 * a.toNatClampNeg + 1))) else (-3) else (-1)
def fX2_fillTank_P (P : Nat → Int32) (a : Int32) : Nat → Int32 := if okI a (P 2) 3 then if (fX2_whyNoWater_v P a.toNatClampNeg) = 0 then upd (upd (upd P (122 + 3 * a.toNatClampNeg + 2) ((P (122 + 3 * a.toNatClampNeg + 2)) - 1)) (122 + 3 * a.toNatClampNeg + 1) (((upd P (122 + 3 * a.toNatClampNeg + 2) ((P (122 + 3 * a.toNatClampNeg + 2)) - 1)) (122 + 3 * a.toNatClampNeg + 1)) + (if ((P 8) - (P 9)) < (20 - (P (122 + 3 * a.toNatClampNeg + 1))) then ((P 8) - (P 9)) else (20 - (P (122 + 3 * a.toNatClampNeg + 1)))))) 9 (((upd (upd P (122 + 3 * a.toNatClampNeg + 2) ((P (122 + 3 * a.toNatClampNeg + 2)) - 1)) (122 + 3 * a.toNatClampNeg + 1) (((upd P (122 + 3 * a.toNatClampNeg + 2) ((P (122 + 3 * a.toNatClampNeg + 2)) - 1)) (122 + 3 * a.toNatClampNeg + 1)) + (if ((P 8) - (P 9)) < (20 - (P (122 + 3 * a.toNatClampNeg + 1))) then ((P 8) - (P 9)) else (20 - (P (122 + 3 * a.toNatClampNeg + 1)))))) 9) + (if ((P 8) - (P 9)) < (20 - (P (122 + 3 * a.toNatClampNeg + 1))) then ((P 8) - (P 9)) else (20 - (P (122 + 3 * a.toNatClampNeg + 1))))) else P else P
set_option maxHeartbeats 4000000 in
set_option maxRecDepth 100000 in
theorem cX2_fillTank {l : Launch} {Γ : gX} (M : Nat → Nat → Int32) (R : Nat → Nat → Option Nat) (O : Int64) {r : Nat} (hV : LV Γ R r) (P : Nat → Int32) (a : Int32) : gMet l Γ yX2_fillTank wsX2_fillTank 2 43 [.ref (gad Γ (25 * r)), .int a] (va_up M r P) R O (some (.int (fX2_fillTank_v P a))) (va_up M r (fX2_fillTank_P P a)) R O := by
  refine g_start (cc := cX2_fillTank) (maxL := 4) (ret := (some .int)) (by decide) rfl (by decide) ?_
  intro p e s m below meth c ls hx hb hml hrt hts hown hlocks hname hK hZ hG hS hl
  have hl : lv_has ls 4 [(0, .ref (gad Γ (25 * r))), (1, .int a)] := hl
  have hown : s.vm.findClass RX2 = some m.cls := hown
  have hF : CallFix p m c cX2_fillTank 4 s _ wsX2_fillTank RX2 := ⟨hx, hb, hml, hown, hts⟩
  have k_1 : (Cond.fieldLink RX2 141 "RoadDust$Wagon" "liters" "I").before _ s = true := hts _ (by decide +kernel)
  have in_X5 : ∀ w ∈ wsX50, w ∈ wsX2_fillTank := by decide +kernel
  have k_3 : (Cond.fieldLink RX2 60 "RoadDust$Road" "right" "I").before _ s = true := hts _ (by decide +kernel)
  have in_X2 : ∀ w ∈ wsX20, w ∈ wsX2_fillTank := by decide +kernel
  have k_5 : (Cond.fieldLink RX2 63 "RoadDust$Road" "filled" "I").before _ s = true := hts _ (by decide +kernel)
  have k_6 : (Cond.methodLink RX2 154 Lib.Math.min.name).before _ s = true := hts _ (by decide +kernel)
  have k_7 : (Cond.static Lib.Math.min.name).before _ s = true := hts _ (by decide +kernel)
  have k_8 : (Cond.initialized "java/lang/Math").before _ s = true := hts _ (by decide +kernel)
  have k_9 : (Cond.code Lib.Math.min.name Lib.Math.min.code 2 (some .int)).before _ s = true := hts _ (by decide +kernel)
  have k_10 : (Cond.fieldLink RX2 131 "RoadDust$Wagon" "moves" "I").before _ s = true := hts _ (by decide +kernel)
  refine lv_aload_n hx hb dX2_fillTank_0 rfl (lv_at hl 0 rfl) ?_
  refine lv_iload_n hx hb dX2_fillTank_1 rfl (lv_at hl 1 rfl) ?_
  by_cases c_1 : okI a (P 2) 3
  · --ok
    refine g_callV (As := [.int a]) (rest := []) (st1 := [.ref (gad Γ (25 * r + 22 + a.toNatClampNeg))]) hF (cX2_wagonAt_y M R O hV P c_1 (j := a.toNatClampNeg) rfl) (cwV 1 hts gX2_fillTank_X2_wagonAt rfl rfl rfl (by decide +kernel) ⟨Nat.le_of_ble_eq_true rfl, Nat.le_of_ble_eq_true rfl⟩) hK hZ hG hS hV.c0 (gC_Rd hV.1) (by decide) rfl rfl hl.1 (Nat.le_of_ble_eq_true rfl) dX2_fillTank_2 ⟨Nat.le_refl _, Nat.le_refl _⟩ rfl rfl (fun H locs hG hS => ?_)
    refine lv_astore_n (lv' := [(2, .ref (gad Γ (25 * r + 22 + a.toNatClampNeg))), (0, .ref (gad Γ (25 * r))), (1, .int a)]) hx hb dX2_fillTank_5 rfl hl (by decide) rfl (fun ls hl => ?_)
    refine lv_aload_n hx hb dX2_fillTank_6 rfl (lv_at hl 0 rfl) ?_
    refine lv_ifnonnull (tgt := 12) hx hb dX2_fillTank_7 (by decide) ?_
    refine lv_aload_n hx hb dX2_fillTank_12 rfl (lv_at hl 1 rfl) ?_
    refine lv_aload_n hx hb dX2_fillTank_13 rfl (lv_at hl 0 rfl) ?_
    refine g_callV (As := [.ref (gad Γ (25 * r + 22 + a.toNatClampNeg))]) (rest := []) (st1 := [.int (fX2_whyNoWater_v P a.toNatClampNeg)]) hF (cX2_whyNoWater M R O hV P (i := a.toNatClampNeg) (okI_lt (k := 3) rfl (by decide) c_1)) (cwV 1 hts gX2_fillTank_X2_whyNoWater rfl rfl rfl (by decide +kernel) ⟨Nat.le_of_ble_eq_true rfl, Nat.le_of_ble_eq_true rfl⟩) hK hZ hG hS hV.c0 (gC_Rd hV.1) (by decide) rfl rfl hl.1 (Nat.le_of_ble_eq_true rfl) dX2_fillTank_14 ⟨Nat.le_refl _, Nat.le_refl _⟩ rfl rfl (fun H locs hG hS => ?_)
    refine lv_if_eq (tgt := 23) hx hb dX2_fillTank_17 (by decide) (fun c_2 => ?_) (fun c_2 => ?_)
    · --T
      refine lv_bipush (v := 20) hx hb dX2_fillTank_23 (by decide) ?_
      refine lv_aload_n hx hb dX2_fillTank_25 rfl (lv_at hl 0 rfl) ?_
      refine gWg_get hx hb hts in_X5 hown hK hG hV.1 (okI_lt (k := 3) rfl (by decide) c_1) (hV.wag (i := a.toNatClampNeg) (okI_lt (k := 3) rfl (by decide) c_1)) 1 (by decide) k_1 (fun _ h => h) (j := 122 + 3 * a.toNatClampNeg + 1) rfl dX2_fillTank_26 ?_
      refine lv_isub hx hb dX2_fillTank_29 ?_
      refine lv_aload_n hx hb dX2_fillTank_30 rfl (lv_at hl 1 rfl) ?_
      refine gRd_get hx hb hts in_X2 hown hK hG hV.1 hV.c0 8 (by decide) k_3 (fun _ h => h) (j := 8) rfl dX2_fillTank_31 ?_
      refine lv_aload_n hx hb dX2_fillTank_34 rfl (lv_at hl 1 rfl) ?_
      refine gRd_get hx hb hts in_X2 hown hK hG hV.1 hV.c0 9 (by decide) k_5 (fun _ h => h) (j := 9) rfl dX2_fillTank_35 ?_
      refine lv_isub hx hb dX2_fillTank_38 ?_
      refine va_mmin hx hb (hml.trans hl.1.symm) hown k_6 k_7 k_8 k_9 (Nat.le_of_ble_eq_true rfl) (Nat.le_of_ble_eq_true rfl) (Nat.le_of_ble_eq_true rfl) (Nat.le_of_ble_eq_true rfl) dX2_fillTank_39 ?_
      refine lv_istore_n (lv' := [(3, .int (if ((P 8) - (P 9)) < (20 - (P (122 + 3 * a.toNatClampNeg + 1))) then ((P 8) - (P 9)) else (20 - (P (122 + 3 * a.toNatClampNeg + 1))))), (2, .ref (gad Γ (25 * r + 22 + a.toNatClampNeg))), (0, .ref (gad Γ (25 * r))), (1, .int a)]) hx hb dX2_fillTank_42 rfl hl (by decide) rfl (fun ls hl => ?_)
      refine lv_aload_n hx hb dX2_fillTank_43 rfl (lv_at hl 1 rfl) ?_
      refine lv_dup hx hb dX2_fillTank_44 rfl ?_
      refine gWg_get hx hb hts in_X5 hown hK hG hV.1 (okI_lt (k := 3) rfl (by decide) c_1) (hV.wag (i := a.toNatClampNeg) (okI_lt (k := 3) rfl (by decide) c_1)) 2 (by decide) k_10 (fun _ h => h) (j := 122 + 3 * a.toNatClampNeg + 2) rfl dX2_fillTank_45 ?_
      refine lv_iconst (v := 1) hx hb dX2_fillTank_48 (by decide) ?_
      refine lv_isub hx hb dX2_fillTank_49 ?_
      refine gWg_put hx hb hts in_X5 hown hK hG hS hV.1 (okI_lt (k := 3) rfl (by decide) c_1) (hV.wag (i := a.toNatClampNeg) (okI_lt (k := 3) rfl (by decide) c_1)) 2 (by decide) k_10 (fun _ h => h) rfl .int (by decide +kernel) rfl rfl (j := 122 + 3 * a.toNatClampNeg + 2) rfl dX2_fillTank_50 (fun H locs hG hS => ?_)
      refine lv_aload_n hx hb dX2_fillTank_53 rfl (lv_at hl 1 rfl) ?_
      refine lv_dup hx hb dX2_fillTank_54 rfl ?_
      refine gWg_get hx hb hts in_X5 hown hK hG hV.1 (okI_lt (k := 3) rfl (by decide) c_1) (hV.wag (i := a.toNatClampNeg) (okI_lt (k := 3) rfl (by decide) c_1)) 1 (by decide) k_1 (fun _ h => h) (j := 122 + 3 * a.toNatClampNeg + 1) rfl dX2_fillTank_55 ?_
      refine lv_iload_n hx hb dX2_fillTank_58 rfl (lv_at hl 0 rfl) ?_
      refine lv_iadd hx hb dX2_fillTank_59 ?_
      refine gWg_put hx hb hts in_X5 hown hK hG hS hV.1 (okI_lt (k := 3) rfl (by decide) c_1) (hV.wag (i := a.toNatClampNeg) (okI_lt (k := 3) rfl (by decide) c_1)) 1 (by decide) k_1 (fun _ h => h) rfl .int (by decide +kernel) rfl rfl (j := 122 + 3 * a.toNatClampNeg + 1) rfl dX2_fillTank_60 (fun H locs hG hS => ?_)
      refine lv_aload_n hx hb dX2_fillTank_63 rfl (lv_at hl 2 rfl) ?_
      refine lv_dup hx hb dX2_fillTank_64 rfl ?_
      refine gRd_get hx hb hts in_X2 hown hK hG hV.1 hV.c0 9 (by decide) k_5 (fun _ h => h) (j := 9) rfl dX2_fillTank_65 ?_
      refine lv_iload_n hx hb dX2_fillTank_68 rfl (lv_at hl 0 rfl) ?_
      refine lv_iadd hx hb dX2_fillTank_69 ?_
      refine gRd_put hx hb hts in_X2 hown hK hG hS hV.1 hV.c0 9 (by decide) k_5 (fun _ h => h) rfl .int (by decide +kernel) rfl rfl (j := 9) rfl dX2_fillTank_70 (fun H locs hG hS => ?_)
      refine lv_iload_n hx hb dX2_fillTank_73 rfl (lv_at hl 0 rfl) ?_
      exact g_iret hx hb hrt hlocks hS hG (by unfold fX2_fillTank_v; rw [if_pos c_1, if_pos c_2]) (congrArg (va_up M r) (by unfold fX2_fillTank_P; rw [if_pos c_1, if_pos c_2])) dX2_fillTank_74
    · --F
      refine lv_bipush (v := (-3)) hx hb dX2_fillTank_20 (by decide) ?_
      exact g_iret hx hb hrt hlocks hS hG (by unfold fX2_fillTank_v; rw [if_pos c_1, if_neg c_2]) (congrArg (va_up M r) (by unfold fX2_fillTank_P; rw [if_pos c_1, if_neg c_2])) dX2_fillTank_22
  · --none
    refine g_callV (As := [.int a]) (rest := []) (st1 := [.null]) hF (cX2_wagonAt_n M R O hV P c_1) (cwV 1 hts gX2_fillTank_X2_wagonAt rfl rfl rfl (by decide +kernel) ⟨Nat.le_of_ble_eq_true rfl, Nat.le_of_ble_eq_true rfl⟩) hK hZ hG hS hV.c0 (gC_Rd hV.1) (by decide) rfl rfl hl.1 (Nat.le_of_ble_eq_true rfl) dX2_fillTank_2 ⟨Nat.le_refl _, Nat.le_refl _⟩ rfl rfl (fun H locs hG hS => ?_)
    refine lv_astore_nN (lv' := [(2, .null), (0, .ref (gad Γ (25 * r))), (1, .int a)]) hx hb dX2_fillTank_5 rfl hl (by decide) rfl (fun ls hl => ?_)
    refine lv_aload_nN hx hb dX2_fillTank_6 rfl (lv_at hl 0 rfl) ?_
    refine lv_ifnonnullN hx hb dX2_fillTank_7 ?_
    refine lv_iconst (v := (-1)) hx hb dX2_fillTank_10 (by decide) ?_
    exact g_iret hx hb hrt hlocks hS hG (by unfold fX2_fillTank_v; rw [if_neg c_1]) (congrArg (va_up M r) (by unfold fX2_fillTank_P; rw [if_neg c_1])) dX2_fillTank_11

def fX2_dustFor_v (P : Nat → Int32) (i : Nat) : Int32 := if 0 < (2 * (1 + (P (82 + 5 * i + 1)))) then (((2 * (fX2_dustAt_v P (P (82 + 5 * i)))) + (fX2_dustAt_v P ((P (82 + 5 * i)) - 1))) + (fX2_dustAt_v P ((P (82 + 5 * i)) + 1))) / (2 * (1 + (P (82 + 5 * i + 1)))) else 0
set_option maxHeartbeats 4000000 in
set_option maxRecDepth 100000 in
theorem cX2_dustFor {l : Launch} {Γ : gX} (M : Nat → Nat → Int32) (R : Nat → Nat → Option Nat) (O : Int64) {r : Nat} (hV : LV Γ R r) (P : Nat → Int32) {i : Nat} (hi : i < 8) : gMet l Γ yX2_dustFor wsX2_dustFor 1 21 [.ref (gad Γ (25 * r)), .ref (gad Γ (25 * r + 14 + i))] (va_up M r P) R O (some (.int (fX2_dustFor_v P i))) (va_up M r P) R O := by
  refine g_start (cc := cX2_dustFor) (maxL := 4) (ret := (some .int)) (by decide) rfl (by decide) ?_
  intro p e s m below meth c ls hx hb hml hrt hts hown hlocks hname hK hZ hG hS hl
  have hl : lv_has ls 4 [(0, .ref (gad Γ (25 * r))), (1, .ref (gad Γ (25 * r + 14 + i)))] := hl
  have hown : s.vm.findClass RX2 = some m.cls := hown
  have hF : CallFix p m c cX2_dustFor 4 s _ wsX2_dustFor RX2 := ⟨hx, hb, hml, hown, hts⟩
  have k_1 : (Cond.fieldLink RX2 185 "RoadDust$House" "segment" "I").before _ s = true := hts _ (by decide +kernel)
  have in_X1 : ∀ w ∈ wsX10, w ∈ wsX2_dustFor := by decide +kernel
  have k_3 : (Cond.fieldLink RX2 203 "RoadDust$House" "distance" "I").before _ s = true := hts _ (by decide +kernel)
  refine lv_aload_n hx hb dX2_dustFor_0 rfl (lv_at hl 1 rfl) ?_
  refine gHs_get hx hb hts in_X1 hown hK hG hV.1 hi (hV.hou hi) 0 (by decide) k_1 (fun _ h => h) (j := 82 + 5 * i) rfl dX2_dustFor_1 ?_
  refine lv_istore_n (lv' := [(2, .int (P (82 + 5 * i))), (0, .ref (gad Γ (25 * r))), (1, .ref (gad Γ (25 * r + 14 + i)))]) hx hb dX2_dustFor_4 rfl hl (by decide) rfl (fun ls hl => ?_)
  refine lv_iconst (v := 2) hx hb dX2_dustFor_5 (by decide) ?_
  refine lv_iconst (v := 1) hx hb dX2_dustFor_6 (by decide) ?_
  refine lv_aload_n hx hb dX2_dustFor_7 rfl (lv_at hl 2 rfl) ?_
  refine gHs_get hx hb hts in_X1 hown hK hG hV.1 hi (hV.hou hi) 1 (by decide) k_3 (fun _ h => h) (j := 82 + 5 * i + 1) rfl dX2_dustFor_8 ?_
  refine lv_iadd hx hb dX2_dustFor_11 ?_
  refine lv_imul hx hb dX2_dustFor_12 ?_
  refine lv_istore_n (lv' := [(3, .int (2 * (1 + (P (82 + 5 * i + 1))))), (2, .int (P (82 + 5 * i))), (0, .ref (gad Γ (25 * r))), (1, .ref (gad Γ (25 * r + 14 + i)))]) hx hb dX2_dustFor_13 rfl hl (by decide) rfl (fun ls hl => ?_)
  refine lv_iload_n hx hb dX2_dustFor_14 rfl (lv_at hl 0 rfl) ?_
  refine lv_if_gt (tgt := 22) hx hb dX2_dustFor_15 (by decide) (fun c_1 => ?_) (fun c_1 => ?_)
  · --T
    refine lv_iconst (v := 2) hx hb dX2_dustFor_22 (by decide) ?_
    refine lv_aload_n hx hb dX2_dustFor_23 rfl (lv_at hl 2 rfl) ?_
    refine lv_iload_n hx hb dX2_dustFor_24 rfl (lv_at hl 1 rfl) ?_
    refine g_callV (As := [.int (P (82 + 5 * i))]) (rest := [.int 2]) (st1 := [.int (fX2_dustAt_v P (P (82 + 5 * i))), .int 2]) hF (cX2_dustAt M R O hV P (P (82 + 5 * i))) (cwV 1 hts gX2_dustFor_X2_dustAt rfl rfl rfl (by decide +kernel) ⟨Nat.le_of_ble_eq_true rfl, Nat.le_of_ble_eq_true rfl⟩) hK hZ hG hS hV.c0 (gC_Rd hV.1) (by decide) rfl rfl hl.1 (Nat.le_of_ble_eq_true rfl) dX2_dustFor_25 ⟨Nat.le_refl _, Nat.le_refl _⟩ rfl rfl (fun H locs hG hS => ?_)
    refine lv_imul hx hb dX2_dustFor_28 ?_
    refine lv_aload_n hx hb dX2_dustFor_29 rfl (lv_at hl 2 rfl) ?_
    refine lv_iload_n hx hb dX2_dustFor_30 rfl (lv_at hl 1 rfl) ?_
    refine lv_iconst (v := 1) hx hb dX2_dustFor_31 (by decide) ?_
    refine lv_isub hx hb dX2_dustFor_32 ?_
    refine g_callV (As := [.int ((P (82 + 5 * i)) - 1)]) (rest := [.int (2 * (fX2_dustAt_v P (P (82 + 5 * i))))]) (st1 := [.int (fX2_dustAt_v P ((P (82 + 5 * i)) - 1)), .int (2 * (fX2_dustAt_v P (P (82 + 5 * i))))]) hF (cX2_dustAt M R O hV P ((P (82 + 5 * i)) - 1)) (cwV 1 hts gX2_dustFor_X2_dustAt rfl rfl rfl (by decide +kernel) ⟨Nat.le_of_ble_eq_true rfl, Nat.le_of_ble_eq_true rfl⟩) hK hZ hG hS hV.c0 (gC_Rd hV.1) (by decide) rfl rfl hl.1 (Nat.le_of_ble_eq_true rfl) dX2_dustFor_33 ⟨Nat.le_refl _, Nat.le_refl _⟩ rfl rfl (fun H locs hG hS => ?_)
    refine lv_iadd hx hb dX2_dustFor_36 ?_
    refine lv_aload_n hx hb dX2_dustFor_37 rfl (lv_at hl 2 rfl) ?_
    refine lv_iload_n hx hb dX2_dustFor_38 rfl (lv_at hl 1 rfl) ?_
    refine lv_iconst (v := 1) hx hb dX2_dustFor_39 (by decide) ?_
    refine lv_iadd hx hb dX2_dustFor_40 ?_
    refine g_callV (As := [.int ((P (82 + 5 * i)) + 1)]) (rest := [.int ((2 * (fX2_dustAt_v P (P (82 + 5 * i)))) + (fX2_dustAt_v P ((P (82 + 5 * i)) - 1)))]) (st1 := [.int (fX2_dustAt_v P ((P (82 + 5 * i)) + 1)), .int ((2 * (fX2_dustAt_v P (P (82 + 5 * i)))) + (fX2_dustAt_v P ((P (82 + 5 * i)) - 1)))]) hF (cX2_dustAt M R O hV P ((P (82 + 5 * i)) + 1)) (cwV 1 hts gX2_dustFor_X2_dustAt rfl rfl rfl (by decide +kernel) ⟨Nat.le_of_ble_eq_true rfl, Nat.le_of_ble_eq_true rfl⟩) hK hZ hG hS hV.c0 (gC_Rd hV.1) (by decide) rfl rfl hl.1 (Nat.le_of_ble_eq_true rfl) dX2_dustFor_41 ⟨Nat.le_refl _, Nat.le_refl _⟩ rfl rfl (fun H locs hG hS => ?_)
    refine lv_iadd hx hb dX2_dustFor_44 ?_
    refine lv_iload_n hx hb dX2_dustFor_45 rfl (lv_at hl 0 rfl) ?_
    refine lv_idiv hx hb dX2_dustFor_46 (fun q => by rw [q] at c_1; exact absurd c_1 (by decide)) ?_
    exact g_iret hx hb hrt hlocks hS hG (by unfold fX2_dustFor_v; rw [if_pos c_1]) rfl dX2_dustFor_47
  · --F
    refine lv_iconst (v := 0) hx hb dX2_dustFor_18 (by decide) ?_
    refine lv_goto (tgt := 47) hx hb dX2_dustFor_19 (by decide) ?_
    exact g_iret hx hb hrt hlocks hS hG (by unfold fX2_dustFor_v; rw [if_neg c_1]) rfl dX2_dustFor_47

def fX2_dustForAll_T1  (P : Nat → Int32) (k : Nat) (a1 : Int32) : Int32 := a1 + (fX2_dustFor_v P k)
def fX2_dustForAll_A1  (P : Nat → Int32) : Nat → Int32
  | 0 => 0
  | k + 1 => fX2_dustForAll_T1  P k (fX2_dustForAll_A1  P k)
def fX2_dustForAll_v (P : Nat → Int32) : Int32 := fX2_dustForAll_A1  P ((P 1).toNatClampNeg)
set_option maxHeartbeats 4000000 in
set_option maxRecDepth 100000 in
theorem cX2_dustForAll {l : Launch} {Γ : gX} (M : Nat → Nat → Int32) (R : Nat → Nat → Option Nat) (O : Int64) {r : Nat} (hV : LV Γ R r) (P : Nat → Int32) (h8 : (P 1).toNatClampNeg ≤ 8) : gMet l Γ yX2_dustForAll wsX2_dustForAll 2 44 [.ref (gad Γ (25 * r))] (va_up M r P) R O (some (.int (fX2_dustForAll_v P))) (va_up M r P) R O := by
  refine g_start (cc := cX2_dustForAll) (maxL := 4) (ret := (some .int)) (by decide) rfl (by decide) ?_
  intro p e s m below meth c ls hx hb hml hrt hts hown hlocks hname hK hZ hG hS hl
  have hl : lv_has ls 4 [(0, .ref (gad Γ (25 * r)))] := hl
  have hown : s.vm.findClass RX2 = some m.cls := hown
  have hF : CallFix p m c cX2_dustForAll 4 s _ wsX2_dustForAll RX2 := ⟨hx, hb, hml, hown, hts⟩
  have k_1 : (Cond.fieldLink RX2 39 "RoadDust$Road" "houses" "I").before _ s = true := hts _ (by decide +kernel)
  have in_X2 : ∀ w ∈ wsX20, w ∈ wsX2_dustForAll := by decide +kernel
  refine lv_iconst (v := 0) hx hb dX2_dustForAll_0 (by decide) ?_
  refine lv_istore_n (lv' := [(1, .int 0), (0, .ref (gad Γ (25 * r)))]) hx hb dX2_dustForAll_1 rfl hl (by decide) rfl (fun ls hl => ?_)
  refine lv_iconst (v := 0) hx hb dX2_dustForAll_2 (by decide) ?_
  refine lv_istore_n (lv' := [(2, .int 0), (1, .int 0), (0, .ref (gad Γ (25 * r)))]) hx hb dX2_dustForAll_3 rfl hl (by decide) rfl (fun ls hl => ?_)
  refine g_loop (N := (P 1).toNatClampNeg) (fun k H locs ls => GH Γ (va_up M r P) R O H ∧ va_S (gA Γ) s.heap H locs ∧ lv_has ls 4 [(0, .ref (gad Γ (25 * r))), (1, .int (fX2_dustForAll_A1  P k)), (2, .int (nI k))]) ?_ ?_ 0 (Nat.zero_le _) _ _ _ ⟨hG, hS, lv_sub hl [2, 1, 0] rfl⟩
  · rintro H locs ls ⟨hG, hS, hl⟩
    refine lv_iload_n hx hb dX2_dustForAll_4 rfl (lv_at hl 2 rfl) ?_
    refine lv_aload_n hx hb dX2_dustForAll_5 rfl (lv_at hl 0 rfl) ?_
    refine gRd_get hx hb hts in_X2 hown hK hG hV.1 hV.c0 1 (by decide) k_1 (fun _ h => h) (j := 1) rfl dX2_dustForAll_6 ?_
    refine lv_icmp_ge (tgt := 40) hx hb dX2_dustForAll_9 (by decide) (fun c_1 => ?_) (fun c_1 => absurd (cl_le _) c_1)
    refine lv_iload_n hx hb dX2_dustForAll_40 rfl (lv_at hl 1 rfl) ?_
    exact g_iret hx hb hrt hlocks hS hG (by unfold fX2_dustForAll_v; rfl) rfl dX2_dustForAll_41
  · rintro k hk_k ih_k H locs ls ⟨hG, hS, hl⟩
    refine lv_iload_n hx hb dX2_dustForAll_4 rfl (lv_at hl 2 rfl) ?_
    refine lv_aload_n hx hb dX2_dustForAll_5 rfl (lv_at hl 0 rfl) ?_
    refine gRd_get hx hb hts in_X2 hown hK hG hV.1 hV.c0 1 (by decide) k_1 (fun _ h => h) (j := 1) rfl dX2_dustForAll_6 ?_
    refine lv_icmp_ge (tgt := 40) hx hb dX2_dustForAll_9 (by decide) (fun c_2 => absurd c_2 (cl_ge hk_k)) (fun c_2 => ?_)
    refine lv_aload_n hx hb dX2_dustForAll_12 rfl (lv_at hl 0 rfl) ?_
    refine lv_iload_n hx hb dX2_dustForAll_13 rfl (lv_at hl 2 rfl) ?_
    have c_3 : okI (nI k) (P 1) 8 := okI_k rfl hk_k (by omega) (by decide)
    refine g_callV (As := [.int (nI k)]) (rest := []) (st1 := [.ref (gad Γ (25 * r + 14 + k))]) hF (cX2_houseAt_y M R O hV P c_3 (j := k) (nI_clamp (by omega))) (cwV 1 hts gX2_dustForAll_X2_houseAt rfl rfl rfl (by decide +kernel) ⟨Nat.le_of_ble_eq_true rfl, Nat.le_of_ble_eq_true rfl⟩) hK hZ hG hS hV.c0 (gC_Rd hV.1) (by decide) rfl rfl hl.1 (Nat.le_of_ble_eq_true rfl) dX2_dustForAll_14 ⟨Nat.le_refl _, Nat.le_refl _⟩ rfl rfl (fun H locs hG hS => ?_)
    refine lv_astore_n (lv' := [(3, .ref (gad Γ (25 * r + 14 + k))), (0, .ref (gad Γ (25 * r))), (1, .int (fX2_dustForAll_A1  P k)), (2, .int (nI k))]) hx hb dX2_dustForAll_17 rfl hl (by decide) rfl (fun ls hl => ?_)
    refine lv_iload_n hx hb dX2_dustForAll_18 rfl (lv_at hl 2 rfl) ?_
    refine lv_aload_n hx hb dX2_dustForAll_19 rfl (lv_at hl 0 rfl) ?_
    refine lv_ifnonnull (tgt := 27) hx hb dX2_dustForAll_20 (by decide) ?_
    refine lv_aload_n hx hb dX2_dustForAll_27 rfl (lv_at hl 1 rfl) ?_
    refine lv_aload_n hx hb dX2_dustForAll_28 rfl (lv_at hl 0 rfl) ?_
    refine g_callV (As := [.ref (gad Γ (25 * r + 14 + k))]) (rest := [.int (fX2_dustForAll_A1  P k)]) (st1 := [.int (fX2_dustFor_v P k), .int (fX2_dustForAll_A1  P k)]) hF (cX2_dustFor M R O hV P (i := k) (by omega)) (cwV 1 hts gX2_dustForAll_X2_dustFor rfl rfl rfl (by decide +kernel) ⟨Nat.le_of_ble_eq_true rfl, Nat.le_of_ble_eq_true rfl⟩) hK hZ hG hS hV.c0 (gC_Rd hV.1) (by decide) rfl rfl hl.1 (Nat.le_of_ble_eq_true rfl) dX2_dustForAll_29 ⟨Nat.le_refl _, Nat.le_refl _⟩ rfl rfl (fun H locs hG hS => ?_)
    refine lv_iadd hx hb dX2_dustForAll_32 ?_
    refine lv_istore_n (lv' := [(1, .int ((fX2_dustForAll_A1  P k) + (fX2_dustFor_v P k))), (3, .ref (gad Γ (25 * r + 14 + k))), (0, .ref (gad Γ (25 * r))), (2, .int (nI k))]) hx hb dX2_dustForAll_33 rfl hl (by decide) rfl (fun ls hl => ?_)
    refine lv_iinc (v := nI (k + 1)) (lv' := [(2, .int (nI (k + 1))), (1, .int ((fX2_dustForAll_A1  P k) + (fX2_dustFor_v P k))), (3, .ref (gad Γ (25 * r + 14 + k))), (0, .ref (gad Γ (25 * r)))]) hx hb dX2_dustForAll_34 hl (k := 3) rfl (nI_1 _) (by decide) rfl (fun ls hl => ?_)
    refine lv_goto (tgt := 4) hx hb dX2_dustForAll_37 (by decide) ?_
    exact ih_k _ _ _ ⟨hG, hS, lv_sub hl [3, 1, 0] rfl⟩

def fX2_dustWithout_v (P : Nat → Int32) (a : Int32) : Int32 := if okI a (P 0) 10 then fX2_dustForAll_v (upd P (12 + 7 * a.toNatClampNeg + 3) 0) else fX2_dustForAll_v P
def fX2_dustWithout_P (P : Nat → Int32) (a : Int32) : Nat → Int32 := if okI a (P 0) 10 then upd (upd P (12 + 7 * a.toNatClampNeg + 3) 0) (12 + 7 * a.toNatClampNeg + 3) (P (12 + 7 * a.toNatClampNeg + 3)) else P
set_option maxHeartbeats 4000000 in
set_option maxRecDepth 100000 in
theorem cX2_dustWithout {l : Launch} {Γ : gX} (M : Nat → Nat → Int32) (R : Nat → Nat → Option Nat) (O : Int64) {r : Nat} (hV : LV Γ R r) (P : Nat → Int32) (a : Int32) (h8 : (P 1).toNatClampNeg ≤ 8) : gMet l Γ yX2_dustWithout wsX2_dustWithout 3 67 [.ref (gad Γ (25 * r)), .int a] (va_up M r P) R O (some (.int (fX2_dustWithout_v P a))) (va_up M r (fX2_dustWithout_P P a)) R O := by
  refine g_start (cc := cX2_dustWithout) (maxL := 5) (ret := (some .int)) (by decide) rfl (by decide) ?_
  intro p e s m below meth c ls hx hb hml hrt hts hown hlocks hname hK hZ hG hS hl
  have hl : lv_has ls 5 [(0, .ref (gad Γ (25 * r))), (1, .int a)] := hl
  have hown : s.vm.findClass RX2 = some m.cls := hown
  have hF : CallFix p m c cX2_dustWithout 5 s _ wsX2_dustWithout RX2 := ⟨hx, hb, hml, hown, hts⟩
  have k_1 : (Cond.fieldLink RX2 200 "RoadDust$Segment" "dust" "I").before _ s = true := hts _ (by decide +kernel)
  have in_X3 : ∀ w ∈ wsX30, w ∈ wsX2_dustWithout := by decide +kernel
  refine lv_aload_n hx hb dX2_dustWithout_0 rfl (lv_at hl 0 rfl) ?_
  refine lv_iload_n hx hb dX2_dustWithout_1 rfl (lv_at hl 1 rfl) ?_
  by_cases c_1 : okI a (P 0) 10
  · --ok
    refine g_callV (As := [.int a]) (rest := []) (st1 := [.ref (gad Γ (25 * r + 4 + a.toNatClampNeg))]) hF (cX2_segmentAt_y M R O hV P c_1 (j := a.toNatClampNeg) rfl) (cwV 1 hts gX2_dustWithout_X2_segmentAt rfl rfl rfl (by decide +kernel) ⟨Nat.le_of_ble_eq_true rfl, Nat.le_of_ble_eq_true rfl⟩) hK hZ hG hS hV.c0 (gC_Rd hV.1) (by decide) rfl rfl hl.1 (Nat.le_of_ble_eq_true rfl) dX2_dustWithout_2 ⟨Nat.le_refl _, Nat.le_refl _⟩ rfl rfl (fun H locs hG hS => ?_)
    refine lv_astore_n (lv' := [(2, .ref (gad Γ (25 * r + 4 + a.toNatClampNeg))), (0, .ref (gad Γ (25 * r))), (1, .int a)]) hx hb dX2_dustWithout_5 rfl hl (by decide) rfl (fun ls hl => ?_)
    refine lv_aload_n hx hb dX2_dustWithout_6 rfl (lv_at hl 0 rfl) ?_
    refine lv_ifnonnull (tgt := 15) hx hb dX2_dustWithout_7 (by decide) ?_
    refine lv_aload_n hx hb dX2_dustWithout_15 rfl (lv_at hl 0 rfl) ?_
    refine gS_get hx hb hts in_X3 hown hK hG hV.1 (okI_lt (k := 10) rfl (by decide) c_1) (hV.seg (i := a.toNatClampNeg) (okI_lt (k := 10) rfl (by decide) c_1)) 3 (by decide) k_1 (fun _ h => h) (j := 12 + 7 * a.toNatClampNeg + 3) rfl dX2_dustWithout_16 ?_
    refine lv_istore_n (lv' := [(3, .int (P (12 + 7 * a.toNatClampNeg + 3))), (2, .ref (gad Γ (25 * r + 4 + a.toNatClampNeg))), (0, .ref (gad Γ (25 * r))), (1, .int a)]) hx hb dX2_dustWithout_19 rfl hl (by decide) rfl (fun ls hl => ?_)
    refine lv_aload_n hx hb dX2_dustWithout_20 rfl (lv_at hl 1 rfl) ?_
    refine lv_iconst (v := 0) hx hb dX2_dustWithout_21 (by decide) ?_
    refine gS_put hx hb hts in_X3 hown hK hG hS hV.1 (okI_lt (k := 10) rfl (by decide) c_1) (hV.seg (i := a.toNatClampNeg) (okI_lt (k := 10) rfl (by decide) c_1)) 3 (by decide) k_1 (fun _ h => h) rfl .int (by decide +kernel) rfl rfl (j := 12 + 7 * a.toNatClampNeg + 3) rfl dX2_dustWithout_22 (fun H locs hG hS => ?_)
    refine lv_aload_n hx hb dX2_dustWithout_25 rfl (lv_at hl 2 rfl) ?_
    refine g_callV (As := []) (rest := []) (st1 := [.int (fX2_dustForAll_v (upd P (12 + 7 * a.toNatClampNeg + 3) 0))]) hF (cX2_dustForAll M R O hV (upd P (12 + 7 * a.toNatClampNeg + 3) 0) (by first | exact h8 | (unfold upd; rw [if_neg (by omega)]; exact h8))) (cwV 0 hts gX2_dustWithout_X2_dustForAll rfl rfl rfl (by decide +kernel) ⟨Nat.le_of_ble_eq_true rfl, Nat.le_of_ble_eq_true rfl⟩) hK hZ hG hS hV.c0 (gC_Rd hV.1) (by decide) rfl rfl hl.1 (Nat.le_of_ble_eq_true rfl) dX2_dustWithout_26 ⟨Nat.le_refl _, Nat.le_refl _⟩ rfl rfl (fun H locs hG hS => ?_)
    refine lv_istore (lv' := [(4, .int (fX2_dustForAll_v (upd P (12 + 7 * a.toNatClampNeg + 3) 0))), (3, .int (P (12 + 7 * a.toNatClampNeg + 3))), (2, .ref (gad Γ (25 * r + 4 + a.toNatClampNeg))), (0, .ref (gad Γ (25 * r))), (1, .int a)]) hx hb dX2_dustWithout_29 hl (by decide) rfl (fun ls hl => ?_)
    refine lv_aload_n hx hb dX2_dustWithout_31 rfl (lv_at hl 2 rfl) ?_
    refine lv_iload_n hx hb dX2_dustWithout_32 rfl (lv_at hl 1 rfl) ?_
    refine gS_put hx hb hts in_X3 hown hK hG hS hV.1 (okI_lt (k := 10) rfl (by decide) c_1) (hV.seg (i := a.toNatClampNeg) (okI_lt (k := 10) rfl (by decide) c_1)) 3 (by decide) k_1 (fun _ h => h) rfl .int (by decide +kernel) rfl rfl (j := 12 + 7 * a.toNatClampNeg + 3) rfl dX2_dustWithout_33 (fun H locs hG hS => ?_)
    refine lv_iload hx hb dX2_dustWithout_36 (lv_at hl 0 rfl) ?_
    exact g_iret hx hb hrt hlocks hS hG (by unfold fX2_dustWithout_v; rw [if_pos c_1]) (congrArg (va_up M r) (by unfold fX2_dustWithout_P; rw [if_pos c_1])) dX2_dustWithout_38
  · --none
    refine g_callV (As := [.int a]) (rest := []) (st1 := [.null]) hF (cX2_segmentAt_n M R O hV P c_1) (cwV 1 hts gX2_dustWithout_X2_segmentAt rfl rfl rfl (by decide +kernel) ⟨Nat.le_of_ble_eq_true rfl, Nat.le_of_ble_eq_true rfl⟩) hK hZ hG hS hV.c0 (gC_Rd hV.1) (by decide) rfl rfl hl.1 (Nat.le_of_ble_eq_true rfl) dX2_dustWithout_2 ⟨Nat.le_refl _, Nat.le_refl _⟩ rfl rfl (fun H locs hG hS => ?_)
    refine lv_astore_nN (lv' := [(2, .null), (0, .ref (gad Γ (25 * r))), (1, .int a)]) hx hb dX2_dustWithout_5 rfl hl (by decide) rfl (fun ls hl => ?_)
    refine lv_aload_nN hx hb dX2_dustWithout_6 rfl (lv_at hl 0 rfl) ?_
    refine lv_ifnonnullN hx hb dX2_dustWithout_7 ?_
    refine lv_aload_n hx hb dX2_dustWithout_10 rfl (lv_at hl 1 rfl) ?_
    refine g_callV (As := []) (rest := []) (st1 := [.int (fX2_dustForAll_v P)]) hF (cX2_dustForAll M R O hV P (by first | exact h8 | (unfold upd; rw [if_neg (by omega)]; exact h8))) (cwV 0 hts gX2_dustWithout_X2_dustForAll rfl rfl rfl (by decide +kernel) ⟨Nat.le_of_ble_eq_true rfl, Nat.le_of_ble_eq_true rfl⟩) hK hZ hG hS hV.c0 (gC_Rd hV.1) (by decide) rfl rfl hl.1 (Nat.le_of_ble_eq_true rfl) dX2_dustWithout_11 ⟨Nat.le_refl _, Nat.le_refl _⟩ rfl rfl (fun H locs hG hS => ?_)
    exact g_iret hx hb hrt hlocks hS hG (by unfold fX2_dustWithout_v; rw [if_neg c_1]) (congrArg (va_up M r) (by unfold fX2_dustWithout_P; rw [if_neg c_1])) dX2_dustWithout_14

def fX2_raiseDust_S  (Pk : Nat → Int32) (k : Nat) : Nat → Int32 := fX3_raise_P (fX3_dry_P Pk k (Pk 6) (Pk 5)) k ((fX3_dry_P Pk k (Pk 6) (Pk 5)) 5)
def fX2_raiseDust_L  (P : Nat → Int32) : Nat → Nat → Int32
  | 0 => P
  | k + 1 => fX2_raiseDust_S  (fX2_raiseDust_L  P k) k
def fX2_raiseDust_P (P : Nat → Int32) : Nat → Int32 := fX2_raiseDust_L  P 10
set_option maxHeartbeats 4000000 in
set_option maxRecDepth 100000 in
theorem cX2_raiseDust {l : Launch} {Γ : gX} (M : Nat → Nat → Int32) (R : Nat → Nat → Option Nat) (O : Int64) {r : Nat} (hV : LV Γ R r) (P : Nat → Int32) : gMet l Γ yX2_raiseDust wsX2_raiseDust 2 44 [.ref (gad Γ (25 * r))] (va_up M r P) R O none (va_up M r (fX2_raiseDust_P P)) R O := by
  refine g_start (cc := cX2_raiseDust) (maxL := 5) (ret := none) (by decide) rfl (by decide) ?_
  intro p e s m below meth c ls hx hb hml hrt hts hown hlocks hname hK hZ hG hS hl
  have hl : lv_has ls 5 [(0, .ref (gad Γ (25 * r)))] := hl
  have hown : s.vm.findClass RX2 = some m.cls := hown
  have hF : CallFix p m c cX2_raiseDust 5 s _ wsX2_raiseDust RX2 := ⟨hx, hb, hml, hown, hts⟩
  have k_1 : (Cond.fieldLink RX2 11 "RoadDust$Road" "segmentRow" "[LRoadDust$Segment;").before _ s = true := hts _ (by decide +kernel)
  have in_X2 : ∀ w ∈ wsX20, w ∈ wsX2_raiseDust := by decide +kernel
  have k_3 : (Cond.fieldLink RX2 54 "RoadDust$Road" "sun" "I").before _ s = true := hts _ (by decide +kernel)
  have k_4 : (Cond.fieldLink RX2 51 "RoadDust$Road" "lorries" "I").before _ s = true := hts _ (by decide +kernel)
  refine lv_aload_n hx hb dX2_raiseDust_0 rfl (lv_at hl 0 rfl) ?_
  refine gRd_getr hx hb hts in_X2 hown hK hG hV.1 hV.c0 12 (by decide) rfl hV.2.2.1 k_1 (fun _ h => h) dX2_raiseDust_1 ?_
  refine lv_astore_n (lv' := [(1, .ref (gad Γ (25 * r + 1))), (0, .ref (gad Γ (25 * r)))]) hx hb dX2_raiseDust_4 rfl hl (by decide) rfl (fun ls hl => ?_)
  refine lv_aload_n hx hb dX2_raiseDust_5 rfl (lv_at hl 0 rfl) ?_
  refine g_alen hx hb hK hG (hV.row 1 (by decide)) (gC_row1 hV.1) (by decide) (by decide) (gLen_row1 hV.1) dX2_raiseDust_6 ?_
  refine lv_istore_n (lv' := [(2, .int (nI 10)), (1, .ref (gad Γ (25 * r + 1))), (0, .ref (gad Γ (25 * r)))]) hx hb dX2_raiseDust_7 rfl hl (by decide) rfl (fun ls hl => ?_)
  refine lv_iconst (v := 0) hx hb dX2_raiseDust_8 (by decide) ?_
  refine lv_istore_n (lv' := [(3, .int 0), (2, .int (nI 10)), (1, .ref (gad Γ (25 * r + 1))), (0, .ref (gad Γ (25 * r)))]) hx hb dX2_raiseDust_9 rfl hl (by decide) rfl (fun ls hl => ?_)
  refine g_loop (N := 10) (fun k H locs ls => GH Γ (va_up M r (fX2_raiseDust_L  P k)) R O H ∧ va_S (gA Γ) s.heap H locs ∧ lv_has ls 5 [(0, .ref (gad Γ (25 * r))), (1, .ref (gad Γ (25 * r + 1))), (2, .int (nI 10)), (3, .int (nI k))]) ?_ ?_ 0 (Nat.zero_le _) _ _ _ ⟨hG, hS, lv_sub hl [3, 2, 1, 0] rfl⟩
  · rintro H locs ls ⟨hG, hS, hl⟩
    refine lv_iload_n hx hb dX2_raiseDust_10 rfl (lv_at hl 3 rfl) ?_
    refine lv_iload_n hx hb dX2_raiseDust_11 rfl (lv_at hl 2 rfl) ?_
    refine lv_icmp_ge (tgt := 48) hx hb dX2_raiseDust_12 (by decide) (fun c_1 => ?_) (fun c_1 => absurd (nI_le (Nat.le_refl _) (by decide)) c_1)
    exact g_vret hx hb hrt hlocks hS hG (congrArg (va_up M r) (by unfold fX2_raiseDust_P; rfl)) rfl dX2_raiseDust_48
  · rintro k hk_k ih_k H locs ls ⟨hG, hS, hl⟩
    refine lv_iload_n hx hb dX2_raiseDust_10 rfl (lv_at hl 3 rfl) ?_
    refine lv_iload_n hx hb dX2_raiseDust_11 rfl (lv_at hl 2 rfl) ?_
    refine lv_icmp_ge (tgt := 48) hx hb dX2_raiseDust_12 (by decide) (fun c_2 => absurd c_2 (nI_ge hk_k (by decide))) (fun c_2 => ?_)
    refine lv_aload_n hx hb dX2_raiseDust_15 rfl (lv_at hl 1 rfl) ?_
    refine lv_iload_n hx hb dX2_raiseDust_16 rfl (lv_at hl 3 rfl) ?_
    refine g_aald hx hb hK hG (hV.row 1 (by decide)) (gC_row1 hV.1) (by decide) (by decide) rfl (gLen_row1 hV.1) (j := k) (nI_clamp (by omega)) (vp_in_nI (by omega) (by decide)) (hV.s (i := k) (by omega)) dX2_raiseDust_17 ?_
    refine lv_astore (lv' := [(4, .ref (gad Γ (25 * r + 4 + k))), (0, .ref (gad Γ (25 * r))), (1, .ref (gad Γ (25 * r + 1))), (2, .int (nI 10)), (3, .int (nI k))]) hx hb dX2_raiseDust_18 hl (by decide) rfl (fun ls hl => ?_)
    refine lv_aload hx hb dX2_raiseDust_20 (lv_at hl 0 rfl) ?_
    refine lv_aload_n hx hb dX2_raiseDust_22 rfl (lv_at hl 1 rfl) ?_
    refine gRd_get hx hb hts in_X2 hown hK hG hV.1 hV.c0 6 (by decide) k_3 (fun _ h => h) (j := 6) rfl dX2_raiseDust_23 ?_
    refine lv_aload_n hx hb dX2_raiseDust_26 rfl (lv_at hl 1 rfl) ?_
    refine gRd_get hx hb hts in_X2 hown hK hG hV.1 hV.c0 5 (by decide) k_4 (fun _ h => h) (j := 5) rfl dX2_raiseDust_27 ?_
    refine g_callV (As := [.int ((fX2_raiseDust_L  P k) 6), .int ((fX2_raiseDust_L  P k) 5)]) (rest := []) (st1 := []) hF (cX3_dry M R O hV.1 (by omega) (hV.seg (i := k) (by omega)) (fX2_raiseDust_L  P k) ((fX2_raiseDust_L  P k) 6) ((fX2_raiseDust_L  P k) 5)) (cwV 2 hts gX2_raiseDust_X3_dry rfl rfl rfl (by decide +kernel) ⟨Nat.le_of_ble_eq_true rfl, Nat.le_of_ble_eq_true rfl⟩) hK hZ hG hS (hV.seg (i := k) (by omega)) (gC_S hV.1 (by omega)) (by decide) rfl rfl hl.1 (Nat.le_of_ble_eq_true rfl) dX2_raiseDust_30 ⟨Nat.le_refl _, Nat.le_refl _⟩ rfl rfl (fun H locs hG hS => ?_)
    refine lv_aload hx hb dX2_raiseDust_33 (lv_at hl 0 rfl) ?_
    refine lv_aload_n hx hb dX2_raiseDust_35 rfl (lv_at hl 1 rfl) ?_
    refine gRd_get hx hb hts in_X2 hown hK hG hV.1 hV.c0 5 (by decide) k_4 (fun _ h => h) (j := 5) rfl dX2_raiseDust_36 ?_
    refine g_callV (As := [.int ((fX3_dry_P (fX2_raiseDust_L  P k) k ((fX2_raiseDust_L  P k) 6) ((fX2_raiseDust_L  P k) 5)) 5)]) (rest := []) (st1 := []) hF (cX3_raise M R O hV.1 (by omega) (hV.seg (i := k) (by omega)) (fX3_dry_P (fX2_raiseDust_L  P k) k ((fX2_raiseDust_L  P k) 6) ((fX2_raiseDust_L  P k) 5)) ((fX3_dry_P (fX2_raiseDust_L  P k) k ((fX2_raiseDust_L  P k) 6) ((fX2_raiseDust_L  P k) 5)) 5)) (cwV 1 hts gX2_raiseDust_X3_raise rfl rfl rfl (by decide +kernel) ⟨Nat.le_of_ble_eq_true rfl, Nat.le_of_ble_eq_true rfl⟩) hK hZ hG hS (hV.seg (i := k) (by omega)) (gC_S hV.1 (by omega)) (by decide) rfl rfl hl.1 (Nat.le_of_ble_eq_true rfl) dX2_raiseDust_39 ⟨Nat.le_refl _, Nat.le_refl _⟩ rfl rfl (fun H locs hG hS => ?_)
    refine lv_iinc (v := nI (k + 1)) (lv' := [(3, .int (nI (k + 1))), (4, .ref (gad Γ (25 * r + 4 + k))), (0, .ref (gad Γ (25 * r))), (1, .ref (gad Γ (25 * r + 1))), (2, .int (nI 10))]) hx hb dX2_raiseDust_42 hl (k := 4) rfl (nI_1 _) (by decide) rfl (fun ls hl => ?_)
    refine lv_goto (tgt := 10) hx hb dX2_raiseDust_45 (by decide) ?_
    exact ih_k _ _ _ ⟨hG, hS, lv_sub hl [2, 3, 4, 0] rfl⟩

def fX2_turnClock_S  (Pk : Nat → Int32) (k : Nat) : Nat → Int32 := upd Pk (122 + 3 * k + 2) 4
def fX2_turnClock_L  (P : Nat → Int32) : Nat → Nat → Int32
  | 0 => P
  | k + 1 => fX2_turnClock_S  (fX2_turnClock_L  P k) k
def fX2_turnClock_P (P : Nat → Int32) : Nat → Int32 := if ((upd P 4 ((P 4) + 1)) 4) < 10 then fX2_turnClock_L  (upd P 4 ((P 4) + 1)) 3 else fX2_turnClock_L  (upd (upd (upd (upd P 4 ((P 4) + 1)) 4 0) 3 (((upd (upd P 4 ((P 4) + 1)) 4 0) 3) + 1)) 9 0) 3
set_option maxHeartbeats 4000000 in
set_option maxRecDepth 100000 in
theorem cX2_turnClock {l : Launch} {Γ : gX} (M : Nat → Nat → Int32) (R : Nat → Nat → Option Nat) (O : Int64) {r : Nat} (hV : LV Γ R r) (P : Nat → Int32) : gMet l Γ yX2_turnClock wsX2_turnClock 0 0 [.ref (gad Γ (25 * r))] (va_up M r P) R O none (va_up M r (fX2_turnClock_P P)) R O := by
  refine g_start (cc := cX2_turnClock) (maxL := 5) (ret := none) (by decide) rfl (by decide) ?_
  intro p e s m below meth c ls hx hb hml hrt hts hown hlocks hname hK hZ hG hS hl
  have hl : lv_has ls 5 [(0, .ref (gad Γ (25 * r)))] := hl
  have hown : s.vm.findClass RX2 = some m.cls := hown
  have hF : CallFix p m c cX2_turnClock 5 s _ wsX2_turnClock RX2 := ⟨hx, hb, hml, hown, hts⟩
  have k_1 : (Cond.fieldLink RX2 48 "RoadDust$Road" "hour" "I").before _ s = true := hts _ (by decide +kernel)
  have in_X2 : ∀ w ∈ wsX20, w ∈ wsX2_turnClock := by decide +kernel
  have k_3 : (Cond.fieldLink RX2 25 "RoadDust$Road" "wagonRow" "[LRoadDust$Wagon;").before _ s = true := hts _ (by decide +kernel)
  have k_4 : (Cond.fieldLink RX2 131 "RoadDust$Wagon" "moves" "I").before _ s = true := hts _ (by decide +kernel)
  have in_X5 : ∀ w ∈ wsX50, w ∈ wsX2_turnClock := by decide +kernel
  have k_6 : (Cond.fieldLink RX2 45 "RoadDust$Road" "day" "I").before _ s = true := hts _ (by decide +kernel)
  have k_7 : (Cond.fieldLink RX2 63 "RoadDust$Road" "filled" "I").before _ s = true := hts _ (by decide +kernel)
  refine lv_aload_n hx hb dX2_turnClock_0 rfl (lv_at hl 0 rfl) ?_
  refine lv_dup hx hb dX2_turnClock_1 rfl ?_
  refine gRd_get hx hb hts in_X2 hown hK hG hV.1 hV.c0 4 (by decide) k_1 (fun _ h => h) (j := 4) rfl dX2_turnClock_2 ?_
  refine lv_iconst (v := 1) hx hb dX2_turnClock_5 (by decide) ?_
  refine lv_iadd hx hb dX2_turnClock_6 ?_
  refine gRd_put hx hb hts in_X2 hown hK hG hS hV.1 hV.c0 4 (by decide) k_1 (fun _ h => h) rfl .int (by decide +kernel) rfl rfl (j := 4) rfl dX2_turnClock_7 (fun H locs hG hS => ?_)
  refine lv_aload_n hx hb dX2_turnClock_10 rfl (lv_at hl 0 rfl) ?_
  refine gRd_get hx hb hts in_X2 hown hK hG hV.1 hV.c0 4 (by decide) k_1 (fun _ h => h) (j := 4) rfl dX2_turnClock_11 ?_
  refine lv_bipush (v := 10) hx hb dX2_turnClock_14 (by decide) ?_
  refine lv_icmp_lt (tgt := 39) hx hb dX2_turnClock_16 (by decide) (fun c_1 => ?_) (fun c_1 => ?_)
  · --T
    refine lv_aload_n hx hb dX2_turnClock_39 rfl (lv_at hl 0 rfl) ?_
    refine gRd_getr hx hb hts in_X2 hown hK hG hV.1 hV.c0 14 (by decide) rfl hV.2.2.2.2.1 k_3 (fun _ h => h) dX2_turnClock_40 ?_
    refine lv_astore_n (lv' := [(1, .ref (gad Γ (25 * r + 3))), (0, .ref (gad Γ (25 * r)))]) hx hb dX2_turnClock_43 rfl hl (by decide) rfl (fun ls hl => ?_)
    refine lv_aload_n hx hb dX2_turnClock_44 rfl (lv_at hl 0 rfl) ?_
    refine g_alen hx hb hK hG (hV.row 3 (by decide)) (gC_row3 hV.1) (by decide) (by decide) (gLen_row3 hV.1) dX2_turnClock_45 ?_
    refine lv_istore_n (lv' := [(2, .int (nI 3)), (1, .ref (gad Γ (25 * r + 3))), (0, .ref (gad Γ (25 * r)))]) hx hb dX2_turnClock_46 rfl hl (by decide) rfl (fun ls hl => ?_)
    refine lv_iconst (v := 0) hx hb dX2_turnClock_47 (by decide) ?_
    refine lv_istore_n (lv' := [(3, .int 0), (2, .int (nI 3)), (1, .ref (gad Γ (25 * r + 3))), (0, .ref (gad Γ (25 * r)))]) hx hb dX2_turnClock_48 rfl hl (by decide) rfl (fun ls hl => ?_)
    refine g_loop (N := 3) (fun k H locs ls => GH Γ (va_up M r (fX2_turnClock_L  (upd P 4 ((P 4) + 1)) k)) R O H ∧ va_S (gA Γ) s.heap H locs ∧ lv_has ls 5 [(0, .ref (gad Γ (25 * r))), (1, .ref (gad Γ (25 * r + 3))), (2, .int (nI 3)), (3, .int (nI k))]) ?_ ?_ 0 (Nat.zero_le _) _ _ _ ⟨hG, hS, lv_sub hl [3, 2, 1, 0] rfl⟩
    · rintro H locs ls ⟨hG, hS, hl⟩
      refine lv_iload_n hx hb dX2_turnClock_49 rfl (lv_at hl 3 rfl) ?_
      refine lv_iload_n hx hb dX2_turnClock_50 rfl (lv_at hl 2 rfl) ?_
      refine lv_icmp_ge (tgt := 71) hx hb dX2_turnClock_51 (by decide) (fun c_2 => ?_) (fun c_2 => absurd (nI_le (Nat.le_refl _) (by decide)) c_2)
      exact g_vret hx hb hrt hlocks hS hG (congrArg (va_up M r) (by unfold fX2_turnClock_P; rw [if_pos c_1])) rfl dX2_turnClock_71
    · rintro k hk_k ih_k H locs ls ⟨hG, hS, hl⟩
      refine lv_iload_n hx hb dX2_turnClock_49 rfl (lv_at hl 3 rfl) ?_
      refine lv_iload_n hx hb dX2_turnClock_50 rfl (lv_at hl 2 rfl) ?_
      refine lv_icmp_ge (tgt := 71) hx hb dX2_turnClock_51 (by decide) (fun c_3 => absurd c_3 (nI_ge hk_k (by decide))) (fun c_3 => ?_)
      refine lv_aload_n hx hb dX2_turnClock_54 rfl (lv_at hl 1 rfl) ?_
      refine lv_iload_n hx hb dX2_turnClock_55 rfl (lv_at hl 3 rfl) ?_
      refine g_aald hx hb hK hG (hV.row 3 (by decide)) (gC_row3 hV.1) (by decide) (by decide) rfl (gLen_row3 hV.1) (j := k) (nI_clamp (by omega)) (vp_in_nI (by omega) (by decide)) (hV.w (i := k) (by omega)) dX2_turnClock_56 ?_
      refine lv_astore (lv' := [(4, .ref (gad Γ (25 * r + 22 + k))), (0, .ref (gad Γ (25 * r))), (1, .ref (gad Γ (25 * r + 3))), (2, .int (nI 3)), (3, .int (nI k))]) hx hb dX2_turnClock_57 hl (by decide) rfl (fun ls hl => ?_)
      refine lv_aload hx hb dX2_turnClock_59 (lv_at hl 0 rfl) ?_
      refine lv_iconst (v := 4) hx hb dX2_turnClock_61 (by decide) ?_
      refine gWg_put hx hb hts in_X5 hown hK hG hS hV.1 (by omega) (hV.wag (i := k) (by omega)) 2 (by decide) k_4 (fun _ h => h) rfl .int (by decide +kernel) rfl rfl (j := 122 + 3 * k + 2) rfl dX2_turnClock_62 (fun H locs hG hS => ?_)
      refine lv_iinc (v := nI (k + 1)) (lv' := [(3, .int (nI (k + 1))), (4, .ref (gad Γ (25 * r + 22 + k))), (0, .ref (gad Γ (25 * r))), (1, .ref (gad Γ (25 * r + 3))), (2, .int (nI 3))]) hx hb dX2_turnClock_65 hl (k := 4) rfl (nI_1 _) (by decide) rfl (fun ls hl => ?_)
      refine lv_goto (tgt := 49) hx hb dX2_turnClock_68 (by decide) ?_
      exact ih_k _ _ _ ⟨hG, hS, lv_sub hl [2, 3, 4, 0] rfl⟩
  · --F
    refine lv_aload_n hx hb dX2_turnClock_19 rfl (lv_at hl 0 rfl) ?_
    refine lv_iconst (v := 0) hx hb dX2_turnClock_20 (by decide) ?_
    refine gRd_put hx hb hts in_X2 hown hK hG hS hV.1 hV.c0 4 (by decide) k_1 (fun _ h => h) rfl .int (by decide +kernel) rfl rfl (j := 4) rfl dX2_turnClock_21 (fun H locs hG hS => ?_)
    refine lv_aload_n hx hb dX2_turnClock_24 rfl (lv_at hl 0 rfl) ?_
    refine lv_dup hx hb dX2_turnClock_25 rfl ?_
    refine gRd_get hx hb hts in_X2 hown hK hG hV.1 hV.c0 3 (by decide) k_6 (fun _ h => h) (j := 3) rfl dX2_turnClock_26 ?_
    refine lv_iconst (v := 1) hx hb dX2_turnClock_29 (by decide) ?_
    refine lv_iadd hx hb dX2_turnClock_30 ?_
    refine gRd_put hx hb hts in_X2 hown hK hG hS hV.1 hV.c0 3 (by decide) k_6 (fun _ h => h) rfl .int (by decide +kernel) rfl rfl (j := 3) rfl dX2_turnClock_31 (fun H locs hG hS => ?_)
    refine lv_aload_n hx hb dX2_turnClock_34 rfl (lv_at hl 0 rfl) ?_
    refine lv_iconst (v := 0) hx hb dX2_turnClock_35 (by decide) ?_
    refine gRd_put hx hb hts in_X2 hown hK hG hS hV.1 hV.c0 9 (by decide) k_7 (fun _ h => h) rfl .int (by decide +kernel) rfl rfl (j := 9) rfl dX2_turnClock_36 (fun H locs hG hS => ?_)
    refine lv_aload_n hx hb dX2_turnClock_39 rfl (lv_at hl 0 rfl) ?_
    refine gRd_getr hx hb hts in_X2 hown hK hG hV.1 hV.c0 14 (by decide) rfl hV.2.2.2.2.1 k_3 (fun _ h => h) dX2_turnClock_40 ?_
    refine lv_astore_n (lv' := [(1, .ref (gad Γ (25 * r + 3))), (0, .ref (gad Γ (25 * r)))]) hx hb dX2_turnClock_43 rfl hl (by decide) rfl (fun ls hl => ?_)
    refine lv_aload_n hx hb dX2_turnClock_44 rfl (lv_at hl 0 rfl) ?_
    refine g_alen hx hb hK hG (hV.row 3 (by decide)) (gC_row3 hV.1) (by decide) (by decide) (gLen_row3 hV.1) dX2_turnClock_45 ?_
    refine lv_istore_n (lv' := [(2, .int (nI 3)), (1, .ref (gad Γ (25 * r + 3))), (0, .ref (gad Γ (25 * r)))]) hx hb dX2_turnClock_46 rfl hl (by decide) rfl (fun ls hl => ?_)
    refine lv_iconst (v := 0) hx hb dX2_turnClock_47 (by decide) ?_
    refine lv_istore_n (lv' := [(3, .int 0), (2, .int (nI 3)), (1, .ref (gad Γ (25 * r + 3))), (0, .ref (gad Γ (25 * r)))]) hx hb dX2_turnClock_48 rfl hl (by decide) rfl (fun ls hl => ?_)
    refine g_loop (N := 3) (fun k H locs ls => GH Γ (va_up M r (fX2_turnClock_L  (upd (upd (upd (upd P 4 ((P 4) + 1)) 4 0) 3 (((upd (upd P 4 ((P 4) + 1)) 4 0) 3) + 1)) 9 0) k)) R O H ∧ va_S (gA Γ) s.heap H locs ∧ lv_has ls 5 [(0, .ref (gad Γ (25 * r))), (1, .ref (gad Γ (25 * r + 3))), (2, .int (nI 3)), (3, .int (nI k))]) ?_ ?_ 0 (Nat.zero_le _) _ _ _ ⟨hG, hS, lv_sub hl [3, 2, 1, 0] rfl⟩
    · rintro H locs ls ⟨hG, hS, hl⟩
      refine lv_iload_n hx hb dX2_turnClock_49 rfl (lv_at hl 3 rfl) ?_
      refine lv_iload_n hx hb dX2_turnClock_50 rfl (lv_at hl 2 rfl) ?_
      refine lv_icmp_ge (tgt := 71) hx hb dX2_turnClock_51 (by decide) (fun c_4 => ?_) (fun c_4 => absurd (nI_le (Nat.le_refl _) (by decide)) c_4)
      exact g_vret hx hb hrt hlocks hS hG (congrArg (va_up M r) (by unfold fX2_turnClock_P; rw [if_neg c_1])) rfl dX2_turnClock_71
    · rintro k hk_k ih_k H locs ls ⟨hG, hS, hl⟩
      refine lv_iload_n hx hb dX2_turnClock_49 rfl (lv_at hl 3 rfl) ?_
      refine lv_iload_n hx hb dX2_turnClock_50 rfl (lv_at hl 2 rfl) ?_
      refine lv_icmp_ge (tgt := 71) hx hb dX2_turnClock_51 (by decide) (fun c_5 => absurd c_5 (nI_ge hk_k (by decide))) (fun c_5 => ?_)
      refine lv_aload_n hx hb dX2_turnClock_54 rfl (lv_at hl 1 rfl) ?_
      refine lv_iload_n hx hb dX2_turnClock_55 rfl (lv_at hl 3 rfl) ?_
      refine g_aald hx hb hK hG (hV.row 3 (by decide)) (gC_row3 hV.1) (by decide) (by decide) rfl (gLen_row3 hV.1) (j := k) (nI_clamp (by omega)) (vp_in_nI (by omega) (by decide)) (hV.w (i := k) (by omega)) dX2_turnClock_56 ?_
      refine lv_astore (lv' := [(4, .ref (gad Γ (25 * r + 22 + k))), (0, .ref (gad Γ (25 * r))), (1, .ref (gad Γ (25 * r + 3))), (2, .int (nI 3)), (3, .int (nI k))]) hx hb dX2_turnClock_57 hl (by decide) rfl (fun ls hl => ?_)
      refine lv_aload hx hb dX2_turnClock_59 (lv_at hl 0 rfl) ?_
      refine lv_iconst (v := 4) hx hb dX2_turnClock_61 (by decide) ?_
      refine gWg_put hx hb hts in_X5 hown hK hG hS hV.1 (by omega) (hV.wag (i := k) (by omega)) 2 (by decide) k_4 (fun _ h => h) rfl .int (by decide +kernel) rfl rfl (j := 122 + 3 * k + 2) rfl dX2_turnClock_62 (fun H locs hG hS => ?_)
      refine lv_iinc (v := nI (k + 1)) (lv' := [(3, .int (nI (k + 1))), (4, .ref (gad Γ (25 * r + 22 + k))), (0, .ref (gad Γ (25 * r))), (1, .ref (gad Γ (25 * r + 3))), (2, .int (nI 3))]) hx hb dX2_turnClock_65 hl (k := 4) rfl (nI_1 _) (by decide) rfl (fun ls hl => ?_)
      refine lv_goto (tgt := 49) hx hb dX2_turnClock_68 (by decide) ?_
      exact ih_k _ _ _ ⟨hG, hS, lv_sub hl [2, 3, 4, 0] rfl⟩

def fX2_reachHouses_S  (Pk : Nat → Int32) (k : Nat) : Nat → Int32 := if okI (Pk (82 + 5 * k)) (Pk 0) 10 then if ((upd (upd Pk (82 + 5 * k + 4) (fX2_dustFor_v Pk k)) (82 + 5 * k + 2) (((upd Pk (82 + 5 * k + 4) (fX2_dustFor_v Pk k)) (82 + 5 * k + 2)) + ((upd Pk (82 + 5 * k + 4) (fX2_dustFor_v Pk k)) (82 + 5 * k + 4)))) (82 + 5 * k + 4)) < ((upd (upd Pk (82 + 5 * k + 4) (fX2_dustFor_v Pk k)) (82 + 5 * k + 2) (((upd Pk (82 + 5 * k + 4) (fX2_dustFor_v Pk k)) (82 + 5 * k + 2)) + ((upd Pk (82 + 5 * k + 4) (fX2_dustFor_v Pk k)) (82 + 5 * k + 4)))) 7) then upd (upd Pk (82 + 5 * k + 4) (fX2_dustFor_v Pk k)) (82 + 5 * k + 2) (((upd Pk (82 + 5 * k + 4) (fX2_dustFor_v Pk k)) (82 + 5 * k + 2)) + ((upd Pk (82 + 5 * k + 4) (fX2_dustFor_v Pk k)) (82 + 5 * k + 4))) else fX3_hearComplaint_P (upd (upd (upd (upd Pk (82 + 5 * k + 4) (fX2_dustFor_v Pk k)) (82 + 5 * k + 2) (((upd Pk (82 + 5 * k + 4) (fX2_dustFor_v Pk k)) (82 + 5 * k + 2)) + ((upd Pk (82 + 5 * k + 4) (fX2_dustFor_v Pk k)) (82 + 5 * k + 4)))) 10 (((upd (upd Pk (82 + 5 * k + 4) (fX2_dustFor_v Pk k)) (82 + 5 * k + 2) (((upd Pk (82 + 5 * k + 4) (fX2_dustFor_v Pk k)) (82 + 5 * k + 2)) + ((upd Pk (82 + 5 * k + 4) (fX2_dustFor_v Pk k)) (82 + 5 * k + 4)))) 10) + 1)) (82 + 5 * k + 3) (((upd (upd (upd Pk (82 + 5 * k + 4) (fX2_dustFor_v Pk k)) (82 + 5 * k + 2) (((upd Pk (82 + 5 * k + 4) (fX2_dustFor_v Pk k)) (82 + 5 * k + 2)) + ((upd Pk (82 + 5 * k + 4) (fX2_dustFor_v Pk k)) (82 + 5 * k + 4)))) 10 (((upd (upd Pk (82 + 5 * k + 4) (fX2_dustFor_v Pk k)) (82 + 5 * k + 2) (((upd Pk (82 + 5 * k + 4) (fX2_dustFor_v Pk k)) (82 + 5 * k + 2)) + ((upd Pk (82 + 5 * k + 4) (fX2_dustFor_v Pk k)) (82 + 5 * k + 4)))) 10) + 1)) (82 + 5 * k + 3)) + 1)) ((Pk (82 + 5 * k)).toNatClampNeg)  else Pk
def fX2_reachHouses_L  (P : Nat → Int32) : Nat → Nat → Int32
  | 0 => P
  | k + 1 => fX2_reachHouses_S  (fX2_reachHouses_L  P k) k
theorem upd_ne (f : Nat → Int32) {k j : Nat} (v : Int32) (h : j ≠ k) : upd f k v j = f j := if_neg h
theorem hear_lo (P : Nat → Int32) (i j : Nat) (h : j < 12) : fX3_hearComplaint_P P i j = P j := by
  unfold fX3_hearComplaint_P
  split <;> (repeat rw [upd_ne _ _ (by omega)])
theorem fX2_reachHouses_S1 (P : Nat → Int32) (k : Nat) : fX2_reachHouses_S P k 1 = P 1 := by
  unfold fX2_reachHouses_S
  repeat (first | split | rw [hear_lo _ _ _ (by decide)] | rw [upd_ne _ _ (by omega)] | rfl)
theorem fX2_reachHouses_L1 (P : Nat → Int32) : ∀ k, fX2_reachHouses_L P k 1 = P 1
  | 0 => rfl
  | k + 1 => (fX2_reachHouses_S1 _ k).trans (fX2_reachHouses_L1 P k)
def fX2_reachHouses_P (P : Nat → Int32) : Nat → Int32 := fX2_reachHouses_L  P ((P 1).toNatClampNeg)
set_option maxHeartbeats 4000000 in
set_option maxRecDepth 100000 in
theorem cX2_reachHouses {l : Launch} {Γ : gX} (M : Nat → Nat → Int32) (R : Nat → Nat → Option Nat) (O : Int64) {r : Nat} (hV : LV Γ R r) (P : Nat → Int32) (h8 : (P 1).toNatClampNeg ≤ 8) : gMet l Γ yX2_reachHouses wsX2_reachHouses 2 44 [.ref (gad Γ (25 * r))] (va_up M r P) R O none (va_up M r (fX2_reachHouses_P P)) R O := by
  refine g_start (cc := cX2_reachHouses) (maxL := 4) (ret := none) (by decide) rfl (by decide) ?_
  intro p e s m below meth c ls hx hb hml hrt hts hown hlocks hname hK hZ hG hS hl
  have hl : lv_has ls 4 [(0, .ref (gad Γ (25 * r)))] := hl
  have hown : s.vm.findClass RX2 = some m.cls := hown
  have hF : CallFix p m c cX2_reachHouses 4 s _ wsX2_reachHouses RX2 := ⟨hx, hb, hml, hown, hts⟩
  have k_1 : (Cond.fieldLink RX2 39 "RoadDust$Road" "houses" "I").before _ s = true := hts _ (by decide +kernel)
  have in_X2 : ∀ w ∈ wsX20, w ∈ wsX2_reachHouses := by decide +kernel
  have k_3 : (Cond.fieldLink RX2 185 "RoadDust$House" "segment" "I").before _ s = true := hts _ (by decide +kernel)
  have in_X1 : ∀ w ∈ wsX10, w ∈ wsX2_reachHouses := by decide +kernel
  have k_5 : (Cond.fieldLink RX2 190 "RoadDust$House" "got" "I").before _ s = true := hts _ (by decide +kernel)
  have k_6 : (Cond.fieldLink RX2 193 "RoadDust$House" "sum" "I").before _ s = true := hts _ (by decide +kernel)
  have k_7 : (Cond.fieldLink RX2 57 "RoadDust$Road" "bound" "I").before _ s = true := hts _ (by decide +kernel)
  have k_8 : (Cond.fieldLink RX2 66 "RoadDust$Road" "complaints" "I").before _ s = true := hts _ (by decide +kernel)
  have k_9 : (Cond.fieldLink RX2 196 "RoadDust$House" "complaints" "I").before _ s = true := hts _ (by decide +kernel)
  refine lv_iconst (v := 0) hx hb dX2_reachHouses_0 (by decide) ?_
  refine lv_istore_n (lv' := [(1, .int 0), (0, .ref (gad Γ (25 * r)))]) hx hb dX2_reachHouses_1 rfl hl (by decide) rfl (fun ls hl => ?_)
  refine g_loop (N := (P 1).toNatClampNeg) (fun k H locs ls => GH Γ (va_up M r (fX2_reachHouses_L  P k)) R O H ∧ va_S (gA Γ) s.heap H locs ∧ lv_has ls 4 [(0, .ref (gad Γ (25 * r))), (1, .int (nI k))]) ?_ ?_ 0 (Nat.zero_le _) _ _ _ ⟨hG, hS, lv_sub hl [1, 0] rfl⟩
  · rintro H locs ls ⟨hG, hS, hl⟩
    refine lv_iload_n hx hb dX2_reachHouses_2 rfl (lv_at hl 1 rfl) ?_
    refine lv_aload_n hx hb dX2_reachHouses_3 rfl (lv_at hl 0 rfl) ?_
    refine gRd_get hx hb hts in_X2 hown hK hG hV.1 hV.c0 1 (by decide) k_1 (fun _ h => h) (j := 1) rfl dX2_reachHouses_4 ?_
    refine lv_icmp_ge (tgt := 104) hx hb dX2_reachHouses_7 (by decide) (fun c_1 => ?_) (fun c_1 => absurd (by rw [fX2_reachHouses_L1]; exact cl_le _) c_1)
    exact g_vret hx hb hrt hlocks hS hG (congrArg (va_up M r) (by unfold fX2_reachHouses_P; rfl)) rfl dX2_reachHouses_104
  · rintro k hk_k ih_k H locs ls ⟨hG, hS, hl⟩
    refine lv_iload_n hx hb dX2_reachHouses_2 rfl (lv_at hl 1 rfl) ?_
    refine lv_aload_n hx hb dX2_reachHouses_3 rfl (lv_at hl 0 rfl) ?_
    refine gRd_get hx hb hts in_X2 hown hK hG hV.1 hV.c0 1 (by decide) k_1 (fun _ h => h) (j := 1) rfl dX2_reachHouses_4 ?_
    refine lv_icmp_ge (tgt := 104) hx hb dX2_reachHouses_7 (by decide) (fun c_2 => absurd c_2 (by rw [fX2_reachHouses_L1]; exact cl_ge hk_k)) (fun c_2 => ?_)
    refine lv_aload_n hx hb dX2_reachHouses_10 rfl (lv_at hl 0 rfl) ?_
    refine lv_iload_n hx hb dX2_reachHouses_11 rfl (lv_at hl 1 rfl) ?_
    have c_3 : okI (nI k) ((fX2_reachHouses_L  P k) 1) 8 := okI_k (n := fX2_reachHouses_L  P k 1) rfl (by rw [fX2_reachHouses_L1]; exact hk_k) (by omega) (by decide)
    refine g_callV (As := [.int (nI k)]) (rest := []) (st1 := [.ref (gad Γ (25 * r + 14 + k))]) hF (cX2_houseAt_y M R O hV (fX2_reachHouses_L  P k) c_3 (j := k) (nI_clamp (by omega))) (cwV 1 hts gX2_reachHouses_X2_houseAt rfl rfl rfl (by decide +kernel) ⟨Nat.le_of_ble_eq_true rfl, Nat.le_of_ble_eq_true rfl⟩) hK hZ hG hS hV.c0 (gC_Rd hV.1) (by decide) rfl rfl hl.1 (Nat.le_of_ble_eq_true rfl) dX2_reachHouses_12 ⟨Nat.le_refl _, Nat.le_refl _⟩ rfl rfl (fun H locs hG hS => ?_)
    refine lv_astore_n (lv' := [(2, .ref (gad Γ (25 * r + 14 + k))), (0, .ref (gad Γ (25 * r))), (1, .int (nI k))]) hx hb dX2_reachHouses_15 rfl hl (by decide) rfl (fun ls hl => ?_)
    refine lv_aload_n hx hb dX2_reachHouses_16 rfl (lv_at hl 0 rfl) ?_
    refine lv_ifnonnull (tgt := 24) hx hb dX2_reachHouses_17 (by decide) ?_
    refine lv_aload_n hx hb dX2_reachHouses_24 rfl (lv_at hl 1 rfl) ?_
    refine lv_aload_n hx hb dX2_reachHouses_25 rfl (lv_at hl 0 rfl) ?_
    refine gHs_get hx hb hts in_X1 hown hK hG hV.1 (by omega) (hV.hou (i := k) (by omega)) 0 (by decide) k_3 (fun _ h => h) (j := 82 + 5 * k) rfl dX2_reachHouses_26 ?_
    by_cases c_4 : okI ((fX2_reachHouses_L  P k) (82 + 5 * k)) ((fX2_reachHouses_L  P k) 0) 10
    · --ok
      refine g_callV (As := [.int ((fX2_reachHouses_L  P k) (82 + 5 * k))]) (rest := []) (st1 := [.ref (gad Γ (25 * r + 4 + (((fX2_reachHouses_L  P k) (82 + 5 * k)).toNatClampNeg)))]) hF (cX2_segmentAt_y M R O hV (fX2_reachHouses_L  P k) c_4 (j := ((fX2_reachHouses_L  P k) (82 + 5 * k)).toNatClampNeg) rfl) (cwV 1 hts gX2_reachHouses_X2_segmentAt rfl rfl rfl (by decide +kernel) ⟨Nat.le_of_ble_eq_true rfl, Nat.le_of_ble_eq_true rfl⟩) hK hZ hG hS hV.c0 (gC_Rd hV.1) (by decide) rfl rfl hl.1 (Nat.le_of_ble_eq_true rfl) dX2_reachHouses_29 ⟨Nat.le_refl _, Nat.le_refl _⟩ rfl rfl (fun H locs hG hS => ?_)
      refine lv_astore_n (lv' := [(3, .ref (gad Γ (25 * r + 4 + (((fX2_reachHouses_L  P k) (82 + 5 * k)).toNatClampNeg)))), (2, .ref (gad Γ (25 * r + 14 + k))), (0, .ref (gad Γ (25 * r))), (1, .int (nI k))]) hx hb dX2_reachHouses_32 rfl hl (by decide) rfl (fun ls hl => ?_)
      refine lv_aload_n hx hb dX2_reachHouses_33 rfl (lv_at hl 1 rfl) ?_
      refine lv_ifnull hx hb dX2_reachHouses_34 ?_
      refine lv_aload_n hx hb dX2_reachHouses_37 rfl (lv_at hl 0 rfl) ?_
      refine lv_ifnull hx hb dX2_reachHouses_38 ?_
      refine lv_aload_n hx hb dX2_reachHouses_41 rfl (lv_at hl 1 rfl) ?_
      refine lv_aload_n hx hb dX2_reachHouses_42 rfl (lv_at hl 2 rfl) ?_
      refine lv_aload_n hx hb dX2_reachHouses_43 rfl (lv_at hl 1 rfl) ?_
      refine g_callV (As := [.ref (gad Γ (25 * r + 14 + k))]) (rest := [.ref (gad Γ (25 * r + 14 + k))]) (st1 := [.int (fX2_dustFor_v (fX2_reachHouses_L  P k) k), .ref (gad Γ (25 * r + 14 + k))]) hF (cX2_dustFor M R O hV (fX2_reachHouses_L  P k) (i := k) (by omega)) (cwV 1 hts gX2_reachHouses_X2_dustFor rfl rfl rfl (by decide +kernel) ⟨Nat.le_of_ble_eq_true rfl, Nat.le_of_ble_eq_true rfl⟩) hK hZ hG hS hV.c0 (gC_Rd hV.1) (by decide) rfl rfl hl.1 (Nat.le_of_ble_eq_true rfl) dX2_reachHouses_44 ⟨Nat.le_refl _, Nat.le_refl _⟩ rfl rfl (fun H locs hG hS => ?_)
      refine gHs_put hx hb hts in_X1 hown hK hG hS hV.1 (by omega) (hV.hou (i := k) (by omega)) 4 (by decide) k_5 (fun _ h => h) rfl .int (by decide +kernel) rfl rfl (j := 82 + 5 * k + 4) rfl dX2_reachHouses_47 (fun H locs hG hS => ?_)
      refine lv_aload_n hx hb dX2_reachHouses_50 rfl (lv_at hl 1 rfl) ?_
      refine lv_dup hx hb dX2_reachHouses_51 rfl ?_
      refine gHs_get hx hb hts in_X1 hown hK hG hV.1 (by omega) (hV.hou (i := k) (by omega)) 2 (by decide) k_6 (fun _ h => h) (j := 82 + 5 * k + 2) rfl dX2_reachHouses_52 ?_
      refine lv_aload_n hx hb dX2_reachHouses_55 rfl (lv_at hl 1 rfl) ?_
      refine gHs_get hx hb hts in_X1 hown hK hG hV.1 (by omega) (hV.hou (i := k) (by omega)) 4 (by decide) k_5 (fun _ h => h) (j := 82 + 5 * k + 4) rfl dX2_reachHouses_56 ?_
      refine lv_iadd hx hb dX2_reachHouses_59 ?_
      refine gHs_put hx hb hts in_X1 hown hK hG hS hV.1 (by omega) (hV.hou (i := k) (by omega)) 2 (by decide) k_6 (fun _ h => h) rfl .int (by decide +kernel) rfl rfl (j := 82 + 5 * k + 2) rfl dX2_reachHouses_60 (fun H locs hG hS => ?_)
      refine lv_aload_n hx hb dX2_reachHouses_63 rfl (lv_at hl 1 rfl) ?_
      refine gHs_get hx hb hts in_X1 hown hK hG hV.1 (by omega) (hV.hou (i := k) (by omega)) 4 (by decide) k_5 (fun _ h => h) (j := 82 + 5 * k + 4) rfl dX2_reachHouses_64 ?_
      refine lv_aload_n hx hb dX2_reachHouses_67 rfl (lv_at hl 2 rfl) ?_
      refine gRd_get hx hb hts in_X2 hown hK hG hV.1 hV.c0 7 (by decide) k_7 (fun _ h => h) (j := 7) rfl dX2_reachHouses_68 ?_
      refine lv_icmp_lt (tgt := 98) hx hb dX2_reachHouses_71 (by decide) (fun c_5 => ?_) (fun c_5 => ?_)
      · --T
        refine lv_iinc (v := nI (k + 1)) (lv' := [(1, .int (nI (k + 1))), (3, .ref (gad Γ (25 * r + 4 + (((fX2_reachHouses_L  P k) (82 + 5 * k)).toNatClampNeg)))), (2, .ref (gad Γ (25 * r + 14 + k))), (0, .ref (gad Γ (25 * r)))]) hx hb dX2_reachHouses_98 hl (k := 3) rfl (nI_1 _) (by decide) rfl (fun ls hl => ?_)
        refine lv_goto (tgt := 2) hx hb dX2_reachHouses_101 (by decide) ?_
        exact ih_k _ _ _ ⟨g_st (congrArg (va_up M r) (by show _ = fX2_reachHouses_S  (fX2_reachHouses_L  P k) k; unfold fX2_reachHouses_S; rw [if_pos c_4, if_pos c_5])) hG, hS, lv_sub hl [3, 0] rfl⟩
      · --F
        refine lv_aload_n hx hb dX2_reachHouses_74 rfl (lv_at hl 2 rfl) ?_
        refine lv_dup hx hb dX2_reachHouses_75 rfl ?_
        refine gRd_get hx hb hts in_X2 hown hK hG hV.1 hV.c0 10 (by decide) k_8 (fun _ h => h) (j := 10) rfl dX2_reachHouses_76 ?_
        refine lv_iconst (v := 1) hx hb dX2_reachHouses_79 (by decide) ?_
        refine lv_iadd hx hb dX2_reachHouses_80 ?_
        refine gRd_put hx hb hts in_X2 hown hK hG hS hV.1 hV.c0 10 (by decide) k_8 (fun _ h => h) rfl .int (by decide +kernel) rfl rfl (j := 10) rfl dX2_reachHouses_81 (fun H locs hG hS => ?_)
        refine lv_aload_n hx hb dX2_reachHouses_84 rfl (lv_at hl 1 rfl) ?_
        refine lv_dup hx hb dX2_reachHouses_85 rfl ?_
        refine gHs_get hx hb hts in_X1 hown hK hG hV.1 (by omega) (hV.hou (i := k) (by omega)) 3 (by decide) k_9 (fun _ h => h) (j := 82 + 5 * k + 3) rfl dX2_reachHouses_86 ?_
        refine lv_iconst (v := 1) hx hb dX2_reachHouses_89 (by decide) ?_
        refine lv_iadd hx hb dX2_reachHouses_90 ?_
        refine gHs_put hx hb hts in_X1 hown hK hG hS hV.1 (by omega) (hV.hou (i := k) (by omega)) 3 (by decide) k_9 (fun _ h => h) rfl .int (by decide +kernel) rfl rfl (j := 82 + 5 * k + 3) rfl dX2_reachHouses_91 (fun H locs hG hS => ?_)
        refine lv_aload_n hx hb dX2_reachHouses_94 rfl (lv_at hl 0 rfl) ?_
        refine g_callV (As := []) (rest := []) (st1 := []) hF (cX3_hearComplaint M R O hV.1 (okI_lt (k := 10) rfl (by decide) c_4) (hV.seg (i := ((fX2_reachHouses_L  P k) (82 + 5 * k)).toNatClampNeg) (okI_lt (k := 10) rfl (by decide) c_4)) (upd (upd (upd (upd (fX2_reachHouses_L  P k) (82 + 5 * k + 4) (fX2_dustFor_v (fX2_reachHouses_L  P k) k)) (82 + 5 * k + 2) (((upd (fX2_reachHouses_L  P k) (82 + 5 * k + 4) (fX2_dustFor_v (fX2_reachHouses_L  P k) k)) (82 + 5 * k + 2)) + ((upd (fX2_reachHouses_L  P k) (82 + 5 * k + 4) (fX2_dustFor_v (fX2_reachHouses_L  P k) k)) (82 + 5 * k + 4)))) 10 (((upd (upd (fX2_reachHouses_L  P k) (82 + 5 * k + 4) (fX2_dustFor_v (fX2_reachHouses_L  P k) k)) (82 + 5 * k + 2) (((upd (fX2_reachHouses_L  P k) (82 + 5 * k + 4) (fX2_dustFor_v (fX2_reachHouses_L  P k) k)) (82 + 5 * k + 2)) + ((upd (fX2_reachHouses_L  P k) (82 + 5 * k + 4) (fX2_dustFor_v (fX2_reachHouses_L  P k) k)) (82 + 5 * k + 4)))) 10) + 1)) (82 + 5 * k + 3) (((upd (upd (upd (fX2_reachHouses_L  P k) (82 + 5 * k + 4) (fX2_dustFor_v (fX2_reachHouses_L  P k) k)) (82 + 5 * k + 2) (((upd (fX2_reachHouses_L  P k) (82 + 5 * k + 4) (fX2_dustFor_v (fX2_reachHouses_L  P k) k)) (82 + 5 * k + 2)) + ((upd (fX2_reachHouses_L  P k) (82 + 5 * k + 4) (fX2_dustFor_v (fX2_reachHouses_L  P k) k)) (82 + 5 * k + 4)))) 10 (((upd (upd (fX2_reachHouses_L  P k) (82 + 5 * k + 4) (fX2_dustFor_v (fX2_reachHouses_L  P k) k)) (82 + 5 * k + 2) (((upd (fX2_reachHouses_L  P k) (82 + 5 * k + 4) (fX2_dustFor_v (fX2_reachHouses_L  P k) k)) (82 + 5 * k + 2)) + ((upd (fX2_reachHouses_L  P k) (82 + 5 * k + 4) (fX2_dustFor_v (fX2_reachHouses_L  P k) k)) (82 + 5 * k + 4)))) 10) + 1)) (82 + 5 * k + 3)) + 1)) ) (cwV 0 hts gX2_reachHouses_X3_hearComplaint rfl rfl rfl (by decide +kernel) ⟨Nat.le_of_ble_eq_true rfl, Nat.le_of_ble_eq_true rfl⟩) hK hZ hG hS (hV.seg (i := ((fX2_reachHouses_L  P k) (82 + 5 * k)).toNatClampNeg) (okI_lt (k := 10) rfl (by decide) c_4)) (gC_S hV.1 (okI_lt (k := 10) rfl (by decide) c_4)) (by decide) rfl rfl hl.1 (Nat.le_of_ble_eq_true rfl) dX2_reachHouses_95 ⟨Nat.le_refl _, Nat.le_refl _⟩ rfl rfl (fun H locs hG hS => ?_)
        refine lv_iinc (v := nI (k + 1)) (lv' := [(1, .int (nI (k + 1))), (3, .ref (gad Γ (25 * r + 4 + (((fX2_reachHouses_L  P k) (82 + 5 * k)).toNatClampNeg)))), (2, .ref (gad Γ (25 * r + 14 + k))), (0, .ref (gad Γ (25 * r)))]) hx hb dX2_reachHouses_98 hl (k := 3) rfl (nI_1 _) (by decide) rfl (fun ls hl => ?_)
        refine lv_goto (tgt := 2) hx hb dX2_reachHouses_101 (by decide) ?_
        exact ih_k _ _ _ ⟨g_st (congrArg (va_up M r) (by show _ = fX2_reachHouses_S  (fX2_reachHouses_L  P k) k; unfold fX2_reachHouses_S; rw [if_pos c_4, if_neg c_5])) hG, hS, lv_sub hl [3, 0] rfl⟩
    · --none
      refine g_callV (As := [.int ((fX2_reachHouses_L  P k) (82 + 5 * k))]) (rest := []) (st1 := [.null]) hF (cX2_segmentAt_n M R O hV (fX2_reachHouses_L  P k) c_4) (cwV 1 hts gX2_reachHouses_X2_segmentAt rfl rfl rfl (by decide +kernel) ⟨Nat.le_of_ble_eq_true rfl, Nat.le_of_ble_eq_true rfl⟩) hK hZ hG hS hV.c0 (gC_Rd hV.1) (by decide) rfl rfl hl.1 (Nat.le_of_ble_eq_true rfl) dX2_reachHouses_29 ⟨Nat.le_refl _, Nat.le_refl _⟩ rfl rfl (fun H locs hG hS => ?_)
      refine lv_astore_nN (lv' := [(3, .null), (2, .ref (gad Γ (25 * r + 14 + k))), (0, .ref (gad Γ (25 * r))), (1, .int (nI k))]) hx hb dX2_reachHouses_32 rfl hl (by decide) rfl (fun ls hl => ?_)
      refine lv_aload_n hx hb dX2_reachHouses_33 rfl (lv_at hl 1 rfl) ?_
      refine lv_ifnull hx hb dX2_reachHouses_34 ?_
      refine lv_aload_nN hx hb dX2_reachHouses_37 rfl (lv_at hl 0 rfl) ?_
      refine lv_ifnullN (tgt := 98) hx hb dX2_reachHouses_38 (by decide) ?_
      refine lv_iinc (v := nI (k + 1)) (lv' := [(1, .int (nI (k + 1))), (3, .null), (2, .ref (gad Γ (25 * r + 14 + k))), (0, .ref (gad Γ (25 * r)))]) hx hb dX2_reachHouses_98 hl (k := 3) rfl (nI_1 _) (by decide) rfl (fun ls hl => ?_)
      refine lv_goto (tgt := 2) hx hb dX2_reachHouses_101 (by decide) ?_
      exact ih_k _ _ _ ⟨g_st (congrArg (va_up M r) (by show _ = fX2_reachHouses_S  (fX2_reachHouses_L  P k) k; unfold fX2_reachHouses_S; rw [if_neg c_4])) hG, hS, lv_sub hl [3, 0] rfl⟩

theorem fX2_raiseDust_S1 (P : Nat → Int32) (k j : Nat) (h : j < 12) : fX2_raiseDust_S P k j = P j := by
  unfold fX2_raiseDust_S fX3_raise_P fX3_dry_P
  repeat rw [upd_ne _ _ (by omega)]
theorem fX2_raiseDust_L1 (P : Nat → Int32) (j : Nat) (h : j < 12) : ∀ k, fX2_raiseDust_L P k j = P j
  | 0 => rfl
  | k + 1 => (fX2_raiseDust_S1 _ k j h).trans (fX2_raiseDust_L1 P j h k)
theorem h8_hour {P : Nat → Int32} (h8 : (P 1).toNatClampNeg ≤ 8) : ((fX2_raiseDust_P P) 1).toNatClampNeg ≤ 8 := by
  unfold fX2_raiseDust_P
  rw [fX2_raiseDust_L1 P 1 (by decide)]
  exact h8
def fX2_goHour_S  (Pk : Nat → Int32) (k : Nat) : Nat → Int32 := fX3_settle_P Pk k 
def fX2_goHour_L  (P : Nat → Int32) : Nat → Nat → Int32
  | 0 => P
  | k + 1 => fX2_goHour_S  (fX2_goHour_L  P k) k
def fX2_goHour_P (P : Nat → Int32) : Nat → Int32 := fX2_turnClock_P (fX2_goHour_L  (fX2_reachHouses_P (fX2_raiseDust_P P )) 10) 
set_option maxHeartbeats 4000000 in
set_option maxRecDepth 100000 in
theorem cX2_goHour {l : Launch} {Γ : gX} (M : Nat → Nat → Int32) (R : Nat → Nat → Option Nat) (O : Int64) {r : Nat} (hV : LV Γ R r) (P : Nat → Int32) (h8 : (P 1).toNatClampNeg ≤ 8) : gMet l Γ yX2_goHour wsX2_goHour 3 68 [.ref (gad Γ (25 * r))] (va_up M r P) R O none (va_up M r (fX2_goHour_P P)) R O := by
  refine g_start (cc := cX2_goHour) (maxL := 5) (ret := none) (by decide) rfl (by decide) ?_
  intro p e s m below meth c ls hx hb hml hrt hts hown hlocks hname hK hZ hG hS hl
  have hl : lv_has ls 5 [(0, .ref (gad Γ (25 * r)))] := hl
  have hown : s.vm.findClass RX2 = some m.cls := hown
  have hF : CallFix p m c cX2_goHour 5 s _ wsX2_goHour RX2 := ⟨hx, hb, hml, hown, hts⟩
  have k_1 : (Cond.fieldLink RX2 11 "RoadDust$Road" "segmentRow" "[LRoadDust$Segment;").before _ s = true := hts _ (by decide +kernel)
  have in_X2 : ∀ w ∈ wsX20, w ∈ wsX2_goHour := by decide +kernel
  refine lv_aload_n hx hb dX2_goHour_0 rfl (lv_at hl 0 rfl) ?_
  refine g_callV (As := []) (rest := []) (st1 := []) hF (cX2_raiseDust M R O hV P ) (cwV 0 hts gX2_goHour_X2_raiseDust rfl rfl rfl (by decide +kernel) ⟨Nat.le_of_ble_eq_true rfl, Nat.le_of_ble_eq_true rfl⟩) hK hZ hG hS hV.c0 (gC_Rd hV.1) (by decide) rfl rfl hl.1 (Nat.le_of_ble_eq_true rfl) dX2_goHour_1 ⟨Nat.le_refl _, Nat.le_refl _⟩ rfl rfl (fun H locs hG hS => ?_)
  refine lv_aload_n hx hb dX2_goHour_4 rfl (lv_at hl 0 rfl) ?_
  refine g_callV (As := []) (rest := []) (st1 := []) hF (cX2_reachHouses M R O hV (fX2_raiseDust_P P ) (h8_hour h8)) (cwV 0 hts gX2_goHour_X2_reachHouses rfl rfl rfl (by decide +kernel) ⟨Nat.le_of_ble_eq_true rfl, Nat.le_of_ble_eq_true rfl⟩) hK hZ hG hS hV.c0 (gC_Rd hV.1) (by decide) rfl rfl hl.1 (Nat.le_of_ble_eq_true rfl) dX2_goHour_5 ⟨Nat.le_refl _, Nat.le_refl _⟩ rfl rfl (fun H locs hG hS => ?_)
  refine lv_aload_n hx hb dX2_goHour_8 rfl (lv_at hl 0 rfl) ?_
  refine gRd_getr hx hb hts in_X2 hown hK hG hV.1 hV.c0 12 (by decide) rfl hV.2.2.1 k_1 (fun _ h => h) dX2_goHour_9 ?_
  refine lv_astore_n (lv' := [(1, .ref (gad Γ (25 * r + 1))), (0, .ref (gad Γ (25 * r)))]) hx hb dX2_goHour_12 rfl hl (by decide) rfl (fun ls hl => ?_)
  refine lv_aload_n hx hb dX2_goHour_13 rfl (lv_at hl 0 rfl) ?_
  refine g_alen hx hb hK hG (hV.row 1 (by decide)) (gC_row1 hV.1) (by decide) (by decide) (gLen_row1 hV.1) dX2_goHour_14 ?_
  refine lv_istore_n (lv' := [(2, .int (nI 10)), (1, .ref (gad Γ (25 * r + 1))), (0, .ref (gad Γ (25 * r)))]) hx hb dX2_goHour_15 rfl hl (by decide) rfl (fun ls hl => ?_)
  refine lv_iconst (v := 0) hx hb dX2_goHour_16 (by decide) ?_
  refine lv_istore_n (lv' := [(3, .int 0), (2, .int (nI 10)), (1, .ref (gad Γ (25 * r + 1))), (0, .ref (gad Γ (25 * r)))]) hx hb dX2_goHour_17 rfl hl (by decide) rfl (fun ls hl => ?_)
  refine g_loop (N := 10) (fun k H locs ls => GH Γ (va_up M r (fX2_goHour_L  (fX2_reachHouses_P (fX2_raiseDust_P P )) k)) R O H ∧ va_S (gA Γ) s.heap H locs ∧ lv_has ls 5 [(0, .ref (gad Γ (25 * r))), (1, .ref (gad Γ (25 * r + 1))), (2, .int (nI 10)), (3, .int (nI k))]) ?_ ?_ 0 (Nat.zero_le _) _ _ _ ⟨hG, hS, lv_sub hl [3, 2, 1, 0] rfl⟩
  · rintro H locs ls ⟨hG, hS, hl⟩
    refine lv_iload_n hx hb dX2_goHour_18 rfl (lv_at hl 3 rfl) ?_
    refine lv_iload_n hx hb dX2_goHour_19 rfl (lv_at hl 2 rfl) ?_
    refine lv_icmp_ge (tgt := 39) hx hb dX2_goHour_20 (by decide) (fun c_1 => ?_) (fun c_1 => absurd (nI_le (Nat.le_refl _) (by decide)) c_1)
    refine lv_aload_n hx hb dX2_goHour_39 rfl (lv_at hl 0 rfl) ?_
    refine g_callV (As := []) (rest := []) (st1 := []) hF (cX2_turnClock M R O hV (fX2_goHour_L  (fX2_reachHouses_P (fX2_raiseDust_P P )) 10) ) (cwV 0 hts gX2_goHour_X2_turnClock rfl rfl rfl (by decide +kernel) ⟨Nat.le_of_ble_eq_true rfl, Nat.le_of_ble_eq_true rfl⟩) hK hZ hG hS hV.c0 (gC_Rd hV.1) (by decide) rfl rfl hl.1 (Nat.le_of_ble_eq_true rfl) dX2_goHour_40 ⟨Nat.le_refl _, Nat.le_refl _⟩ rfl rfl (fun H locs hG hS => ?_)
    exact g_vret hx hb hrt hlocks hS hG (congrArg (va_up M r) (by unfold fX2_goHour_P; rfl)) rfl dX2_goHour_43
  · rintro k hk_k ih_k H locs ls ⟨hG, hS, hl⟩
    refine lv_iload_n hx hb dX2_goHour_18 rfl (lv_at hl 3 rfl) ?_
    refine lv_iload_n hx hb dX2_goHour_19 rfl (lv_at hl 2 rfl) ?_
    refine lv_icmp_ge (tgt := 39) hx hb dX2_goHour_20 (by decide) (fun c_2 => absurd c_2 (nI_ge hk_k (by decide))) (fun c_2 => ?_)
    refine lv_aload_n hx hb dX2_goHour_23 rfl (lv_at hl 1 rfl) ?_
    refine lv_iload_n hx hb dX2_goHour_24 rfl (lv_at hl 3 rfl) ?_
    refine g_aald hx hb hK hG (hV.row 1 (by decide)) (gC_row1 hV.1) (by decide) (by decide) rfl (gLen_row1 hV.1) (j := k) (nI_clamp (by omega)) (vp_in_nI (by omega) (by decide)) (hV.s (i := k) (by omega)) dX2_goHour_25 ?_
    refine lv_astore (lv' := [(4, .ref (gad Γ (25 * r + 4 + k))), (0, .ref (gad Γ (25 * r))), (1, .ref (gad Γ (25 * r + 1))), (2, .int (nI 10)), (3, .int (nI k))]) hx hb dX2_goHour_26 hl (by decide) rfl (fun ls hl => ?_)
    refine lv_aload hx hb dX2_goHour_28 (lv_at hl 0 rfl) ?_
    refine g_callV (As := []) (rest := []) (st1 := []) hF (cX3_settle M R O hV.1 (by omega) (hV.seg (i := k) (by omega)) (fX2_goHour_L  (fX2_reachHouses_P (fX2_raiseDust_P P )) k) ) (cwV 0 hts gX2_goHour_X3_settle rfl rfl rfl (by decide +kernel) ⟨Nat.le_of_ble_eq_true rfl, Nat.le_of_ble_eq_true rfl⟩) hK hZ hG hS (hV.seg (i := k) (by omega)) (gC_S hV.1 (by omega)) (by decide) rfl rfl hl.1 (Nat.le_of_ble_eq_true rfl) dX2_goHour_30 ⟨Nat.le_refl _, Nat.le_refl _⟩ rfl rfl (fun H locs hG hS => ?_)
    refine lv_iinc (v := nI (k + 1)) (lv' := [(3, .int (nI (k + 1))), (4, .ref (gad Γ (25 * r + 4 + k))), (0, .ref (gad Γ (25 * r))), (1, .ref (gad Γ (25 * r + 1))), (2, .int (nI 10))]) hx hb dX2_goHour_33 hl (k := 4) rfl (nI_1 _) (by decide) rfl (fun ls hl => ?_)
    refine lv_goto (tgt := 18) hx hb dX2_goHour_36 (by decide) ?_
    exact ih_k _ _ _ ⟨hG, hS, lv_sub hl [2, 3, 4, 0] rfl⟩

theorem fX2_goHour_S1 (P : Nat → Int32) (k j : Nat) (h : j < 12) : fX2_goHour_S P k j = P j := by
  unfold fX2_goHour_S fX3_settle_P
  rw [upd_ne _ _ (by omega)]
theorem fX2_goHour_L1 (P : Nat → Int32) (j : Nat) (h : j < 12) : ∀ k, fX2_goHour_L P k j = P j
  | 0 => rfl
  | k + 1 => (fX2_goHour_S1 _ k j h).trans (fX2_goHour_L1 P j h k)
theorem fX2_turnClock_S1 (P : Nat → Int32) (k j : Nat) (h : j < 12) : fX2_turnClock_S P k j = P j := by
  unfold fX2_turnClock_S
  rw [upd_ne _ _ (by omega)]
theorem fX2_turnClock_L1 (P : Nat → Int32) (j : Nat) (h : j < 12) : ∀ k, fX2_turnClock_L P k j = P j
  | 0 => rfl
  | k + 1 => (fX2_turnClock_S1 _ k j h).trans (fX2_turnClock_L1 P j h k)
theorem fX2_turnClock_1 (P : Nat → Int32) : fX2_turnClock_P P 1 = P 1 := by
  unfold fX2_turnClock_P
  split <;> rw [fX2_turnClock_L1 _ _ (by decide)] <;> (repeat rw [upd_ne _ _ (by decide)])
theorem fX2_goHour_1 (P : Nat → Int32) : fX2_goHour_P P 1 = P 1 := by
  unfold fX2_goHour_P
  rw [fX2_turnClock_1, fX2_goHour_L1 _ _ (by decide)]
  unfold fX2_reachHouses_P
  rw [fX2_reachHouses_L1]
  unfold fX2_raiseDust_P
  rw [fX2_raiseDust_L1 _ _ (by decide)]
def fX2_goHours_S  (Pk : Nat → Int32) (k : Nat) : Nat → Int32 := fX2_goHour_P Pk
def fX2_goHours_L  (P : Nat → Int32) : Nat → Nat → Int32
  | 0 => P
  | k + 1 => fX2_goHours_S  (fX2_goHours_L  P k) k
theorem fX2_goHours_L1 (P : Nat → Int32) : ∀ k, fX2_goHours_L P k 1 = P 1
  | 0 => rfl
  | k + 1 => (fX2_goHour_1 _).trans (fX2_goHours_L1 P k)
def fX2_goHours_v (P : Nat → Int32) (a : Int32) : Int32 := if (fX6_within_v a 1 50) = 0 then (-2) else ((fX2_goHours_L  P a.toNatClampNeg) 10) - (P 6)
def fX2_goHours_P (P : Nat → Int32) (a : Int32) : Nat → Int32 := if (fX6_within_v a 1 50) = 0 then P else fX2_goHours_L  P a.toNatClampNeg
set_option maxHeartbeats 4000000 in
set_option maxRecDepth 100000 in
theorem cX2_goHours {l : Launch} {Γ : gX} (M : Nat → Nat → Int32) (R : Nat → Nat → Option Nat) (O : Int64) {r : Nat} (hV : LV Γ R r) (P : Nat → Int32) (a : Int32) (h8 : (P 1).toNatClampNeg ≤ 8) : gMet l Γ yX2_goHours wsX2_goHours 4 92 [.ref (gad Γ (25 * r)), .int a] (va_up M r P) R O (some (.int (fX2_goHours_v P a))) (va_up M r (fX2_goHours_P P a)) R O := by
  refine g_start (cc := cX2_goHours) (maxL := 4) (ret := (some .int)) (by decide) rfl (by decide) ?_
  intro p e s m below meth c ls hx hb hml hrt hts hown hlocks hname hK hZ hG hS hl
  have hl : lv_has ls 4 [(0, .ref (gad Γ (25 * r))), (1, .int a)] := hl
  have hown : s.vm.findClass RX2 = some m.cls := hown
  have hF : CallFix p m c cX2_goHours 4 s _ wsX2_goHours RX2 := ⟨hx, hb, hml, hown, hts⟩
  have k_1 : (Cond.initialized RX6).before _ s = true := hts _ (by decide +kernel)
  have k_2 : (Cond.static yX6_within).before _ s = true := hts _ (by decide +kernel)
  have k_3 : (Cond.fieldLink RX2 66 "RoadDust$Road" "complaints" "I").before _ s = true := hts _ (by decide +kernel)
  have in_X2 : ∀ w ∈ wsX20, w ∈ wsX2_goHours := by decide +kernel
  refine lv_iload_n hx hb dX2_goHours_0 rfl (lv_at hl 1 rfl) ?_
  refine lv_iconst (v := 1) hx hb dX2_goHours_1 (by decide) ?_
  refine lv_bipush (v := 50) hx hb dX2_goHours_2 (by decide) ?_
  refine g_callSN (As := [.int a, .int 1, .int 50]) (rest := []) (st1 := [.int (fX6_within_v a 1 50)]) hF (cX6_within _ R O a 1 50) ⟨va_cnB 3 hts gX2_goHours_X6_within_n103 rfl rfl rfl hK.2.2.2.2.2.2 k_1 (by decide +kernel) ⟨Nat.le_of_ble_eq_true rfl, Nat.le_of_ble_eq_true rfl⟩, k_2, trivial⟩ hK hZ hG hS rfl hl.1 (Nat.le_of_ble_eq_true rfl) dX2_goHours_4 ⟨Nat.le_refl _, Nat.le_refl _⟩ rfl rfl (fun H locs hG hS => ?_)
  refine lv_if_ne (tgt := 13) hx hb dX2_goHours_7 (by decide) (fun c_1 => ?_) (fun c_1 => ?_)
  · --T
    refine lv_aload_n hx hb dX2_goHours_13 rfl (lv_at hl 0 rfl) ?_
    refine gRd_get hx hb hts in_X2 hown hK hG hV.1 hV.c0 10 (by decide) k_3 (fun _ h => h) (j := 10) rfl dX2_goHours_14 ?_
    refine lv_istore_n (lv' := [(2, .int (P 10)), (0, .ref (gad Γ (25 * r))), (1, .int a)]) hx hb dX2_goHours_17 rfl hl (by decide) rfl (fun ls hl => ?_)
    refine lv_iconst (v := 0) hx hb dX2_goHours_18 (by decide) ?_
    refine lv_istore_n (lv' := [(3, .int 0), (2, .int (P 10)), (0, .ref (gad Γ (25 * r))), (1, .int a)]) hx hb dX2_goHours_19 rfl hl (by decide) rfl (fun ls hl => ?_)
    refine g_loop (N := a.toNatClampNeg) (fun k H locs ls => GH Γ (va_up M r (fX2_goHours_L  P k)) R O H ∧ va_S (gA Γ) s.heap H locs ∧ lv_has ls 4 [(0, .ref (gad Γ (25 * r))), (1, .int a), (2, .int (P 6)), (3, .int (nI k))]) ?_ ?_ 0 (Nat.zero_le _) _ _ _ ⟨hG, hS, lv_sub hl [2, 3, 1, 0] rfl⟩
    · rintro H locs ls ⟨hG, hS, hl⟩
      refine lv_iload_n hx hb dX2_goHours_20 rfl (lv_at hl 3 rfl) ?_
      refine lv_iload_n hx hb dX2_goHours_21 rfl (lv_at hl 1 rfl) ?_
      refine lv_icmp_ge (tgt := 35) hx hb dX2_goHours_22 (by decide) (fun c_2 => ?_) (fun c_2 => absurd (cl_le _) c_2)
      refine lv_aload_n hx hb dX2_goHours_35 rfl (lv_at hl 0 rfl) ?_
      refine gRd_get hx hb hts in_X2 hown hK hG hV.1 hV.c0 10 (by decide) k_3 (fun _ h => h) (j := 10) rfl dX2_goHours_36 ?_
      refine lv_iload_n hx hb dX2_goHours_39 rfl (lv_at hl 2 rfl) ?_
      refine lv_isub hx hb dX2_goHours_40 ?_
      exact g_iret hx hb hrt hlocks hS hG (by unfold fX2_goHours_v; rw [if_neg c_1]) (congrArg (va_up M r) (by unfold fX2_goHours_P; rw [if_neg c_1])) dX2_goHours_41
    · rintro k hk_k ih_k H locs ls ⟨hG, hS, hl⟩
      refine lv_iload_n hx hb dX2_goHours_20 rfl (lv_at hl 3 rfl) ?_
      refine lv_iload_n hx hb dX2_goHours_21 rfl (lv_at hl 1 rfl) ?_
      refine lv_icmp_ge (tgt := 35) hx hb dX2_goHours_22 (by decide) (fun c_3 => absurd c_3 (cl_ge hk_k)) (fun c_3 => ?_)
      refine lv_aload_n hx hb dX2_goHours_25 rfl (lv_at hl 0 rfl) ?_
      refine g_callV (As := []) (rest := []) (st1 := []) hF (cX2_goHour M R O hV (fX2_goHours_L  P k) (by rw [fX2_goHours_L1]; exact h8)) (cwV 0 hts gX2_goHours_X2_goHour rfl rfl rfl (by decide +kernel) ⟨Nat.le_of_ble_eq_true rfl, Nat.le_of_ble_eq_true rfl⟩) hK hZ hG hS hV.c0 (gC_Rd hV.1) (by decide) rfl rfl hl.1 (Nat.le_of_ble_eq_true rfl) dX2_goHours_26 ⟨Nat.le_refl _, Nat.le_refl _⟩ rfl rfl (fun H locs hG hS => ?_)
      refine lv_iinc (v := nI (k + 1)) (lv' := [(3, .int (nI (k + 1))), (0, .ref (gad Γ (25 * r))), (1, .int a), (2, .int (P 6))]) hx hb dX2_goHours_29 hl (k := 3) rfl (nI_1 _) (by decide) rfl (fun ls hl => ?_)
      refine lv_goto (tgt := 20) hx hb dX2_goHours_32 (by decide) ?_
      exact ih_k _ _ _ ⟨hG, hS, lv_sub hl [1, 2, 3, 0] rfl⟩
  · --F
    refine lv_bipush (v := (-2)) hx hb dX2_goHours_10 (by decide) ?_
    exact g_iret hx hb hrt hlocks hS hG (by unfold fX2_goHours_v; rw [if_pos c_1]) (congrArg (va_up M r) (by unfold fX2_goHours_P; rw [if_pos c_1])) dX2_goHours_12

def fX2_complainsAtMost_v (P : Nat → Int32) (a b : Int32) : Int32 := if okI a (P 1) 8 then if b < (P (82 + 5 * a.toNatClampNeg + 3)) then 0 else 1 else 0
set_option maxHeartbeats 4000000 in
set_option maxRecDepth 100000 in
theorem cX2_complainsAtMost {l : Launch} {Γ : gX} (M : Nat → Nat → Int32) (R : Nat → Nat → Option Nat) (O : Int64) {r : Nat} (hV : LV Γ R r) (P : Nat → Int32) (a b : Int32) : gMet l Γ yX2_complainsAtMost wsX2_complainsAtMost 1 21 [.ref (gad Γ (25 * r)), .int a, .int b] (va_up M r P) R O (some (.int (fX2_complainsAtMost_v P a b))) (va_up M r P) R O := by
  refine g_start (cc := cX2_complainsAtMost) (maxL := 4) (ret := (some .boolean)) (by decide) rfl (by decide) ?_
  intro p e s m below meth c ls hx hb hml hrt hts hown hlocks hname hK hZ hG hS hl
  have hl : lv_has ls 4 [(0, .ref (gad Γ (25 * r))), (1, .int a), (2, .int b)] := hl
  have hown : s.vm.findClass RX2 = some m.cls := hown
  have hF : CallFix p m c cX2_complainsAtMost 4 s _ wsX2_complainsAtMost RX2 := ⟨hx, hb, hml, hown, hts⟩
  have k_1 : (Cond.fieldLink RX2 196 "RoadDust$House" "complaints" "I").before _ s = true := hts _ (by decide +kernel)
  have in_X1 : ∀ w ∈ wsX10, w ∈ wsX2_complainsAtMost := by decide +kernel
  refine lv_aload_n hx hb dX2_complainsAtMost_0 rfl (lv_at hl 0 rfl) ?_
  refine lv_iload_n hx hb dX2_complainsAtMost_1 rfl (lv_at hl 1 rfl) ?_
  by_cases c_1 : okI a (P 1) 8
  · --ok
    refine g_callV (As := [.int a]) (rest := []) (st1 := [.ref (gad Γ (25 * r + 14 + a.toNatClampNeg))]) hF (cX2_houseAt_y M R O hV P c_1 (j := a.toNatClampNeg) rfl) (cwV 1 hts gX2_complainsAtMost_X2_houseAt rfl rfl rfl (by decide +kernel) ⟨Nat.le_of_ble_eq_true rfl, Nat.le_of_ble_eq_true rfl⟩) hK hZ hG hS hV.c0 (gC_Rd hV.1) (by decide) rfl rfl hl.1 (Nat.le_of_ble_eq_true rfl) dX2_complainsAtMost_2 ⟨Nat.le_refl _, Nat.le_refl _⟩ rfl rfl (fun H locs hG hS => ?_)
    refine lv_astore_n (lv' := [(3, .ref (gad Γ (25 * r + 14 + a.toNatClampNeg))), (0, .ref (gad Γ (25 * r))), (1, .int a), (2, .int b)]) hx hb dX2_complainsAtMost_5 rfl hl (by decide) rfl (fun ls hl => ?_)
    refine lv_aload_n hx hb dX2_complainsAtMost_6 rfl (lv_at hl 0 rfl) ?_
    refine lv_ifnull hx hb dX2_complainsAtMost_7 ?_
    refine lv_aload_n hx hb dX2_complainsAtMost_10 rfl (lv_at hl 0 rfl) ?_
    refine gHs_get hx hb hts in_X1 hown hK hG hV.1 (okI_lt (k := 8) rfl (by decide) c_1) (hV.hou (i := a.toNatClampNeg) (okI_lt (k := 8) rfl (by decide) c_1)) 3 (by decide) k_1 (fun _ h => h) (j := 82 + 5 * a.toNatClampNeg + 3) rfl dX2_complainsAtMost_11 ?_
    refine lv_iload_n hx hb dX2_complainsAtMost_14 rfl (lv_at hl 3 rfl) ?_
    refine lv_icmp_gt (tgt := 22) hx hb dX2_complainsAtMost_15 (by decide) (fun c_2 => ?_) (fun c_2 => ?_)
    · --T
      refine lv_iconst (v := 0) hx hb dX2_complainsAtMost_22 (by decide) ?_
      exact g_zret hx hb hrt hlocks hS hG (by decide) (by unfold fX2_complainsAtMost_v; rw [if_pos c_1, if_pos c_2]) rfl dX2_complainsAtMost_23
    · --F
      refine lv_iconst (v := 1) hx hb dX2_complainsAtMost_18 (by decide) ?_
      refine lv_goto (tgt := 23) hx hb dX2_complainsAtMost_19 (by decide) ?_
      exact g_zret hx hb hrt hlocks hS hG (by decide) (by unfold fX2_complainsAtMost_v; rw [if_pos c_1, if_neg c_2]) rfl dX2_complainsAtMost_23
  · --none
    refine g_callV (As := [.int a]) (rest := []) (st1 := [.null]) hF (cX2_houseAt_n M R O hV P c_1) (cwV 1 hts gX2_complainsAtMost_X2_houseAt rfl rfl rfl (by decide +kernel) ⟨Nat.le_of_ble_eq_true rfl, Nat.le_of_ble_eq_true rfl⟩) hK hZ hG hS hV.c0 (gC_Rd hV.1) (by decide) rfl rfl hl.1 (Nat.le_of_ble_eq_true rfl) dX2_complainsAtMost_2 ⟨Nat.le_refl _, Nat.le_refl _⟩ rfl rfl (fun H locs hG hS => ?_)
    refine lv_astore_nN (lv' := [(3, .null), (0, .ref (gad Γ (25 * r))), (1, .int a), (2, .int b)]) hx hb dX2_complainsAtMost_5 rfl hl (by decide) rfl (fun ls hl => ?_)
    refine lv_aload_nN hx hb dX2_complainsAtMost_6 rfl (lv_at hl 0 rfl) ?_
    refine lv_ifnullN (tgt := 22) hx hb dX2_complainsAtMost_7 (by decide) ?_
    refine lv_iconst (v := 0) hx hb dX2_complainsAtMost_22 (by decide) ?_
    exact g_zret hx hb hrt hlocks hS hG (by decide) (by unfold fX2_complainsAtMost_v; rw [if_neg c_1]) rfl dX2_complainsAtMost_23

def fX2_obeys_v (P : Nat → Int32) (a : Int32) : Int32 := if 10 ≤ (remI a 100) then if (a / 1000) = 1 then if (remI (a / 100) 10) = 0 then if (fX2_goHours_v P (remI a 100)) < 0 then 0 else 1 else 0 else if (a / 1000) = 2 then 0 else if (a / 1000) = 3 then 0 else if (a / 1000) = 4 then if (remI a 100) = 0 then if (fX2_fillTank_v P (remI (a / 100) 10)) < 0 then 0 else 1 else 0 else if (a / 1000) = 5 then 0 else if (a / 1000) = 6 then 0 else if (a / 1000) = 7 then if (remI (a / 100) 10) = 0 then if (fX2_changeNumber_v P 5 (remI a 100)) < 0 then 0 else 1 else 0 else if (a / 1000) = 8 then fX2_complainsAtMost_v P (remI (a / 100) 10) (remI a 100) else if (a / 1000) = 9 then if okI (remI (a / 100) 10) (P 0) 10 then if (10 * (remI a 100)) < (fX2_dustAt_v P (remI (a / 100) 10)) then 0 else 1 else 0 else 0 else if (a / 1000) = 1 then if (remI (a / 100) 10) = 0 then if (fX2_goHours_v P (remI a 100)) < 0 then 0 else 1 else 0 else if (a / 1000) = 2 then if (fX2_moveWagon_v P (remI (a / 100) 10) (remI a 10)) < 0 then 0 else 1 else if (a / 1000) = 3 then if (fX2_sprayFrom_v P (remI (a / 100) 10) (remI a 10)) < 0 then 0 else 1 else if (a / 1000) = 4 then if (remI a 100) = 0 then if (fX2_fillTank_v P (remI (a / 100) 10)) < 0 then 0 else 1 else 0 else if (a / 1000) = 5 then if (fX2_changeLimit_v P (remI (a / 100) 10) (remI a 10)) < 0 then 0 else 1 else if (a / 1000) = 6 then if (fX2_changeSurface_v P (remI (a / 100) 10) (remI a 10)) < 0 then 0 else 1 else if (a / 1000) = 7 then if (remI (a / 100) 10) = 0 then if (fX2_changeNumber_v P 5 (remI a 100)) < 0 then 0 else 1 else 0 else if (a / 1000) = 8 then fX2_complainsAtMost_v P (remI (a / 100) 10) (remI a 100) else if (a / 1000) = 9 then if okI (remI (a / 100) 10) (P 0) 10 then if (10 * (remI a 100)) < (fX2_dustAt_v P (remI (a / 100) 10)) then 0 else 1 else 0 else 0
def fX2_obeys_P (P : Nat → Int32) (a : Int32) : Nat → Int32 := if 10 ≤ (remI a 100) then if (a / 1000) = 1 then if (remI (a / 100) 10) = 0 then if (fX2_goHours_v P (remI a 100)) < 0 then fX2_goHours_P P (remI a 100) else fX2_goHours_P P (remI a 100) else P else if (a / 1000) = 2 then P else if (a / 1000) = 3 then P else if (a / 1000) = 4 then if (remI a 100) = 0 then if (fX2_fillTank_v P (remI (a / 100) 10)) < 0 then fX2_fillTank_P P (remI (a / 100) 10) else fX2_fillTank_P P (remI (a / 100) 10) else P else if (a / 1000) = 5 then P else if (a / 1000) = 6 then P else if (a / 1000) = 7 then if (remI (a / 100) 10) = 0 then if (fX2_changeNumber_v P 5 (remI a 100)) < 0 then fX2_changeNumber_P P 5 (remI a 100) else fX2_changeNumber_P P 5 (remI a 100) else P else if (a / 1000) = 8 then P else if (a / 1000) = 9 then if okI (remI (a / 100) 10) (P 0) 10 then if (10 * (remI a 100)) < (fX2_dustAt_v P (remI (a / 100) 10)) then P else P else P else P else if (a / 1000) = 1 then if (remI (a / 100) 10) = 0 then if (fX2_goHours_v P (remI a 100)) < 0 then fX2_goHours_P P (remI a 100) else fX2_goHours_P P (remI a 100) else P else if (a / 1000) = 2 then if (fX2_moveWagon_v P (remI (a / 100) 10) (remI a 10)) < 0 then fX2_moveWagon_P P (remI (a / 100) 10) (remI a 10) else fX2_moveWagon_P P (remI (a / 100) 10) (remI a 10) else if (a / 1000) = 3 then if (fX2_sprayFrom_v P (remI (a / 100) 10) (remI a 10)) < 0 then fX2_sprayFrom_P P (remI (a / 100) 10) (remI a 10) else fX2_sprayFrom_P P (remI (a / 100) 10) (remI a 10) else if (a / 1000) = 4 then if (remI a 100) = 0 then if (fX2_fillTank_v P (remI (a / 100) 10)) < 0 then fX2_fillTank_P P (remI (a / 100) 10) else fX2_fillTank_P P (remI (a / 100) 10) else P else if (a / 1000) = 5 then if (fX2_changeLimit_v P (remI (a / 100) 10) (remI a 10)) < 0 then fX2_changeLimit_P P (remI (a / 100) 10) (remI a 10) else fX2_changeLimit_P P (remI (a / 100) 10) (remI a 10) else if (a / 1000) = 6 then if (fX2_changeSurface_v P (remI (a / 100) 10) (remI a 10)) < 0 then fX2_changeSurface_P P (remI (a / 100) 10) (remI a 10) else fX2_changeSurface_P P (remI (a / 100) 10) (remI a 10) else if (a / 1000) = 7 then if (remI (a / 100) 10) = 0 then if (fX2_changeNumber_v P 5 (remI a 100)) < 0 then fX2_changeNumber_P P 5 (remI a 100) else fX2_changeNumber_P P 5 (remI a 100) else P else if (a / 1000) = 8 then P else if (a / 1000) = 9 then if okI (remI (a / 100) 10) (P 0) 10 then if (10 * (remI a 100)) < (fX2_dustAt_v P (remI (a / 100) 10)) then P else P else P else P
set_option maxHeartbeats 4000000 in
set_option maxRecDepth 100000 in
theorem cX2_obeys {l : Launch} {Γ : gX} (M : Nat → Nat → Int32) (R : Nat → Nat → Option Nat) (O : Int64) {r : Nat} (hV : LV Γ R r) (P : Nat → Int32) (a : Int32) (h8 : (P 1).toNatClampNeg ≤ 8) : gMet l Γ yX2_obeys wsX2_obeys 5 115 [.ref (gad Γ (25 * r)), .int a] (va_up M r P) R O (some (.int (fX2_obeys_v P a))) (va_up M r (fX2_obeys_P P a)) R O := by
  refine g_start (cc := cX2_obeys) (maxL := 6) (ret := (some .boolean)) (by decide) rfl (by decide) ?_
  intro p e s m below meth c ls hx hb hml hrt hts hown hlocks hname hK hZ hG hS hl
  have hl : lv_has ls 6 [(0, .ref (gad Γ (25 * r))), (1, .int a)] := hl
  have hown : s.vm.findClass RX2 = some m.cls := hown
  have hF : CallFix p m c cX2_obeys 6 s _ wsX2_obeys RX2 := ⟨hx, hb, hml, hown, hts⟩
  refine lv_iload_n hx hb dX2_obeys_0 rfl (lv_at hl 1 rfl) ?_
  refine lv_bipush (v := 100) hx hb dX2_obeys_1 (by decide) ?_
  refine lv_idiv hx hb dX2_obeys_3 (by decide) ?_
  refine lv_bipush (v := 10) hx hb dX2_obeys_4 (by decide) ?_
  refine lv_irem hx hb dX2_obeys_6 (by decide) ?_
  refine lv_istore_n (lv' := [(2, .int (remI (a / 100) 10)), (0, .ref (gad Γ (25 * r))), (1, .int a)]) hx hb dX2_obeys_7 rfl hl (by decide) rfl (fun ls hl => ?_)
  refine lv_iload_n hx hb dX2_obeys_8 rfl (lv_at hl 2 rfl) ?_
  refine lv_bipush (v := 10) hx hb dX2_obeys_9 (by decide) ?_
  refine lv_irem hx hb dX2_obeys_11 (by decide) ?_
  refine lv_istore_n (lv' := [(3, .int (remI a 10)), (2, .int (remI (a / 100) 10)), (0, .ref (gad Γ (25 * r))), (1, .int a)]) hx hb dX2_obeys_12 rfl hl (by decide) rfl (fun ls hl => ?_)
  refine lv_iload_n hx hb dX2_obeys_13 rfl (lv_at hl 3 rfl) ?_
  refine lv_bipush (v := 100) hx hb dX2_obeys_14 (by decide) ?_
  refine lv_irem hx hb dX2_obeys_16 (by decide) ?_
  refine lv_istore (lv' := [(4, .int (remI a 100)), (3, .int (remI a 10)), (2, .int (remI (a / 100) 10)), (0, .ref (gad Γ (25 * r))), (1, .int a)]) hx hb dX2_obeys_17 hl (by decide) rfl (fun ls hl => ?_)
  refine lv_iload hx hb dX2_obeys_19 (lv_at hl 0 rfl) ?_
  refine lv_bipush (v := 10) hx hb dX2_obeys_21 (by decide) ?_
  refine lv_icmp_ge (tgt := 30) hx hb dX2_obeys_23 (by decide) (fun c_1 => ?_) (fun c_1 => ?_)
  · --T
    refine lv_iconst (v := 0) hx hb dX2_obeys_30 (by decide) ?_
    refine lv_istore (lv' := [(5, .int 0), (4, .int (remI a 100)), (3, .int (remI a 10)), (2, .int (remI (a / 100) 10)), (0, .ref (gad Γ (25 * r))), (1, .int a)]) hx hb dX2_obeys_31 hl (by decide) rfl (fun ls hl => ?_)
    refine lv_iload_n hx hb dX2_obeys_33 rfl (lv_at hl 5 rfl) ?_
    refine lv_sipush (v := 1000) hx hb dX2_obeys_34 (by decide) ?_
    refine lv_idiv hx hb dX2_obeys_37 (by decide) ?_
    by_cases c_2 : (a / 1000) = 1
    · --1
      refine lv_tableIn (tgt := 88) hx hb dX2_obeys_38 (by rw [c_2]; decide) (by rw [c_2]; decide) (by rw [c_2]; rfl) (by decide) ?_
      refine lv_iload_n hx hb dX2_obeys_88 rfl (lv_at hl 3 rfl) ?_
      refine lv_if_ne (tgt := 105) hx hb dX2_obeys_89 (by decide) (fun c_3 => ?_) (fun c_3 => ?_)
      · --T
        refine lv_iconst (v := 0) hx hb dX2_obeys_105 (by decide) ?_
        exact g_zret hx hb hrt hlocks hS hG (by decide) (by unfold fX2_obeys_v; rw [if_pos c_1, if_pos c_2, if_neg c_3]) (congrArg (va_up M r) (by unfold fX2_obeys_P; rw [if_pos c_1, if_pos c_2, if_neg c_3])) dX2_obeys_106
      · --F
        refine lv_aload_n hx hb dX2_obeys_92 rfl (lv_at hl 4 rfl) ?_
        refine lv_iload hx hb dX2_obeys_93 (lv_at hl 1 rfl) ?_
        refine g_callV (As := [.int (remI a 100)]) (rest := []) (st1 := [.int (fX2_goHours_v P (remI a 100))]) hF (cX2_goHours M R O hV P (remI a 100) h8) (cwV 1 hts gX2_obeys_X2_goHours rfl rfl rfl (by decide +kernel) ⟨Nat.le_of_ble_eq_true rfl, Nat.le_of_ble_eq_true rfl⟩) hK hZ hG hS hV.c0 (gC_Rd hV.1) (by decide) rfl rfl hl.1 (Nat.le_of_ble_eq_true rfl) dX2_obeys_95 ⟨Nat.le_refl _, Nat.le_refl _⟩ rfl rfl (fun H locs hG hS => ?_)
        refine lv_if_lt (tgt := 105) hx hb dX2_obeys_98 (by decide) (fun c_4 => ?_) (fun c_4 => ?_)
        · --T
          refine lv_iconst (v := 0) hx hb dX2_obeys_105 (by decide) ?_
          exact g_zret hx hb hrt hlocks hS hG (by decide) (by unfold fX2_obeys_v; rw [if_pos c_1, if_pos c_2, if_pos c_3, if_pos c_4]) (congrArg (va_up M r) (by unfold fX2_obeys_P; rw [if_pos c_1, if_pos c_2, if_pos c_3, if_pos c_4])) dX2_obeys_106
        · --F
          refine lv_iconst (v := 1) hx hb dX2_obeys_101 (by decide) ?_
          refine lv_goto (tgt := 106) hx hb dX2_obeys_102 (by decide) ?_
          exact g_zret hx hb hrt hlocks hS hG (by decide) (by unfold fX2_obeys_v; rw [if_pos c_1, if_pos c_2, if_pos c_3, if_neg c_4]) (congrArg (va_up M r) (by unfold fX2_obeys_P; rw [if_pos c_1, if_pos c_2, if_pos c_3, if_neg c_4])) dX2_obeys_106
    · --not 1
      by_cases c_5 : (a / 1000) = 2
      · --2
        refine lv_tableIn (tgt := 107) hx hb dX2_obeys_38 (by rw [c_5]; decide) (by rw [c_5]; decide) (by rw [c_5]; rfl) (by decide) ?_
        refine lv_iload hx hb dX2_obeys_107 (lv_at hl 0 rfl) ?_
        refine lv_if_eq (tgt := 125) hx hb dX2_obeys_109 (by decide) (fun c_6 => ?_) (fun c_6 => absurd (by decide) c_6)
        refine lv_iconst (v := 0) hx hb dX2_obeys_125 (by decide) ?_
        exact g_zret hx hb hrt hlocks hS hG (by decide) (by unfold fX2_obeys_v; rw [if_pos c_1, if_neg c_2, if_pos c_5]) (congrArg (va_up M r) (by unfold fX2_obeys_P; rw [if_pos c_1, if_neg c_2, if_pos c_5])) dX2_obeys_126
      · --not 2
        by_cases c_7 : (a / 1000) = 3
        · --3
          refine lv_tableIn (tgt := 127) hx hb dX2_obeys_38 (by rw [c_7]; decide) (by rw [c_7]; decide) (by rw [c_7]; rfl) (by decide) ?_
          refine lv_iload hx hb dX2_obeys_127 (lv_at hl 0 rfl) ?_
          refine lv_if_eq (tgt := 145) hx hb dX2_obeys_129 (by decide) (fun c_8 => ?_) (fun c_8 => absurd (by decide) c_8)
          refine lv_iconst (v := 0) hx hb dX2_obeys_145 (by decide) ?_
          exact g_zret hx hb hrt hlocks hS hG (by decide) (by unfold fX2_obeys_v; rw [if_pos c_1, if_neg c_2, if_neg c_5, if_pos c_7]) (congrArg (va_up M r) (by unfold fX2_obeys_P; rw [if_pos c_1, if_neg c_2, if_neg c_5, if_pos c_7])) dX2_obeys_146
        · --not 3
          by_cases c_9 : (a / 1000) = 4
          · --4
            refine lv_tableIn (tgt := 147) hx hb dX2_obeys_38 (by rw [c_9]; decide) (by rw [c_9]; decide) (by rw [c_9]; rfl) (by decide) ?_
            refine lv_iload hx hb dX2_obeys_147 (lv_at hl 1 rfl) ?_
            refine lv_if_ne (tgt := 164) hx hb dX2_obeys_149 (by decide) (fun c_10 => ?_) (fun c_10 => ?_)
            · --T
              refine lv_iconst (v := 0) hx hb dX2_obeys_164 (by decide) ?_
              exact g_zret hx hb hrt hlocks hS hG (by decide) (by unfold fX2_obeys_v; rw [if_pos c_1, if_neg c_2, if_neg c_5, if_neg c_7, if_pos c_9, if_neg c_10]) (congrArg (va_up M r) (by unfold fX2_obeys_P; rw [if_pos c_1, if_neg c_2, if_neg c_5, if_neg c_7, if_pos c_9, if_neg c_10])) dX2_obeys_165
            · --F
              refine lv_aload_n hx hb dX2_obeys_152 rfl (lv_at hl 4 rfl) ?_
              refine lv_iload_n hx hb dX2_obeys_153 rfl (lv_at hl 3 rfl) ?_
              refine g_callV (As := [.int (remI (a / 100) 10)]) (rest := []) (st1 := [.int (fX2_fillTank_v P (remI (a / 100) 10))]) hF (cX2_fillTank M R O hV P (remI (a / 100) 10)) (cwV 1 hts gX2_obeys_X2_fillTank rfl rfl rfl (by decide +kernel) ⟨Nat.le_of_ble_eq_true rfl, Nat.le_of_ble_eq_true rfl⟩) hK hZ hG hS hV.c0 (gC_Rd hV.1) (by decide) rfl rfl hl.1 (Nat.le_of_ble_eq_true rfl) dX2_obeys_154 ⟨Nat.le_refl _, Nat.le_refl _⟩ rfl rfl (fun H locs hG hS => ?_)
              refine lv_if_lt (tgt := 164) hx hb dX2_obeys_157 (by decide) (fun c_11 => ?_) (fun c_11 => ?_)
              · --T
                refine lv_iconst (v := 0) hx hb dX2_obeys_164 (by decide) ?_
                exact g_zret hx hb hrt hlocks hS hG (by decide) (by unfold fX2_obeys_v; rw [if_pos c_1, if_neg c_2, if_neg c_5, if_neg c_7, if_pos c_9, if_pos c_10, if_pos c_11]) (congrArg (va_up M r) (by unfold fX2_obeys_P; rw [if_pos c_1, if_neg c_2, if_neg c_5, if_neg c_7, if_pos c_9, if_pos c_10, if_pos c_11])) dX2_obeys_165
              · --F
                refine lv_iconst (v := 1) hx hb dX2_obeys_160 (by decide) ?_
                refine lv_goto (tgt := 165) hx hb dX2_obeys_161 (by decide) ?_
                exact g_zret hx hb hrt hlocks hS hG (by decide) (by unfold fX2_obeys_v; rw [if_pos c_1, if_neg c_2, if_neg c_5, if_neg c_7, if_pos c_9, if_pos c_10, if_neg c_11]) (congrArg (va_up M r) (by unfold fX2_obeys_P; rw [if_pos c_1, if_neg c_2, if_neg c_5, if_neg c_7, if_pos c_9, if_pos c_10, if_neg c_11])) dX2_obeys_165
          · --not 4
            by_cases c_12 : (a / 1000) = 5
            · --5
              refine lv_tableIn (tgt := 166) hx hb dX2_obeys_38 (by rw [c_12]; decide) (by rw [c_12]; decide) (by rw [c_12]; rfl) (by decide) ?_
              refine lv_iload hx hb dX2_obeys_166 (lv_at hl 0 rfl) ?_
              refine lv_if_eq (tgt := 184) hx hb dX2_obeys_168 (by decide) (fun c_13 => ?_) (fun c_13 => absurd (by decide) c_13)
              refine lv_iconst (v := 0) hx hb dX2_obeys_184 (by decide) ?_
              exact g_zret hx hb hrt hlocks hS hG (by decide) (by unfold fX2_obeys_v; rw [if_pos c_1, if_neg c_2, if_neg c_5, if_neg c_7, if_neg c_9, if_pos c_12]) (congrArg (va_up M r) (by unfold fX2_obeys_P; rw [if_pos c_1, if_neg c_2, if_neg c_5, if_neg c_7, if_neg c_9, if_pos c_12])) dX2_obeys_185
            · --not 5
              by_cases c_14 : (a / 1000) = 6
              · --6
                refine lv_tableIn (tgt := 186) hx hb dX2_obeys_38 (by rw [c_14]; decide) (by rw [c_14]; decide) (by rw [c_14]; rfl) (by decide) ?_
                refine lv_iload hx hb dX2_obeys_186 (lv_at hl 0 rfl) ?_
                refine lv_if_eq (tgt := 204) hx hb dX2_obeys_188 (by decide) (fun c_15 => ?_) (fun c_15 => absurd (by decide) c_15)
                refine lv_iconst (v := 0) hx hb dX2_obeys_204 (by decide) ?_
                exact g_zret hx hb hrt hlocks hS hG (by decide) (by unfold fX2_obeys_v; rw [if_pos c_1, if_neg c_2, if_neg c_5, if_neg c_7, if_neg c_9, if_neg c_12, if_pos c_14]) (congrArg (va_up M r) (by unfold fX2_obeys_P; rw [if_pos c_1, if_neg c_2, if_neg c_5, if_neg c_7, if_neg c_9, if_neg c_12, if_pos c_14])) dX2_obeys_205
              · --not 6
                by_cases c_16 : (a / 1000) = 7
                · --7
                  refine lv_tableIn (tgt := 206) hx hb dX2_obeys_38 (by rw [c_16]; decide) (by rw [c_16]; decide) (by rw [c_16]; rfl) (by decide) ?_
                  refine lv_iload_n hx hb dX2_obeys_206 rfl (lv_at hl 3 rfl) ?_
                  refine lv_if_ne (tgt := 224) hx hb dX2_obeys_207 (by decide) (fun c_17 => ?_) (fun c_17 => ?_)
                  · --T
                    refine lv_iconst (v := 0) hx hb dX2_obeys_224 (by decide) ?_
                    exact g_zret hx hb hrt hlocks hS hG (by decide) (by unfold fX2_obeys_v; rw [if_pos c_1, if_neg c_2, if_neg c_5, if_neg c_7, if_neg c_9, if_neg c_12, if_neg c_14, if_pos c_16, if_neg c_17]) (congrArg (va_up M r) (by unfold fX2_obeys_P; rw [if_pos c_1, if_neg c_2, if_neg c_5, if_neg c_7, if_neg c_9, if_neg c_12, if_neg c_14, if_pos c_16, if_neg c_17])) dX2_obeys_225
                  · --F
                    refine lv_aload_n hx hb dX2_obeys_210 rfl (lv_at hl 4 rfl) ?_
                    refine lv_iconst (v := 5) hx hb dX2_obeys_211 (by decide) ?_
                    refine lv_iload hx hb dX2_obeys_212 (lv_at hl 1 rfl) ?_
                    refine g_callV (As := [.int 5, .int (remI a 100)]) (rest := []) (st1 := [.int (fX2_changeNumber_v P 5 (remI a 100))]) hF (cX2_changeNumber M R O hV P 5 (remI a 100)) (cwV 2 hts gX2_obeys_X2_changeNumber rfl rfl rfl (by decide +kernel) ⟨Nat.le_of_ble_eq_true rfl, Nat.le_of_ble_eq_true rfl⟩) hK hZ hG hS hV.c0 (gC_Rd hV.1) (by decide) rfl rfl hl.1 (Nat.le_of_ble_eq_true rfl) dX2_obeys_214 ⟨Nat.le_refl _, Nat.le_refl _⟩ rfl rfl (fun H locs hG hS => ?_)
                    refine lv_if_lt (tgt := 224) hx hb dX2_obeys_217 (by decide) (fun c_18 => ?_) (fun c_18 => ?_)
                    · --T
                      refine lv_iconst (v := 0) hx hb dX2_obeys_224 (by decide) ?_
                      exact g_zret hx hb hrt hlocks hS hG (by decide) (by unfold fX2_obeys_v; rw [if_pos c_1, if_neg c_2, if_neg c_5, if_neg c_7, if_neg c_9, if_neg c_12, if_neg c_14, if_pos c_16, if_pos c_17, if_pos c_18]) (congrArg (va_up M r) (by unfold fX2_obeys_P; rw [if_pos c_1, if_neg c_2, if_neg c_5, if_neg c_7, if_neg c_9, if_neg c_12, if_neg c_14, if_pos c_16, if_pos c_17, if_pos c_18])) dX2_obeys_225
                    · --F
                      refine lv_iconst (v := 1) hx hb dX2_obeys_220 (by decide) ?_
                      refine lv_goto (tgt := 225) hx hb dX2_obeys_221 (by decide) ?_
                      exact g_zret hx hb hrt hlocks hS hG (by decide) (by unfold fX2_obeys_v; rw [if_pos c_1, if_neg c_2, if_neg c_5, if_neg c_7, if_neg c_9, if_neg c_12, if_neg c_14, if_pos c_16, if_pos c_17, if_neg c_18]) (congrArg (va_up M r) (by unfold fX2_obeys_P; rw [if_pos c_1, if_neg c_2, if_neg c_5, if_neg c_7, if_neg c_9, if_neg c_12, if_neg c_14, if_pos c_16, if_pos c_17, if_neg c_18])) dX2_obeys_225
                · --not 7
                  by_cases c_19 : (a / 1000) = 8
                  · --8
                    refine lv_tableIn (tgt := 226) hx hb dX2_obeys_38 (by rw [c_19]; decide) (by rw [c_19]; decide) (by rw [c_19]; rfl) (by decide) ?_
                    refine lv_aload_n hx hb dX2_obeys_226 rfl (lv_at hl 4 rfl) ?_
                    refine lv_iload_n hx hb dX2_obeys_227 rfl (lv_at hl 3 rfl) ?_
                    refine lv_iload hx hb dX2_obeys_228 (lv_at hl 1 rfl) ?_
                    refine g_callV (As := [.int (remI (a / 100) 10), .int (remI a 100)]) (rest := []) (st1 := [.int (fX2_complainsAtMost_v P (remI (a / 100) 10) (remI a 100))]) hF (cX2_complainsAtMost M R O hV P (remI (a / 100) 10) (remI a 100)) (cwV 2 hts gX2_obeys_X2_complainsAtMost rfl rfl rfl (by decide +kernel) ⟨Nat.le_of_ble_eq_true rfl, Nat.le_of_ble_eq_true rfl⟩) hK hZ hG hS hV.c0 (gC_Rd hV.1) (by decide) rfl rfl hl.1 (Nat.le_of_ble_eq_true rfl) dX2_obeys_230 ⟨Nat.le_refl _, Nat.le_refl _⟩ rfl rfl (fun H locs hG hS => ?_)
                    exact g_zret hx hb hrt hlocks hS hG (zr_obeys _ _ _) (by unfold fX2_obeys_v; rw [if_pos c_1, if_neg c_2, if_neg c_5, if_neg c_7, if_neg c_9, if_neg c_12, if_neg c_14, if_neg c_16, if_pos c_19]) (congrArg (va_up M r) (by unfold fX2_obeys_P; rw [if_pos c_1, if_neg c_2, if_neg c_5, if_neg c_7, if_neg c_9, if_neg c_12, if_neg c_14, if_neg c_16, if_pos c_19])) dX2_obeys_233
                  · --not 8
                    by_cases c_20 : (a / 1000) = 9
                    · --9
                      refine lv_tableIn (tgt := 234) hx hb dX2_obeys_38 (by rw [c_20]; decide) (by rw [c_20]; decide) (by rw [c_20]; rfl) (by decide) ?_
                      refine lv_aload_n hx hb dX2_obeys_234 rfl (lv_at hl 4 rfl) ?_
                      refine lv_iload_n hx hb dX2_obeys_235 rfl (lv_at hl 3 rfl) ?_
                      by_cases c_21 : okI (remI (a / 100) 10) (P 0) 10
                      · --ok
                        refine g_callV (As := [.int (remI (a / 100) 10)]) (rest := []) (st1 := [.ref (gad Γ (25 * r + 4 + ((remI (a / 100) 10).toNatClampNeg)))]) hF (cX2_segmentAt_y M R O hV P c_21 (j := (remI (a / 100) 10).toNatClampNeg) rfl) (cwV 1 hts gX2_obeys_X2_segmentAt rfl rfl rfl (by decide +kernel) ⟨Nat.le_of_ble_eq_true rfl, Nat.le_of_ble_eq_true rfl⟩) hK hZ hG hS hV.c0 (gC_Rd hV.1) (by decide) rfl rfl hl.1 (Nat.le_of_ble_eq_true rfl) dX2_obeys_236 ⟨Nat.le_refl _, Nat.le_refl _⟩ rfl rfl (fun H locs hG hS => ?_)
                        refine lv_ifnull hx hb dX2_obeys_239 ?_
                        refine lv_aload_n hx hb dX2_obeys_242 rfl (lv_at hl 4 rfl) ?_
                        refine lv_iload_n hx hb dX2_obeys_243 rfl (lv_at hl 3 rfl) ?_
                        refine g_callV (As := [.int (remI (a / 100) 10)]) (rest := []) (st1 := [.int (fX2_dustAt_v P (remI (a / 100) 10))]) hF (cX2_dustAt M R O hV P (remI (a / 100) 10)) (cwV 1 hts gX2_obeys_X2_dustAt rfl rfl rfl (by decide +kernel) ⟨Nat.le_of_ble_eq_true rfl, Nat.le_of_ble_eq_true rfl⟩) hK hZ hG hS hV.c0 (gC_Rd hV.1) (by decide) rfl rfl hl.1 (Nat.le_of_ble_eq_true rfl) dX2_obeys_244 ⟨Nat.le_refl _, Nat.le_refl _⟩ rfl rfl (fun H locs hG hS => ?_)
                        refine lv_bipush (v := 10) hx hb dX2_obeys_247 (by decide) ?_
                        refine lv_iload hx hb dX2_obeys_249 (lv_at hl 1 rfl) ?_
                        refine lv_imul hx hb dX2_obeys_251 ?_
                        refine lv_icmp_gt (tgt := 259) hx hb dX2_obeys_252 (by decide) (fun c_22 => ?_) (fun c_22 => ?_)
                        · --T
                          refine lv_iconst (v := 0) hx hb dX2_obeys_259 (by decide) ?_
                          exact g_zret hx hb hrt hlocks hS hG (by decide) (by unfold fX2_obeys_v; rw [if_pos c_1, if_neg c_2, if_neg c_5, if_neg c_7, if_neg c_9, if_neg c_12, if_neg c_14, if_neg c_16, if_neg c_19, if_pos c_20, if_pos c_21, if_pos c_22]) (congrArg (va_up M r) (by unfold fX2_obeys_P; rw [if_pos c_1, if_neg c_2, if_neg c_5, if_neg c_7, if_neg c_9, if_neg c_12, if_neg c_14, if_neg c_16, if_neg c_19, if_pos c_20, if_pos c_21, if_pos c_22])) dX2_obeys_260
                        · --F
                          refine lv_iconst (v := 1) hx hb dX2_obeys_255 (by decide) ?_
                          refine lv_goto (tgt := 260) hx hb dX2_obeys_256 (by decide) ?_
                          exact g_zret hx hb hrt hlocks hS hG (by decide) (by unfold fX2_obeys_v; rw [if_pos c_1, if_neg c_2, if_neg c_5, if_neg c_7, if_neg c_9, if_neg c_12, if_neg c_14, if_neg c_16, if_neg c_19, if_pos c_20, if_pos c_21, if_neg c_22]) (congrArg (va_up M r) (by unfold fX2_obeys_P; rw [if_pos c_1, if_neg c_2, if_neg c_5, if_neg c_7, if_neg c_9, if_neg c_12, if_neg c_14, if_neg c_16, if_neg c_19, if_pos c_20, if_pos c_21, if_neg c_22])) dX2_obeys_260
                      · --none
                        refine g_callV (As := [.int (remI (a / 100) 10)]) (rest := []) (st1 := [.null]) hF (cX2_segmentAt_n M R O hV P c_21) (cwV 1 hts gX2_obeys_X2_segmentAt rfl rfl rfl (by decide +kernel) ⟨Nat.le_of_ble_eq_true rfl, Nat.le_of_ble_eq_true rfl⟩) hK hZ hG hS hV.c0 (gC_Rd hV.1) (by decide) rfl rfl hl.1 (Nat.le_of_ble_eq_true rfl) dX2_obeys_236 ⟨Nat.le_refl _, Nat.le_refl _⟩ rfl rfl (fun H locs hG hS => ?_)
                        refine lv_ifnullN (tgt := 259) hx hb dX2_obeys_239 (by decide) ?_
                        refine lv_iconst (v := 0) hx hb dX2_obeys_259 (by decide) ?_
                        exact g_zret hx hb hrt hlocks hS hG (by decide) (by unfold fX2_obeys_v; rw [if_pos c_1, if_neg c_2, if_neg c_5, if_neg c_7, if_neg c_9, if_neg c_12, if_neg c_14, if_neg c_16, if_neg c_19, if_pos c_20, if_neg c_21]) (congrArg (va_up M r) (by unfold fX2_obeys_P; rw [if_pos c_1, if_neg c_2, if_neg c_5, if_neg c_7, if_neg c_9, if_neg c_12, if_neg c_14, if_neg c_16, if_neg c_19, if_pos c_20, if_neg c_21])) dX2_obeys_260
                    · --not 9
                      have z_23 := lv_neT (a := 1) c_2 (by decide)
                      have z_24 := lv_neT (a := 2) c_5 (by decide)
                      have z_25 := lv_neT (a := 3) c_7 (by decide)
                      have z_26 := lv_neT (a := 4) c_9 (by decide)
                      have z_27 := lv_neT (a := 5) c_12 (by decide)
                      have z_28 := lv_neT (a := 6) c_14 (by decide)
                      have z_29 := lv_neT (a := 7) c_16 (by decide)
                      have z_30 := lv_neT (a := 8) c_19 (by decide)
                      have z_31 := lv_neT (a := 9) c_20 (by decide)
                      refine lv_tableOut (tgt := 261) hx hb dX2_obeys_38 (by omega) (by decide) ?_
                      refine lv_iconst (v := 0) hx hb dX2_obeys_261 (by decide) ?_
                      exact g_zret hx hb hrt hlocks hS hG (by decide) (by unfold fX2_obeys_v; rw [if_pos c_1, if_neg c_2, if_neg c_5, if_neg c_7, if_neg c_9, if_neg c_12, if_neg c_14, if_neg c_16, if_neg c_19, if_neg c_20]) (congrArg (va_up M r) (by unfold fX2_obeys_P; rw [if_pos c_1, if_neg c_2, if_neg c_5, if_neg c_7, if_neg c_9, if_neg c_12, if_neg c_14, if_neg c_16, if_neg c_19, if_neg c_20])) dX2_obeys_262
  · --F
    refine lv_iconst (v := 1) hx hb dX2_obeys_26 (by decide) ?_
    refine lv_goto (tgt := 31) hx hb dX2_obeys_27 (by decide) ?_
    refine lv_istore (lv' := [(5, .int 1), (4, .int (remI a 100)), (3, .int (remI a 10)), (2, .int (remI (a / 100) 10)), (0, .ref (gad Γ (25 * r))), (1, .int a)]) hx hb dX2_obeys_31 hl (by decide) rfl (fun ls hl => ?_)
    refine lv_iload_n hx hb dX2_obeys_33 rfl (lv_at hl 5 rfl) ?_
    refine lv_sipush (v := 1000) hx hb dX2_obeys_34 (by decide) ?_
    refine lv_idiv hx hb dX2_obeys_37 (by decide) ?_
    by_cases c_32 : (a / 1000) = 1
    · --1
      refine lv_tableIn (tgt := 88) hx hb dX2_obeys_38 (by rw [c_32]; decide) (by rw [c_32]; decide) (by rw [c_32]; rfl) (by decide) ?_
      refine lv_iload_n hx hb dX2_obeys_88 rfl (lv_at hl 3 rfl) ?_
      refine lv_if_ne (tgt := 105) hx hb dX2_obeys_89 (by decide) (fun c_33 => ?_) (fun c_33 => ?_)
      · --T
        refine lv_iconst (v := 0) hx hb dX2_obeys_105 (by decide) ?_
        exact g_zret hx hb hrt hlocks hS hG (by decide) (by unfold fX2_obeys_v; rw [if_neg c_1, if_pos c_32, if_neg c_33]) (congrArg (va_up M r) (by unfold fX2_obeys_P; rw [if_neg c_1, if_pos c_32, if_neg c_33])) dX2_obeys_106
      · --F
        refine lv_aload_n hx hb dX2_obeys_92 rfl (lv_at hl 4 rfl) ?_
        refine lv_iload hx hb dX2_obeys_93 (lv_at hl 1 rfl) ?_
        refine g_callV (As := [.int (remI a 100)]) (rest := []) (st1 := [.int (fX2_goHours_v P (remI a 100))]) hF (cX2_goHours M R O hV P (remI a 100) h8) (cwV 1 hts gX2_obeys_X2_goHours rfl rfl rfl (by decide +kernel) ⟨Nat.le_of_ble_eq_true rfl, Nat.le_of_ble_eq_true rfl⟩) hK hZ hG hS hV.c0 (gC_Rd hV.1) (by decide) rfl rfl hl.1 (Nat.le_of_ble_eq_true rfl) dX2_obeys_95 ⟨Nat.le_refl _, Nat.le_refl _⟩ rfl rfl (fun H locs hG hS => ?_)
        refine lv_if_lt (tgt := 105) hx hb dX2_obeys_98 (by decide) (fun c_34 => ?_) (fun c_34 => ?_)
        · --T
          refine lv_iconst (v := 0) hx hb dX2_obeys_105 (by decide) ?_
          exact g_zret hx hb hrt hlocks hS hG (by decide) (by unfold fX2_obeys_v; rw [if_neg c_1, if_pos c_32, if_pos c_33, if_pos c_34]) (congrArg (va_up M r) (by unfold fX2_obeys_P; rw [if_neg c_1, if_pos c_32, if_pos c_33, if_pos c_34])) dX2_obeys_106
        · --F
          refine lv_iconst (v := 1) hx hb dX2_obeys_101 (by decide) ?_
          refine lv_goto (tgt := 106) hx hb dX2_obeys_102 (by decide) ?_
          exact g_zret hx hb hrt hlocks hS hG (by decide) (by unfold fX2_obeys_v; rw [if_neg c_1, if_pos c_32, if_pos c_33, if_neg c_34]) (congrArg (va_up M r) (by unfold fX2_obeys_P; rw [if_neg c_1, if_pos c_32, if_pos c_33, if_neg c_34])) dX2_obeys_106
    · --not 1
      by_cases c_35 : (a / 1000) = 2
      · --2
        refine lv_tableIn (tgt := 107) hx hb dX2_obeys_38 (by rw [c_35]; decide) (by rw [c_35]; decide) (by rw [c_35]; rfl) (by decide) ?_
        refine lv_iload hx hb dX2_obeys_107 (lv_at hl 0 rfl) ?_
        refine lv_if_eq (tgt := 125) hx hb dX2_obeys_109 (by decide) (fun c_36 => absurd c_36 (by decide)) (fun c_36 => ?_)
        refine lv_aload_n hx hb dX2_obeys_112 rfl (lv_at hl 4 rfl) ?_
        refine lv_iload_n hx hb dX2_obeys_113 rfl (lv_at hl 3 rfl) ?_
        refine lv_iload_n hx hb dX2_obeys_114 rfl (lv_at hl 2 rfl) ?_
        refine g_callV (As := [.int (remI (a / 100) 10), .int (remI a 10)]) (rest := []) (st1 := [.int (fX2_moveWagon_v P (remI (a / 100) 10) (remI a 10))]) hF (cX2_moveWagon M R O hV P (remI (a / 100) 10) (remI a 10)) (cwV 2 hts gX2_obeys_X2_moveWagon rfl rfl rfl (by decide +kernel) ⟨Nat.le_of_ble_eq_true rfl, Nat.le_of_ble_eq_true rfl⟩) hK hZ hG hS hV.c0 (gC_Rd hV.1) (by decide) rfl rfl hl.1 (Nat.le_of_ble_eq_true rfl) dX2_obeys_115 ⟨Nat.le_refl _, Nat.le_refl _⟩ rfl rfl (fun H locs hG hS => ?_)
        refine lv_if_lt (tgt := 125) hx hb dX2_obeys_118 (by decide) (fun c_37 => ?_) (fun c_37 => ?_)
        · --T
          refine lv_iconst (v := 0) hx hb dX2_obeys_125 (by decide) ?_
          exact g_zret hx hb hrt hlocks hS hG (by decide) (by unfold fX2_obeys_v; rw [if_neg c_1, if_neg c_32, if_pos c_35, if_pos c_37]) (congrArg (va_up M r) (by unfold fX2_obeys_P; rw [if_neg c_1, if_neg c_32, if_pos c_35, if_pos c_37])) dX2_obeys_126
        · --F
          refine lv_iconst (v := 1) hx hb dX2_obeys_121 (by decide) ?_
          refine lv_goto (tgt := 126) hx hb dX2_obeys_122 (by decide) ?_
          exact g_zret hx hb hrt hlocks hS hG (by decide) (by unfold fX2_obeys_v; rw [if_neg c_1, if_neg c_32, if_pos c_35, if_neg c_37]) (congrArg (va_up M r) (by unfold fX2_obeys_P; rw [if_neg c_1, if_neg c_32, if_pos c_35, if_neg c_37])) dX2_obeys_126
      · --not 2
        by_cases c_38 : (a / 1000) = 3
        · --3
          refine lv_tableIn (tgt := 127) hx hb dX2_obeys_38 (by rw [c_38]; decide) (by rw [c_38]; decide) (by rw [c_38]; rfl) (by decide) ?_
          refine lv_iload hx hb dX2_obeys_127 (lv_at hl 0 rfl) ?_
          refine lv_if_eq (tgt := 145) hx hb dX2_obeys_129 (by decide) (fun c_39 => absurd c_39 (by decide)) (fun c_39 => ?_)
          refine lv_aload_n hx hb dX2_obeys_132 rfl (lv_at hl 4 rfl) ?_
          refine lv_iload_n hx hb dX2_obeys_133 rfl (lv_at hl 3 rfl) ?_
          refine lv_iload_n hx hb dX2_obeys_134 rfl (lv_at hl 2 rfl) ?_
          refine g_callV (As := [.int (remI (a / 100) 10), .int (remI a 10)]) (rest := []) (st1 := [.int (fX2_sprayFrom_v P (remI (a / 100) 10) (remI a 10))]) hF (cX2_sprayFrom M R O hV P (remI (a / 100) 10) (remI a 10)) (cwV 2 hts gX2_obeys_X2_sprayFrom rfl rfl rfl (by decide +kernel) ⟨Nat.le_of_ble_eq_true rfl, Nat.le_of_ble_eq_true rfl⟩) hK hZ hG hS hV.c0 (gC_Rd hV.1) (by decide) rfl rfl hl.1 (Nat.le_of_ble_eq_true rfl) dX2_obeys_135 ⟨Nat.le_refl _, Nat.le_refl _⟩ rfl rfl (fun H locs hG hS => ?_)
          refine lv_if_lt (tgt := 145) hx hb dX2_obeys_138 (by decide) (fun c_40 => ?_) (fun c_40 => ?_)
          · --T
            refine lv_iconst (v := 0) hx hb dX2_obeys_145 (by decide) ?_
            exact g_zret hx hb hrt hlocks hS hG (by decide) (by unfold fX2_obeys_v; rw [if_neg c_1, if_neg c_32, if_neg c_35, if_pos c_38, if_pos c_40]) (congrArg (va_up M r) (by unfold fX2_obeys_P; rw [if_neg c_1, if_neg c_32, if_neg c_35, if_pos c_38, if_pos c_40])) dX2_obeys_146
          · --F
            refine lv_iconst (v := 1) hx hb dX2_obeys_141 (by decide) ?_
            refine lv_goto (tgt := 146) hx hb dX2_obeys_142 (by decide) ?_
            exact g_zret hx hb hrt hlocks hS hG (by decide) (by unfold fX2_obeys_v; rw [if_neg c_1, if_neg c_32, if_neg c_35, if_pos c_38, if_neg c_40]) (congrArg (va_up M r) (by unfold fX2_obeys_P; rw [if_neg c_1, if_neg c_32, if_neg c_35, if_pos c_38, if_neg c_40])) dX2_obeys_146
        · --not 3
          by_cases c_41 : (a / 1000) = 4
          · --4
            refine lv_tableIn (tgt := 147) hx hb dX2_obeys_38 (by rw [c_41]; decide) (by rw [c_41]; decide) (by rw [c_41]; rfl) (by decide) ?_
            refine lv_iload hx hb dX2_obeys_147 (lv_at hl 1 rfl) ?_
            refine lv_if_ne (tgt := 164) hx hb dX2_obeys_149 (by decide) (fun c_42 => ?_) (fun c_42 => ?_)
            · --T
              refine lv_iconst (v := 0) hx hb dX2_obeys_164 (by decide) ?_
              exact g_zret hx hb hrt hlocks hS hG (by decide) (by unfold fX2_obeys_v; rw [if_neg c_1, if_neg c_32, if_neg c_35, if_neg c_38, if_pos c_41, if_neg c_42]) (congrArg (va_up M r) (by unfold fX2_obeys_P; rw [if_neg c_1, if_neg c_32, if_neg c_35, if_neg c_38, if_pos c_41, if_neg c_42])) dX2_obeys_165
            · --F
              refine lv_aload_n hx hb dX2_obeys_152 rfl (lv_at hl 4 rfl) ?_
              refine lv_iload_n hx hb dX2_obeys_153 rfl (lv_at hl 3 rfl) ?_
              refine g_callV (As := [.int (remI (a / 100) 10)]) (rest := []) (st1 := [.int (fX2_fillTank_v P (remI (a / 100) 10))]) hF (cX2_fillTank M R O hV P (remI (a / 100) 10)) (cwV 1 hts gX2_obeys_X2_fillTank rfl rfl rfl (by decide +kernel) ⟨Nat.le_of_ble_eq_true rfl, Nat.le_of_ble_eq_true rfl⟩) hK hZ hG hS hV.c0 (gC_Rd hV.1) (by decide) rfl rfl hl.1 (Nat.le_of_ble_eq_true rfl) dX2_obeys_154 ⟨Nat.le_refl _, Nat.le_refl _⟩ rfl rfl (fun H locs hG hS => ?_)
              refine lv_if_lt (tgt := 164) hx hb dX2_obeys_157 (by decide) (fun c_43 => ?_) (fun c_43 => ?_)
              · --T
                refine lv_iconst (v := 0) hx hb dX2_obeys_164 (by decide) ?_
                exact g_zret hx hb hrt hlocks hS hG (by decide) (by unfold fX2_obeys_v; rw [if_neg c_1, if_neg c_32, if_neg c_35, if_neg c_38, if_pos c_41, if_pos c_42, if_pos c_43]) (congrArg (va_up M r) (by unfold fX2_obeys_P; rw [if_neg c_1, if_neg c_32, if_neg c_35, if_neg c_38, if_pos c_41, if_pos c_42, if_pos c_43])) dX2_obeys_165
              · --F
                refine lv_iconst (v := 1) hx hb dX2_obeys_160 (by decide) ?_
                refine lv_goto (tgt := 165) hx hb dX2_obeys_161 (by decide) ?_
                exact g_zret hx hb hrt hlocks hS hG (by decide) (by unfold fX2_obeys_v; rw [if_neg c_1, if_neg c_32, if_neg c_35, if_neg c_38, if_pos c_41, if_pos c_42, if_neg c_43]) (congrArg (va_up M r) (by unfold fX2_obeys_P; rw [if_neg c_1, if_neg c_32, if_neg c_35, if_neg c_38, if_pos c_41, if_pos c_42, if_neg c_43])) dX2_obeys_165
          · --not 4
            by_cases c_44 : (a / 1000) = 5
            · --5
              refine lv_tableIn (tgt := 166) hx hb dX2_obeys_38 (by rw [c_44]; decide) (by rw [c_44]; decide) (by rw [c_44]; rfl) (by decide) ?_
              refine lv_iload hx hb dX2_obeys_166 (lv_at hl 0 rfl) ?_
              refine lv_if_eq (tgt := 184) hx hb dX2_obeys_168 (by decide) (fun c_45 => absurd c_45 (by decide)) (fun c_45 => ?_)
              refine lv_aload_n hx hb dX2_obeys_171 rfl (lv_at hl 4 rfl) ?_
              refine lv_iload_n hx hb dX2_obeys_172 rfl (lv_at hl 3 rfl) ?_
              refine lv_iload_n hx hb dX2_obeys_173 rfl (lv_at hl 2 rfl) ?_
              refine g_callV (As := [.int (remI (a / 100) 10), .int (remI a 10)]) (rest := []) (st1 := [.int (fX2_changeLimit_v P (remI (a / 100) 10) (remI a 10))]) hF (cX2_changeLimit M R O hV P (remI (a / 100) 10) (remI a 10)) (cwV 2 hts gX2_obeys_X2_changeLimit rfl rfl rfl (by decide +kernel) ⟨Nat.le_of_ble_eq_true rfl, Nat.le_of_ble_eq_true rfl⟩) hK hZ hG hS hV.c0 (gC_Rd hV.1) (by decide) rfl rfl hl.1 (Nat.le_of_ble_eq_true rfl) dX2_obeys_174 ⟨Nat.le_refl _, Nat.le_refl _⟩ rfl rfl (fun H locs hG hS => ?_)
              refine lv_if_lt (tgt := 184) hx hb dX2_obeys_177 (by decide) (fun c_46 => ?_) (fun c_46 => ?_)
              · --T
                refine lv_iconst (v := 0) hx hb dX2_obeys_184 (by decide) ?_
                exact g_zret hx hb hrt hlocks hS hG (by decide) (by unfold fX2_obeys_v; rw [if_neg c_1, if_neg c_32, if_neg c_35, if_neg c_38, if_neg c_41, if_pos c_44, if_pos c_46]) (congrArg (va_up M r) (by unfold fX2_obeys_P; rw [if_neg c_1, if_neg c_32, if_neg c_35, if_neg c_38, if_neg c_41, if_pos c_44, if_pos c_46])) dX2_obeys_185
              · --F
                refine lv_iconst (v := 1) hx hb dX2_obeys_180 (by decide) ?_
                refine lv_goto (tgt := 185) hx hb dX2_obeys_181 (by decide) ?_
                exact g_zret hx hb hrt hlocks hS hG (by decide) (by unfold fX2_obeys_v; rw [if_neg c_1, if_neg c_32, if_neg c_35, if_neg c_38, if_neg c_41, if_pos c_44, if_neg c_46]) (congrArg (va_up M r) (by unfold fX2_obeys_P; rw [if_neg c_1, if_neg c_32, if_neg c_35, if_neg c_38, if_neg c_41, if_pos c_44, if_neg c_46])) dX2_obeys_185
            · --not 5
              by_cases c_47 : (a / 1000) = 6
              · --6
                refine lv_tableIn (tgt := 186) hx hb dX2_obeys_38 (by rw [c_47]; decide) (by rw [c_47]; decide) (by rw [c_47]; rfl) (by decide) ?_
                refine lv_iload hx hb dX2_obeys_186 (lv_at hl 0 rfl) ?_
                refine lv_if_eq (tgt := 204) hx hb dX2_obeys_188 (by decide) (fun c_48 => absurd c_48 (by decide)) (fun c_48 => ?_)
                refine lv_aload_n hx hb dX2_obeys_191 rfl (lv_at hl 4 rfl) ?_
                refine lv_iload_n hx hb dX2_obeys_192 rfl (lv_at hl 3 rfl) ?_
                refine lv_iload_n hx hb dX2_obeys_193 rfl (lv_at hl 2 rfl) ?_
                refine g_callV (As := [.int (remI (a / 100) 10), .int (remI a 10)]) (rest := []) (st1 := [.int (fX2_changeSurface_v P (remI (a / 100) 10) (remI a 10))]) hF (cX2_changeSurface M R O hV P (remI (a / 100) 10) (remI a 10)) (cwV 2 hts gX2_obeys_X2_changeSurface rfl rfl rfl (by decide +kernel) ⟨Nat.le_of_ble_eq_true rfl, Nat.le_of_ble_eq_true rfl⟩) hK hZ hG hS hV.c0 (gC_Rd hV.1) (by decide) rfl rfl hl.1 (Nat.le_of_ble_eq_true rfl) dX2_obeys_194 ⟨Nat.le_refl _, Nat.le_refl _⟩ rfl rfl (fun H locs hG hS => ?_)
                refine lv_if_lt (tgt := 204) hx hb dX2_obeys_197 (by decide) (fun c_49 => ?_) (fun c_49 => ?_)
                · --T
                  refine lv_iconst (v := 0) hx hb dX2_obeys_204 (by decide) ?_
                  exact g_zret hx hb hrt hlocks hS hG (by decide) (by unfold fX2_obeys_v; rw [if_neg c_1, if_neg c_32, if_neg c_35, if_neg c_38, if_neg c_41, if_neg c_44, if_pos c_47, if_pos c_49]) (congrArg (va_up M r) (by unfold fX2_obeys_P; rw [if_neg c_1, if_neg c_32, if_neg c_35, if_neg c_38, if_neg c_41, if_neg c_44, if_pos c_47, if_pos c_49])) dX2_obeys_205
                · --F
                  refine lv_iconst (v := 1) hx hb dX2_obeys_200 (by decide) ?_
                  refine lv_goto (tgt := 205) hx hb dX2_obeys_201 (by decide) ?_
                  exact g_zret hx hb hrt hlocks hS hG (by decide) (by unfold fX2_obeys_v; rw [if_neg c_1, if_neg c_32, if_neg c_35, if_neg c_38, if_neg c_41, if_neg c_44, if_pos c_47, if_neg c_49]) (congrArg (va_up M r) (by unfold fX2_obeys_P; rw [if_neg c_1, if_neg c_32, if_neg c_35, if_neg c_38, if_neg c_41, if_neg c_44, if_pos c_47, if_neg c_49])) dX2_obeys_205
              · --not 6
                by_cases c_50 : (a / 1000) = 7
                · --7
                  refine lv_tableIn (tgt := 206) hx hb dX2_obeys_38 (by rw [c_50]; decide) (by rw [c_50]; decide) (by rw [c_50]; rfl) (by decide) ?_
                  refine lv_iload_n hx hb dX2_obeys_206 rfl (lv_at hl 3 rfl) ?_
                  refine lv_if_ne (tgt := 224) hx hb dX2_obeys_207 (by decide) (fun c_51 => ?_) (fun c_51 => ?_)
                  · --T
                    refine lv_iconst (v := 0) hx hb dX2_obeys_224 (by decide) ?_
                    exact g_zret hx hb hrt hlocks hS hG (by decide) (by unfold fX2_obeys_v; rw [if_neg c_1, if_neg c_32, if_neg c_35, if_neg c_38, if_neg c_41, if_neg c_44, if_neg c_47, if_pos c_50, if_neg c_51]) (congrArg (va_up M r) (by unfold fX2_obeys_P; rw [if_neg c_1, if_neg c_32, if_neg c_35, if_neg c_38, if_neg c_41, if_neg c_44, if_neg c_47, if_pos c_50, if_neg c_51])) dX2_obeys_225
                  · --F
                    refine lv_aload_n hx hb dX2_obeys_210 rfl (lv_at hl 4 rfl) ?_
                    refine lv_iconst (v := 5) hx hb dX2_obeys_211 (by decide) ?_
                    refine lv_iload hx hb dX2_obeys_212 (lv_at hl 1 rfl) ?_
                    refine g_callV (As := [.int 5, .int (remI a 100)]) (rest := []) (st1 := [.int (fX2_changeNumber_v P 5 (remI a 100))]) hF (cX2_changeNumber M R O hV P 5 (remI a 100)) (cwV 2 hts gX2_obeys_X2_changeNumber rfl rfl rfl (by decide +kernel) ⟨Nat.le_of_ble_eq_true rfl, Nat.le_of_ble_eq_true rfl⟩) hK hZ hG hS hV.c0 (gC_Rd hV.1) (by decide) rfl rfl hl.1 (Nat.le_of_ble_eq_true rfl) dX2_obeys_214 ⟨Nat.le_refl _, Nat.le_refl _⟩ rfl rfl (fun H locs hG hS => ?_)
                    refine lv_if_lt (tgt := 224) hx hb dX2_obeys_217 (by decide) (fun c_52 => ?_) (fun c_52 => ?_)
                    · --T
                      refine lv_iconst (v := 0) hx hb dX2_obeys_224 (by decide) ?_
                      exact g_zret hx hb hrt hlocks hS hG (by decide) (by unfold fX2_obeys_v; rw [if_neg c_1, if_neg c_32, if_neg c_35, if_neg c_38, if_neg c_41, if_neg c_44, if_neg c_47, if_pos c_50, if_pos c_51, if_pos c_52]) (congrArg (va_up M r) (by unfold fX2_obeys_P; rw [if_neg c_1, if_neg c_32, if_neg c_35, if_neg c_38, if_neg c_41, if_neg c_44, if_neg c_47, if_pos c_50, if_pos c_51, if_pos c_52])) dX2_obeys_225
                    · --F
                      refine lv_iconst (v := 1) hx hb dX2_obeys_220 (by decide) ?_
                      refine lv_goto (tgt := 225) hx hb dX2_obeys_221 (by decide) ?_
                      exact g_zret hx hb hrt hlocks hS hG (by decide) (by unfold fX2_obeys_v; rw [if_neg c_1, if_neg c_32, if_neg c_35, if_neg c_38, if_neg c_41, if_neg c_44, if_neg c_47, if_pos c_50, if_pos c_51, if_neg c_52]) (congrArg (va_up M r) (by unfold fX2_obeys_P; rw [if_neg c_1, if_neg c_32, if_neg c_35, if_neg c_38, if_neg c_41, if_neg c_44, if_neg c_47, if_pos c_50, if_pos c_51, if_neg c_52])) dX2_obeys_225
                · --not 7
                  by_cases c_53 : (a / 1000) = 8
                  · --8
                    refine lv_tableIn (tgt := 226) hx hb dX2_obeys_38 (by rw [c_53]; decide) (by rw [c_53]; decide) (by rw [c_53]; rfl) (by decide) ?_
                    refine lv_aload_n hx hb dX2_obeys_226 rfl (lv_at hl 4 rfl) ?_
                    refine lv_iload_n hx hb dX2_obeys_227 rfl (lv_at hl 3 rfl) ?_
                    refine lv_iload hx hb dX2_obeys_228 (lv_at hl 1 rfl) ?_
                    refine g_callV (As := [.int (remI (a / 100) 10), .int (remI a 100)]) (rest := []) (st1 := [.int (fX2_complainsAtMost_v P (remI (a / 100) 10) (remI a 100))]) hF (cX2_complainsAtMost M R O hV P (remI (a / 100) 10) (remI a 100)) (cwV 2 hts gX2_obeys_X2_complainsAtMost rfl rfl rfl (by decide +kernel) ⟨Nat.le_of_ble_eq_true rfl, Nat.le_of_ble_eq_true rfl⟩) hK hZ hG hS hV.c0 (gC_Rd hV.1) (by decide) rfl rfl hl.1 (Nat.le_of_ble_eq_true rfl) dX2_obeys_230 ⟨Nat.le_refl _, Nat.le_refl _⟩ rfl rfl (fun H locs hG hS => ?_)
                    exact g_zret hx hb hrt hlocks hS hG (zr_obeys _ _ _) (by unfold fX2_obeys_v; rw [if_neg c_1, if_neg c_32, if_neg c_35, if_neg c_38, if_neg c_41, if_neg c_44, if_neg c_47, if_neg c_50, if_pos c_53]) (congrArg (va_up M r) (by unfold fX2_obeys_P; rw [if_neg c_1, if_neg c_32, if_neg c_35, if_neg c_38, if_neg c_41, if_neg c_44, if_neg c_47, if_neg c_50, if_pos c_53])) dX2_obeys_233
                  · --not 8
                    by_cases c_54 : (a / 1000) = 9
                    · --9
                      refine lv_tableIn (tgt := 234) hx hb dX2_obeys_38 (by rw [c_54]; decide) (by rw [c_54]; decide) (by rw [c_54]; rfl) (by decide) ?_
                      refine lv_aload_n hx hb dX2_obeys_234 rfl (lv_at hl 4 rfl) ?_
                      refine lv_iload_n hx hb dX2_obeys_235 rfl (lv_at hl 3 rfl) ?_
                      by_cases c_55 : okI (remI (a / 100) 10) (P 0) 10
                      · --ok
                        refine g_callV (As := [.int (remI (a / 100) 10)]) (rest := []) (st1 := [.ref (gad Γ (25 * r + 4 + ((remI (a / 100) 10).toNatClampNeg)))]) hF (cX2_segmentAt_y M R O hV P c_55 (j := (remI (a / 100) 10).toNatClampNeg) rfl) (cwV 1 hts gX2_obeys_X2_segmentAt rfl rfl rfl (by decide +kernel) ⟨Nat.le_of_ble_eq_true rfl, Nat.le_of_ble_eq_true rfl⟩) hK hZ hG hS hV.c0 (gC_Rd hV.1) (by decide) rfl rfl hl.1 (Nat.le_of_ble_eq_true rfl) dX2_obeys_236 ⟨Nat.le_refl _, Nat.le_refl _⟩ rfl rfl (fun H locs hG hS => ?_)
                        refine lv_ifnull hx hb dX2_obeys_239 ?_
                        refine lv_aload_n hx hb dX2_obeys_242 rfl (lv_at hl 4 rfl) ?_
                        refine lv_iload_n hx hb dX2_obeys_243 rfl (lv_at hl 3 rfl) ?_
                        refine g_callV (As := [.int (remI (a / 100) 10)]) (rest := []) (st1 := [.int (fX2_dustAt_v P (remI (a / 100) 10))]) hF (cX2_dustAt M R O hV P (remI (a / 100) 10)) (cwV 1 hts gX2_obeys_X2_dustAt rfl rfl rfl (by decide +kernel) ⟨Nat.le_of_ble_eq_true rfl, Nat.le_of_ble_eq_true rfl⟩) hK hZ hG hS hV.c0 (gC_Rd hV.1) (by decide) rfl rfl hl.1 (Nat.le_of_ble_eq_true rfl) dX2_obeys_244 ⟨Nat.le_refl _, Nat.le_refl _⟩ rfl rfl (fun H locs hG hS => ?_)
                        refine lv_bipush (v := 10) hx hb dX2_obeys_247 (by decide) ?_
                        refine lv_iload hx hb dX2_obeys_249 (lv_at hl 1 rfl) ?_
                        refine lv_imul hx hb dX2_obeys_251 ?_
                        refine lv_icmp_gt (tgt := 259) hx hb dX2_obeys_252 (by decide) (fun c_56 => ?_) (fun c_56 => ?_)
                        · --T
                          refine lv_iconst (v := 0) hx hb dX2_obeys_259 (by decide) ?_
                          exact g_zret hx hb hrt hlocks hS hG (by decide) (by unfold fX2_obeys_v; rw [if_neg c_1, if_neg c_32, if_neg c_35, if_neg c_38, if_neg c_41, if_neg c_44, if_neg c_47, if_neg c_50, if_neg c_53, if_pos c_54, if_pos c_55, if_pos c_56]) (congrArg (va_up M r) (by unfold fX2_obeys_P; rw [if_neg c_1, if_neg c_32, if_neg c_35, if_neg c_38, if_neg c_41, if_neg c_44, if_neg c_47, if_neg c_50, if_neg c_53, if_pos c_54, if_pos c_55, if_pos c_56])) dX2_obeys_260
                        · --F
                          refine lv_iconst (v := 1) hx hb dX2_obeys_255 (by decide) ?_
                          refine lv_goto (tgt := 260) hx hb dX2_obeys_256 (by decide) ?_
                          exact g_zret hx hb hrt hlocks hS hG (by decide) (by unfold fX2_obeys_v; rw [if_neg c_1, if_neg c_32, if_neg c_35, if_neg c_38, if_neg c_41, if_neg c_44, if_neg c_47, if_neg c_50, if_neg c_53, if_pos c_54, if_pos c_55, if_neg c_56]) (congrArg (va_up M r) (by unfold fX2_obeys_P; rw [if_neg c_1, if_neg c_32, if_neg c_35, if_neg c_38, if_neg c_41, if_neg c_44, if_neg c_47, if_neg c_50, if_neg c_53, if_pos c_54, if_pos c_55, if_neg c_56])) dX2_obeys_260
                      · --none
                        refine g_callV (As := [.int (remI (a / 100) 10)]) (rest := []) (st1 := [.null]) hF (cX2_segmentAt_n M R O hV P c_55) (cwV 1 hts gX2_obeys_X2_segmentAt rfl rfl rfl (by decide +kernel) ⟨Nat.le_of_ble_eq_true rfl, Nat.le_of_ble_eq_true rfl⟩) hK hZ hG hS hV.c0 (gC_Rd hV.1) (by decide) rfl rfl hl.1 (Nat.le_of_ble_eq_true rfl) dX2_obeys_236 ⟨Nat.le_refl _, Nat.le_refl _⟩ rfl rfl (fun H locs hG hS => ?_)
                        refine lv_ifnullN (tgt := 259) hx hb dX2_obeys_239 (by decide) ?_
                        refine lv_iconst (v := 0) hx hb dX2_obeys_259 (by decide) ?_
                        exact g_zret hx hb hrt hlocks hS hG (by decide) (by unfold fX2_obeys_v; rw [if_neg c_1, if_neg c_32, if_neg c_35, if_neg c_38, if_neg c_41, if_neg c_44, if_neg c_47, if_neg c_50, if_neg c_53, if_pos c_54, if_neg c_55]) (congrArg (va_up M r) (by unfold fX2_obeys_P; rw [if_neg c_1, if_neg c_32, if_neg c_35, if_neg c_38, if_neg c_41, if_neg c_44, if_neg c_47, if_neg c_50, if_neg c_53, if_pos c_54, if_neg c_55])) dX2_obeys_260
                    · --not 9
                      have z_57 := lv_neT (a := 1) c_32 (by decide)
                      have z_58 := lv_neT (a := 2) c_35 (by decide)
                      have z_59 := lv_neT (a := 3) c_38 (by decide)
                      have z_60 := lv_neT (a := 4) c_41 (by decide)
                      have z_61 := lv_neT (a := 5) c_44 (by decide)
                      have z_62 := lv_neT (a := 6) c_47 (by decide)
                      have z_63 := lv_neT (a := 7) c_50 (by decide)
                      have z_64 := lv_neT (a := 8) c_53 (by decide)
                      have z_65 := lv_neT (a := 9) c_54 (by decide)
                      refine lv_tableOut (tgt := 261) hx hb dX2_obeys_38 (by omega) (by decide) ?_
                      refine lv_iconst (v := 0) hx hb dX2_obeys_261 (by decide) ?_
                      exact g_zret hx hb hrt hlocks hS hG (by decide) (by unfold fX2_obeys_v; rw [if_neg c_1, if_neg c_32, if_neg c_35, if_neg c_38, if_neg c_41, if_neg c_44, if_neg c_47, if_neg c_50, if_neg c_53, if_neg c_54]) (congrArg (va_up M r) (by unfold fX2_obeys_P; rw [if_neg c_1, if_neg c_32, if_neg c_35, if_neg c_38, if_neg c_41, if_neg c_44, if_neg c_47, if_neg c_50, if_neg c_53, if_neg c_54])) dX2_obeys_262

def fX2_meetChance_P (P : Nat → Int32) (a : Int32) : Nat → Int32 := if ((upd (upd P 5 (remI a 21)) 6 (remI (a / 32) 10)) 2) ≤ 0 then upd (upd P 5 (remI a 21)) 6 (remI (a / 32) 10) else if ((upd (upd P 5 (remI a 21)) 6 (remI (a / 32) 10)) 0) ≤ 0 then upd (upd P 5 (remI a 21)) 6 (remI (a / 32) 10) else if okI (remI (a / 512) ((upd (upd P 5 (remI a 21)) 6 (remI (a / 32) 10)) 2)) ((upd (upd P 5 (remI a 21)) 6 (remI (a / 32) 10)) 2) 3 then if ((upd (upd P 5 (remI a 21)) 6 (remI (a / 32) 10)) (122 + 3 * ((remI (a / 512) ((upd (upd P 5 (remI a 21)) 6 (remI (a / 32) 10)) 2)).toNatClampNeg) + 1)) ≤ 0 then upd (upd P 5 (remI a 21)) 6 (remI (a / 32) 10) else fX2_sprayFrom_P (fX2_moveWagon_P (upd (upd P 5 (remI a 21)) 6 (remI (a / 32) 10)) (remI (a / 512) ((upd (upd P 5 (remI a 21)) 6 (remI (a / 32) 10)) 2)) (remI (a / 2048) ((upd (upd P 5 (remI a 21)) 6 (remI (a / 32) 10)) 0))) (remI (a / 512) ((upd (upd P 5 (remI a 21)) 6 (remI (a / 32) 10)) 2)) (if ((fX2_moveWagon_P (upd (upd P 5 (remI a 21)) 6 (remI (a / 32) 10)) (remI (a / 512) ((upd (upd P 5 (remI a 21)) 6 (remI (a / 32) 10)) 2)) (remI (a / 2048) ((upd (upd P 5 (remI a 21)) 6 (remI (a / 32) 10)) 0))) (122 + 3 * ((remI (a / 512) ((upd (upd P 5 (remI a 21)) 6 (remI (a / 32) 10)) 2)).toNatClampNeg) + 1)) < 5 then ((fX2_moveWagon_P (upd (upd P 5 (remI a 21)) 6 (remI (a / 32) 10)) (remI (a / 512) ((upd (upd P 5 (remI a 21)) 6 (remI (a / 32) 10)) 2)) (remI (a / 2048) ((upd (upd P 5 (remI a 21)) 6 (remI (a / 32) 10)) 0))) (122 + 3 * ((remI (a / 512) ((upd (upd P 5 (remI a 21)) 6 (remI (a / 32) 10)) 2)).toNatClampNeg) + 1)) else 5) else upd (upd P 5 (remI a 21)) 6 (remI (a / 32) 10)
set_option maxHeartbeats 4000000 in
set_option maxRecDepth 100000 in
theorem cX2_meetChance {l : Launch} {Γ : gX} (M : Nat → Nat → Int32) (R : Nat → Nat → Option Nat) (O : Int64) {r : Nat} (hV : LV Γ R r) (P : Nat → Int32) (a : Int32) : gMet l Γ yX2_meetChance wsX2_meetChance 4 88 [.ref (gad Γ (25 * r)), .int a] (va_up M r P) R O none (va_up M r (fX2_meetChance_P P a)) R O := by
  refine g_start (cc := cX2_meetChance) (maxL := 4) (ret := none) (by decide) rfl (by decide) ?_
  intro p e s m below meth c ls hx hb hml hrt hts hown hlocks hname hK hZ hG hS hl
  have hl : lv_has ls 4 [(0, .ref (gad Γ (25 * r))), (1, .int a)] := hl
  have hown : s.vm.findClass RX2 = some m.cls := hown
  have hF : CallFix p m c cX2_meetChance 4 s _ wsX2_meetChance RX2 := ⟨hx, hb, hml, hown, hts⟩
  have k_1 : (Cond.fieldLink RX2 51 "RoadDust$Road" "lorries" "I").before _ s = true := hts _ (by decide +kernel)
  have in_X2 : ∀ w ∈ wsX20, w ∈ wsX2_meetChance := by decide +kernel
  have k_3 : (Cond.fieldLink RX2 54 "RoadDust$Road" "sun" "I").before _ s = true := hts _ (by decide +kernel)
  have k_4 : (Cond.fieldLink RX2 42 "RoadDust$Road" "wagons" "I").before _ s = true := hts _ (by decide +kernel)
  have k_5 : (Cond.fieldLink RX2 35 "RoadDust$Road" "segments" "I").before _ s = true := hts _ (by decide +kernel)
  have k_6 : (Cond.fieldLink RX2 141 "RoadDust$Wagon" "liters" "I").before _ s = true := hts _ (by decide +kernel)
  have in_X5 : ∀ w ∈ wsX50, w ∈ wsX2_meetChance := by decide +kernel
  have k_8 : (Cond.methodLink RX2 154 Lib.Math.min.name).before _ s = true := hts _ (by decide +kernel)
  have k_9 : (Cond.static Lib.Math.min.name).before _ s = true := hts _ (by decide +kernel)
  have k_10 : (Cond.initialized "java/lang/Math").before _ s = true := hts _ (by decide +kernel)
  have k_11 : (Cond.code Lib.Math.min.name Lib.Math.min.code 2 (some .int)).before _ s = true := hts _ (by decide +kernel)
  refine lv_aload_n hx hb dX2_meetChance_0 rfl (lv_at hl 0 rfl) ?_
  refine lv_iload_n hx hb dX2_meetChance_1 rfl (lv_at hl 1 rfl) ?_
  refine lv_bipush (v := 21) hx hb dX2_meetChance_2 (by decide) ?_
  refine lv_irem hx hb dX2_meetChance_4 (by decide) ?_
  refine gRd_put hx hb hts in_X2 hown hK hG hS hV.1 hV.c0 5 (by decide) k_1 (fun _ h => h) rfl .int (by decide +kernel) rfl rfl (j := 5) rfl dX2_meetChance_5 (fun H locs hG hS => ?_)
  refine lv_aload_n hx hb dX2_meetChance_8 rfl (lv_at hl 0 rfl) ?_
  refine lv_iload_n hx hb dX2_meetChance_9 rfl (lv_at hl 1 rfl) ?_
  refine lv_bipush (v := 32) hx hb dX2_meetChance_10 (by decide) ?_
  refine lv_idiv hx hb dX2_meetChance_12 (by decide) ?_
  refine lv_bipush (v := 10) hx hb dX2_meetChance_13 (by decide) ?_
  refine lv_irem hx hb dX2_meetChance_15 (by decide) ?_
  refine gRd_put hx hb hts in_X2 hown hK hG hS hV.1 hV.c0 6 (by decide) k_3 (fun _ h => h) rfl .int (by decide +kernel) rfl rfl (j := 6) rfl dX2_meetChance_16 (fun H locs hG hS => ?_)
  refine lv_aload_n hx hb dX2_meetChance_19 rfl (lv_at hl 0 rfl) ?_
  refine gRd_get hx hb hts in_X2 hown hK hG hV.1 hV.c0 2 (by decide) k_4 (fun _ h => h) (j := 2) rfl dX2_meetChance_20 ?_
  refine lv_if_le (tgt := 91) hx hb dX2_meetChance_23 (by decide) (fun c_1 => ?_) (fun c_1 => ?_)
  · --T
    exact g_vret hx hb hrt hlocks hS hG (congrArg (va_up M r) (by unfold fX2_meetChance_P; rw [if_pos c_1])) rfl dX2_meetChance_91
  · --F
    refine lv_aload_n hx hb dX2_meetChance_26 rfl (lv_at hl 0 rfl) ?_
    refine gRd_get hx hb hts in_X2 hown hK hG hV.1 hV.c0 0 (by decide) k_5 (fun _ h => h) (j := 0) rfl dX2_meetChance_27 ?_
    refine lv_if_le (tgt := 91) hx hb dX2_meetChance_30 (by decide) (fun c_2 => ?_) (fun c_2 => ?_)
    · --T
      exact g_vret hx hb hrt hlocks hS hG (congrArg (va_up M r) (by unfold fX2_meetChance_P; rw [if_neg c_1, if_pos c_2])) rfl dX2_meetChance_91
    · --F
      refine lv_iload_n hx hb dX2_meetChance_33 rfl (lv_at hl 1 rfl) ?_
      refine lv_sipush (v := 512) hx hb dX2_meetChance_34 (by decide) ?_
      refine lv_idiv hx hb dX2_meetChance_37 (by decide) ?_
      refine lv_aload_n hx hb dX2_meetChance_38 rfl (lv_at hl 0 rfl) ?_
      refine gRd_get hx hb hts in_X2 hown hK hG hV.1 hV.c0 2 (by decide) k_4 (fun _ h => h) (j := 2) rfl dX2_meetChance_39 ?_
      refine lv_irem hx hb dX2_meetChance_42 (by decide) ?_
      refine lv_istore_n (lv' := [(2, .int (remI (a / 512) ((upd (upd P 5 (remI a 21)) 6 (remI (a / 32) 10)) 2))), (0, .ref (gad Γ (25 * r))), (1, .int a)]) hx hb dX2_meetChance_43 rfl hl (by decide) rfl (fun ls hl => ?_)
      refine lv_aload_n hx hb dX2_meetChance_44 rfl (lv_at hl 1 rfl) ?_
      refine lv_iload_n hx hb dX2_meetChance_45 rfl (lv_at hl 0 rfl) ?_
      by_cases c_3 : okI (remI (a / 512) ((upd (upd P 5 (remI a 21)) 6 (remI (a / 32) 10)) 2)) ((upd (upd P 5 (remI a 21)) 6 (remI (a / 32) 10)) 2) 3
      · --ok
        refine g_callV (As := [.int (remI (a / 512) ((upd (upd P 5 (remI a 21)) 6 (remI (a / 32) 10)) 2))]) (rest := []) (st1 := [.ref (gad Γ (25 * r + 22 + ((remI (a / 512) ((upd (upd P 5 (remI a 21)) 6 (remI (a / 32) 10)) 2)).toNatClampNeg)))]) hF (cX2_wagonAt_y M R O hV (upd (upd P 5 (remI a 21)) 6 (remI (a / 32) 10)) c_3 (j := (remI (a / 512) ((upd (upd P 5 (remI a 21)) 6 (remI (a / 32) 10)) 2)).toNatClampNeg) rfl) (cwV 1 hts gX2_meetChance_X2_wagonAt rfl rfl rfl (by decide +kernel) ⟨Nat.le_of_ble_eq_true rfl, Nat.le_of_ble_eq_true rfl⟩) hK hZ hG hS hV.c0 (gC_Rd hV.1) (by decide) rfl rfl hl.1 (Nat.le_of_ble_eq_true rfl) dX2_meetChance_46 ⟨Nat.le_refl _, Nat.le_refl _⟩ rfl rfl (fun H locs hG hS => ?_)
        refine lv_astore_n (lv' := [(3, .ref (gad Γ (25 * r + 22 + ((remI (a / 512) ((upd (upd P 5 (remI a 21)) 6 (remI (a / 32) 10)) 2)).toNatClampNeg)))), (2, .int (remI (a / 512) ((upd (upd P 5 (remI a 21)) 6 (remI (a / 32) 10)) 2))), (0, .ref (gad Γ (25 * r))), (1, .int a)]) hx hb dX2_meetChance_49 rfl hl (by decide) rfl (fun ls hl => ?_)
        refine lv_aload_n hx hb dX2_meetChance_50 rfl (lv_at hl 0 rfl) ?_
        refine lv_ifnull hx hb dX2_meetChance_51 ?_
        refine lv_aload_n hx hb dX2_meetChance_54 rfl (lv_at hl 0 rfl) ?_
        refine gWg_get hx hb hts in_X5 hown hK hG hV.1 (okI_lt (k := 3) rfl (by decide) c_3) (hV.wag (i := (remI (a / 512) ((upd (upd P 5 (remI a 21)) 6 (remI (a / 32) 10)) 2)).toNatClampNeg) (okI_lt (k := 3) rfl (by decide) c_3)) 1 (by decide) k_6 (fun _ h => h) (j := 122 + 3 * ((remI (a / 512) ((upd (upd P 5 (remI a 21)) 6 (remI (a / 32) 10)) 2)).toNatClampNeg) + 1) rfl dX2_meetChance_55 ?_
        refine lv_if_le (tgt := 91) hx hb dX2_meetChance_58 (by decide) (fun c_4 => ?_) (fun c_4 => ?_)
        · --T
          exact g_vret hx hb hrt hlocks hS hG (congrArg (va_up M r) (by unfold fX2_meetChance_P; rw [if_neg c_1, if_neg c_2, if_pos c_3, if_pos c_4])) rfl dX2_meetChance_91
        · --F
          refine lv_aload_n hx hb dX2_meetChance_61 rfl (lv_at hl 2 rfl) ?_
          refine lv_iload_n hx hb dX2_meetChance_62 rfl (lv_at hl 1 rfl) ?_
          refine lv_iload_n hx hb dX2_meetChance_63 rfl (lv_at hl 3 rfl) ?_
          refine lv_sipush (v := 2048) hx hb dX2_meetChance_64 (by decide) ?_
          refine lv_idiv hx hb dX2_meetChance_67 (by decide) ?_
          refine lv_aload_n hx hb dX2_meetChance_68 rfl (lv_at hl 2 rfl) ?_
          refine gRd_get hx hb hts in_X2 hown hK hG hV.1 hV.c0 0 (by decide) k_5 (fun _ h => h) (j := 0) rfl dX2_meetChance_69 ?_
          refine lv_irem hx hb dX2_meetChance_72 (by decide) ?_
          refine g_callV (As := [.int (remI (a / 512) ((upd (upd P 5 (remI a 21)) 6 (remI (a / 32) 10)) 2)), .int (remI (a / 2048) ((upd (upd P 5 (remI a 21)) 6 (remI (a / 32) 10)) 0))]) (rest := []) (st1 := [.int (fX2_moveWagon_v (upd (upd P 5 (remI a 21)) 6 (remI (a / 32) 10)) (remI (a / 512) ((upd (upd P 5 (remI a 21)) 6 (remI (a / 32) 10)) 2)) (remI (a / 2048) ((upd (upd P 5 (remI a 21)) 6 (remI (a / 32) 10)) 0)))]) hF (cX2_moveWagon M R O hV (upd (upd P 5 (remI a 21)) 6 (remI (a / 32) 10)) (remI (a / 512) ((upd (upd P 5 (remI a 21)) 6 (remI (a / 32) 10)) 2)) (remI (a / 2048) ((upd (upd P 5 (remI a 21)) 6 (remI (a / 32) 10)) 0))) (cwV 2 hts gX2_meetChance_X2_moveWagon rfl rfl rfl (by decide +kernel) ⟨Nat.le_of_ble_eq_true rfl, Nat.le_of_ble_eq_true rfl⟩) hK hZ hG hS hV.c0 (gC_Rd hV.1) (by decide) rfl rfl hl.1 (Nat.le_of_ble_eq_true rfl) dX2_meetChance_73 ⟨Nat.le_refl _, Nat.le_refl _⟩ rfl rfl (fun H locs hG hS => ?_)
          refine lv_pop hx hb dX2_meetChance_76 rfl ?_
          refine lv_aload_n hx hb dX2_meetChance_77 rfl (lv_at hl 2 rfl) ?_
          refine lv_iload_n hx hb dX2_meetChance_78 rfl (lv_at hl 1 rfl) ?_
          refine lv_iconst (v := 5) hx hb dX2_meetChance_79 (by decide) ?_
          refine lv_aload_n hx hb dX2_meetChance_80 rfl (lv_at hl 0 rfl) ?_
          refine gWg_get hx hb hts in_X5 hown hK hG hV.1 (okI_lt (k := 3) rfl (by decide) c_3) (hV.wag (i := (remI (a / 512) ((upd (upd P 5 (remI a 21)) 6 (remI (a / 32) 10)) 2)).toNatClampNeg) (okI_lt (k := 3) rfl (by decide) c_3)) 1 (by decide) k_6 (fun _ h => h) (j := 122 + 3 * ((remI (a / 512) ((upd (upd P 5 (remI a 21)) 6 (remI (a / 32) 10)) 2)).toNatClampNeg) + 1) rfl dX2_meetChance_81 ?_
          refine va_mmin hx hb (hml.trans hl.1.symm) hown k_8 k_9 k_10 k_11 (Nat.le_of_ble_eq_true rfl) (Nat.le_of_ble_eq_true rfl) (Nat.le_of_ble_eq_true rfl) (Nat.le_of_ble_eq_true rfl) dX2_meetChance_84 ?_
          refine g_callV (As := [.int (remI (a / 512) ((upd (upd P 5 (remI a 21)) 6 (remI (a / 32) 10)) 2)), .int (if ((fX2_moveWagon_P (upd (upd P 5 (remI a 21)) 6 (remI (a / 32) 10)) (remI (a / 512) ((upd (upd P 5 (remI a 21)) 6 (remI (a / 32) 10)) 2)) (remI (a / 2048) ((upd (upd P 5 (remI a 21)) 6 (remI (a / 32) 10)) 0))) (122 + 3 * ((remI (a / 512) ((upd (upd P 5 (remI a 21)) 6 (remI (a / 32) 10)) 2)).toNatClampNeg) + 1)) < 5 then ((fX2_moveWagon_P (upd (upd P 5 (remI a 21)) 6 (remI (a / 32) 10)) (remI (a / 512) ((upd (upd P 5 (remI a 21)) 6 (remI (a / 32) 10)) 2)) (remI (a / 2048) ((upd (upd P 5 (remI a 21)) 6 (remI (a / 32) 10)) 0))) (122 + 3 * ((remI (a / 512) ((upd (upd P 5 (remI a 21)) 6 (remI (a / 32) 10)) 2)).toNatClampNeg) + 1)) else 5)]) (rest := []) (st1 := [.int (fX2_sprayFrom_v (fX2_moveWagon_P (upd (upd P 5 (remI a 21)) 6 (remI (a / 32) 10)) (remI (a / 512) ((upd (upd P 5 (remI a 21)) 6 (remI (a / 32) 10)) 2)) (remI (a / 2048) ((upd (upd P 5 (remI a 21)) 6 (remI (a / 32) 10)) 0))) (remI (a / 512) ((upd (upd P 5 (remI a 21)) 6 (remI (a / 32) 10)) 2)) (if ((fX2_moveWagon_P (upd (upd P 5 (remI a 21)) 6 (remI (a / 32) 10)) (remI (a / 512) ((upd (upd P 5 (remI a 21)) 6 (remI (a / 32) 10)) 2)) (remI (a / 2048) ((upd (upd P 5 (remI a 21)) 6 (remI (a / 32) 10)) 0))) (122 + 3 * ((remI (a / 512) ((upd (upd P 5 (remI a 21)) 6 (remI (a / 32) 10)) 2)).toNatClampNeg) + 1)) < 5 then ((fX2_moveWagon_P (upd (upd P 5 (remI a 21)) 6 (remI (a / 32) 10)) (remI (a / 512) ((upd (upd P 5 (remI a 21)) 6 (remI (a / 32) 10)) 2)) (remI (a / 2048) ((upd (upd P 5 (remI a 21)) 6 (remI (a / 32) 10)) 0))) (122 + 3 * ((remI (a / 512) ((upd (upd P 5 (remI a 21)) 6 (remI (a / 32) 10)) 2)).toNatClampNeg) + 1)) else 5))]) hF (cX2_sprayFrom M R O hV (fX2_moveWagon_P (upd (upd P 5 (remI a 21)) 6 (remI (a / 32) 10)) (remI (a / 512) ((upd (upd P 5 (remI a 21)) 6 (remI (a / 32) 10)) 2)) (remI (a / 2048) ((upd (upd P 5 (remI a 21)) 6 (remI (a / 32) 10)) 0))) (remI (a / 512) ((upd (upd P 5 (remI a 21)) 6 (remI (a / 32) 10)) 2)) (if ((fX2_moveWagon_P (upd (upd P 5 (remI a 21)) 6 (remI (a / 32) 10)) (remI (a / 512) ((upd (upd P 5 (remI a 21)) 6 (remI (a / 32) 10)) 2)) (remI (a / 2048) ((upd (upd P 5 (remI a 21)) 6 (remI (a / 32) 10)) 0))) (122 + 3 * ((remI (a / 512) ((upd (upd P 5 (remI a 21)) 6 (remI (a / 32) 10)) 2)).toNatClampNeg) + 1)) < 5 then ((fX2_moveWagon_P (upd (upd P 5 (remI a 21)) 6 (remI (a / 32) 10)) (remI (a / 512) ((upd (upd P 5 (remI a 21)) 6 (remI (a / 32) 10)) 2)) (remI (a / 2048) ((upd (upd P 5 (remI a 21)) 6 (remI (a / 32) 10)) 0))) (122 + 3 * ((remI (a / 512) ((upd (upd P 5 (remI a 21)) 6 (remI (a / 32) 10)) 2)).toNatClampNeg) + 1)) else 5)) (cwV 2 hts gX2_meetChance_X2_sprayFrom rfl rfl rfl (by decide +kernel) ⟨Nat.le_of_ble_eq_true rfl, Nat.le_of_ble_eq_true rfl⟩) hK hZ hG hS hV.c0 (gC_Rd hV.1) (by decide) rfl rfl hl.1 (Nat.le_of_ble_eq_true rfl) dX2_meetChance_87 ⟨Nat.le_refl _, Nat.le_refl _⟩ rfl rfl (fun H locs hG hS => ?_)
          refine lv_pop hx hb dX2_meetChance_90 rfl ?_
          exact g_vret hx hb hrt hlocks hS hG (congrArg (va_up M r) (by unfold fX2_meetChance_P; rw [if_neg c_1, if_neg c_2, if_pos c_3, if_neg c_4])) rfl dX2_meetChance_91
      · --none
        refine g_callV (As := [.int (remI (a / 512) ((upd (upd P 5 (remI a 21)) 6 (remI (a / 32) 10)) 2))]) (rest := []) (st1 := [.null]) hF (cX2_wagonAt_n M R O hV (upd (upd P 5 (remI a 21)) 6 (remI (a / 32) 10)) c_3) (cwV 1 hts gX2_meetChance_X2_wagonAt rfl rfl rfl (by decide +kernel) ⟨Nat.le_of_ble_eq_true rfl, Nat.le_of_ble_eq_true rfl⟩) hK hZ hG hS hV.c0 (gC_Rd hV.1) (by decide) rfl rfl hl.1 (Nat.le_of_ble_eq_true rfl) dX2_meetChance_46 ⟨Nat.le_refl _, Nat.le_refl _⟩ rfl rfl (fun H locs hG hS => ?_)
        refine lv_astore_nN (lv' := [(3, .null), (2, .int (remI (a / 512) ((upd (upd P 5 (remI a 21)) 6 (remI (a / 32) 10)) 2))), (0, .ref (gad Γ (25 * r))), (1, .int a)]) hx hb dX2_meetChance_49 rfl hl (by decide) rfl (fun ls hl => ?_)
        refine lv_aload_nN hx hb dX2_meetChance_50 rfl (lv_at hl 0 rfl) ?_
        refine lv_ifnullN (tgt := 91) hx hb dX2_meetChance_51 (by decide) ?_
        exact g_vret hx hb hrt hlocks hS hG (congrArg (va_up M r) (by unfold fX2_meetChance_P; rw [if_neg c_1, if_neg c_2, if_neg c_3])) rfl dX2_meetChance_91

