/-! THE LEAVES: segments, houses, wagons: each method's answer and page. Laid by gen/p06.py. -/
def fX6_within_v (a b d : Int32) : Int32 := if a < b then 0 else if d < a then 0 else 1
set_option maxHeartbeats 4000000 in
set_option maxRecDepth 100000 in
theorem mX6_within {l : Launch} {Γ : gX} (M : Nat → Nat → Int32) (R : Nat → Nat → Option Nat) (O : Int64) (a b d : Int32) : gMet l Γ yX6_within wsX6_within 0 0 [.int a, .int b, .int d] M R O (some (.int (fX6_within_v a b d))) M R O := by
  refine g_start (cc := cX6_within) (maxL := 3) (ret := (some .boolean)) (by decide) rfl (Nat.le_of_ble_eq_true rfl) ?_
  intro p e s m below meth c ls hx hb hml hrt hts hown hlocks hname hK hZ hG hS hl
  have hl : lv_has ls 3 [(0, .int a), (1, .int b), (2, .int d)] := hl
  have hown : s.vm.findClass RX6 = some m.cls := hown
  have hF : CallFix p m c cX6_within 3 s _ wsX6_within RX6 := ⟨hx, hb, hml, hown, hts⟩
  refine lv_iload_n hx hb dX6_within_0 rfl (lv_at hl 0 rfl) ?_
  refine lv_iload_n hx hb dX6_within_1 rfl (lv_at hl 1 rfl) ?_
  refine lv_icmp_lt (tgt := 14) hx hb dX6_within_2 (by decide) (fun c_1 => ?_) (fun c_1 => ?_)
  · --T
    refine lv_iconst (v := 0) hx hb dX6_within_14 (by decide) ?_
    exact g_zret hx hb hrt hlocks hS hG (by decide) (by unfold fX6_within_v; rw [if_pos c_1]) rfl dX6_within_15
  · --F
    refine lv_iload_n hx hb dX6_within_5 rfl (lv_at hl 0 rfl) ?_
    refine lv_iload_n hx hb dX6_within_6 rfl (lv_at hl 2 rfl) ?_
    refine lv_icmp_gt (tgt := 14) hx hb dX6_within_7 (by decide) (fun c_2 => ?_) (fun c_2 => ?_)
    · --T
      refine lv_iconst (v := 0) hx hb dX6_within_14 (by decide) ?_
      exact g_zret hx hb hrt hlocks hS hG (by decide) (by unfold fX6_within_v; rw [if_neg c_1, if_pos c_2]) rfl dX6_within_15
    · --F
      refine lv_iconst (v := 1) hx hb dX6_within_10 (by decide) ?_
      refine lv_goto (tgt := 15) hx hb dX6_within_11 (by decide) ?_
      exact g_zret hx hb hrt hlocks hS hG (by decide) (by unfold fX6_within_v; rw [if_neg c_1, if_neg c_2]) rfl dX6_within_15

set_option maxHeartbeats 4000000 in
set_option maxRecDepth 100000 in
theorem mX3_init {l : Launch} {Γ : gX} (M : Nat → Nat → Int32) (R : Nat → Nat → Option Nat) (O : Int64) (c0 : Nat) : gMet l Γ yX3_init wsX3_init 1 20 [.ref (gad Γ c0)] M R O none M R O := by
  refine g_start (cc := cX3_init) (maxL := 1) (ret := none) (by decide) rfl (Nat.le_of_ble_eq_true rfl) ?_
  intro p e s m below meth c ls hx hb hml hrt hts hown hlocks hname hK hZ hG hS hl
  have hl : lv_has ls 1 [(0, .ref (gad Γ c0))] := hl
  have hown : s.vm.findClass RX3 = some m.cls := hown
  have hF : CallFix p m c cX3_init 1 s _ wsX3_init RX3 := ⟨hx, hb, hml, hown, hts⟩
  have k_1 : (Cond.methodLink RX3 3 objectInit).before _ s = true := hts _ (by decide +kernel)
  have k_2 : (Cond.instanceMethod objectInit).before _ s = true := hts _ (by decide +kernel)
  have k_3 : (Cond.code objectInit ⟨#[0xb1]⟩ 1 none).before _ s = true := hts _ (by decide +kernel)
  refine lv_aload_n hx hb dX3_init_0 rfl (lv_at hl 0 rfl) ?_
  refine W.objInit hx hb hown k_1 k_2 k_3 rfl (by rw [hml]; exact hl.1) rfl dX3_init_1 (Nat.le_of_ble_eq_true rfl) (Nat.le_of_ble_eq_true rfl) ?_
  refine W.eq (g2 := F0 m 4 ls []) rfl ?_
  exact g_vret hx hb hrt hlocks hS hG rfl rfl dX3_init_4

set_option maxHeartbeats 4000000 in
set_option maxRecDepth 100000 in
theorem mX1_init {l : Launch} {Γ : gX} (M : Nat → Nat → Int32) (R : Nat → Nat → Option Nat) (O : Int64) (c0 : Nat) : gMet l Γ yX1_init wsX1_init 1 20 [.ref (gad Γ c0)] M R O none M R O := by
  refine g_start (cc := cX1_init) (maxL := 1) (ret := none) (by decide) rfl (Nat.le_of_ble_eq_true rfl) ?_
  intro p e s m below meth c ls hx hb hml hrt hts hown hlocks hname hK hZ hG hS hl
  have hl : lv_has ls 1 [(0, .ref (gad Γ c0))] := hl
  have hown : s.vm.findClass RX1 = some m.cls := hown
  have hF : CallFix p m c cX1_init 1 s _ wsX1_init RX1 := ⟨hx, hb, hml, hown, hts⟩
  have k_1 : (Cond.methodLink RX1 3 objectInit).before _ s = true := hts _ (by decide +kernel)
  have k_2 : (Cond.instanceMethod objectInit).before _ s = true := hts _ (by decide +kernel)
  have k_3 : (Cond.code objectInit ⟨#[0xb1]⟩ 1 none).before _ s = true := hts _ (by decide +kernel)
  refine lv_aload_n hx hb dX1_init_0 rfl (lv_at hl 0 rfl) ?_
  refine W.objInit hx hb hown k_1 k_2 k_3 rfl (by rw [hml]; exact hl.1) rfl dX1_init_1 (Nat.le_of_ble_eq_true rfl) (Nat.le_of_ble_eq_true rfl) ?_
  refine W.eq (g2 := F0 m 4 ls []) rfl ?_
  exact g_vret hx hb hrt hlocks hS hG rfl rfl dX1_init_4

set_option maxHeartbeats 4000000 in
set_option maxRecDepth 100000 in
theorem mX5_init {l : Launch} {Γ : gX} (M : Nat → Nat → Int32) (R : Nat → Nat → Option Nat) (O : Int64) (c0 : Nat) : gMet l Γ yX5_init wsX5_init 1 20 [.ref (gad Γ c0)] M R O none M R O := by
  refine g_start (cc := cX5_init) (maxL := 1) (ret := none) (by decide) rfl (Nat.le_of_ble_eq_true rfl) ?_
  intro p e s m below meth c ls hx hb hml hrt hts hown hlocks hname hK hZ hG hS hl
  have hl : lv_has ls 1 [(0, .ref (gad Γ c0))] := hl
  have hown : s.vm.findClass RX5 = some m.cls := hown
  have hF : CallFix p m c cX5_init 1 s _ wsX5_init RX5 := ⟨hx, hb, hml, hown, hts⟩
  have k_1 : (Cond.methodLink RX5 3 objectInit).before _ s = true := hts _ (by decide +kernel)
  have k_2 : (Cond.instanceMethod objectInit).before _ s = true := hts _ (by decide +kernel)
  have k_3 : (Cond.code objectInit ⟨#[0xb1]⟩ 1 none).before _ s = true := hts _ (by decide +kernel)
  refine lv_aload_n hx hb dX5_init_0 rfl (lv_at hl 0 rfl) ?_
  refine W.objInit hx hb hown k_1 k_2 k_3 rfl (by rw [hml]; exact hl.1) rfl dX5_init_1 (Nat.le_of_ble_eq_true rfl) (Nat.le_of_ble_eq_true rfl) ?_
  refine W.eq (g2 := F0 m 4 ls []) rfl ?_
  exact g_vret hx hb hrt hlocks hS hG rfl rfl dX5_init_4

def fX3_beNew_P (P : Nat → Int32) (i : Nat) : Nat → Int32 := upd (upd (upd (upd (upd (upd (upd P (12 + 7 * i) 0) (12 + 7 * i + 1) 3) (12 + 7 * i + 2) 0) (12 + 7 * i + 3) 0) (12 + 7 * i + 4) 0) (12 + 7 * i + 5) 0) (12 + 7 * i + 6) 0
set_option maxHeartbeats 4000000 in
set_option maxRecDepth 100000 in
theorem mX3_beNew {l : Launch} {Γ : gX} (M : Nat → Nat → Int32) (R : Nat → Nat → Option Nat) (O : Int64) {r i : Nat} (hr : r < 19) (hi : i < 10) (hc : 25 * r + 4 + i ∈ gcs Γ) (P : Nat → Int32) : gMet l Γ yX3_beNew wsX3_beNew 0 0 [.ref (gad Γ (25 * r + 4 + i))] (va_up M r P) R O none (va_up M r (fX3_beNew_P P i)) R O := by
  refine g_start (cc := cX3_beNew) (maxL := 1) (ret := none) (by decide) rfl (Nat.le_of_ble_eq_true rfl) ?_
  intro p e s m below meth c ls hx hb hml hrt hts hown hlocks hname hK hZ hG hS hl
  have hl : lv_has ls 1 [(0, .ref (gad Γ (25 * r + 4 + i)))] := hl
  have hown : s.vm.findClass RX3 = some m.cls := hown
  have hF : CallFix p m c cX3_beNew 1 s _ wsX3_beNew RX3 := ⟨hx, hb, hml, hown, hts⟩
  have k_1 : (Cond.fieldLink RX3 9 "RoadDust$Segment" "surface" "I").before _ s = true := hts _ (by decide +kernel)
  have in_X3 : ∀ w ∈ wsX30, w ∈ wsX3_beNew := by decide +kernel
  have k_3 : (Cond.fieldLink RX3 15 "RoadDust$Segment" "limit" "I").before _ s = true := hts _ (by decide +kernel)
  have k_4 : (Cond.fieldLink RX3 18 "RoadDust$Segment" "rank" "I").before _ s = true := hts _ (by decide +kernel)
  have k_5 : (Cond.fieldLink RX3 21 "RoadDust$Segment" "dust" "I").before _ s = true := hts _ (by decide +kernel)
  have k_6 : (Cond.fieldLink RX3 24 "RoadDust$Segment" "water" "I").before _ s = true := hts _ (by decide +kernel)
  have k_7 : (Cond.fieldLink RX3 27 "RoadDust$Segment" "filling" "Z").before _ s = true := hts _ (by decide +kernel)
  have k_8 : (Cond.fieldLink RX3 31 "RoadDust$Segment" "complaints" "I").before _ s = true := hts _ (by decide +kernel)
  refine lv_aload_n hx hb dX3_beNew_0 rfl (lv_at hl 0 rfl) ?_
  refine lv_iconst (v := 0) hx hb dX3_beNew_1 (by decide) ?_
  refine gS_put hx hb hts in_X3 hown hK hG hS hr hi hc 0 (by decide) k_1 (fun _ h => h) rfl .int (by decide +kernel) rfl rfl (j := 12 + 7 * i) rfl dX3_beNew_2 (fun H locs hG hS => ?_)
  refine lv_aload_n hx hb dX3_beNew_5 rfl (lv_at hl 0 rfl) ?_
  refine lv_iconst (v := 3) hx hb dX3_beNew_6 (by decide) ?_
  refine gS_put hx hb hts in_X3 hown hK hG hS hr hi hc 1 (by decide) k_3 (fun _ h => h) rfl .int (by decide +kernel) rfl rfl (j := 12 + 7 * i + 1) rfl dX3_beNew_7 (fun H locs hG hS => ?_)
  refine lv_aload_n hx hb dX3_beNew_10 rfl (lv_at hl 0 rfl) ?_
  refine lv_iconst (v := 0) hx hb dX3_beNew_11 (by decide) ?_
  refine gS_put hx hb hts in_X3 hown hK hG hS hr hi hc 2 (by decide) k_4 (fun _ h => h) rfl .int (by decide +kernel) rfl rfl (j := 12 + 7 * i + 2) rfl dX3_beNew_12 (fun H locs hG hS => ?_)
  refine lv_aload_n hx hb dX3_beNew_15 rfl (lv_at hl 0 rfl) ?_
  refine lv_iconst (v := 0) hx hb dX3_beNew_16 (by decide) ?_
  refine gS_put hx hb hts in_X3 hown hK hG hS hr hi hc 3 (by decide) k_5 (fun _ h => h) rfl .int (by decide +kernel) rfl rfl (j := 12 + 7 * i + 3) rfl dX3_beNew_17 (fun H locs hG hS => ?_)
  refine lv_aload_n hx hb dX3_beNew_20 rfl (lv_at hl 0 rfl) ?_
  refine lv_iconst (v := 0) hx hb dX3_beNew_21 (by decide) ?_
  refine gS_put hx hb hts in_X3 hown hK hG hS hr hi hc 4 (by decide) k_6 (fun _ h => h) rfl .int (by decide +kernel) rfl rfl (j := 12 + 7 * i + 4) rfl dX3_beNew_22 (fun H locs hG hS => ?_)
  refine lv_aload_n hx hb dX3_beNew_25 rfl (lv_at hl 0 rfl) ?_
  refine lv_iconst (v := 0) hx hb dX3_beNew_26 (by decide) ?_
  refine gS_put hx hb hts in_X3 hown hK hG hS hr hi hc 5 (by decide) k_7 (fun _ h => h) rfl .boolean (by decide +kernel) (congrArg Value.int (by decide)) (fits_bool (by decide)) (j := 12 + 7 * i + 5) rfl dX3_beNew_27 (fun H locs hG hS => ?_)
  refine lv_aload_n hx hb dX3_beNew_30 rfl (lv_at hl 0 rfl) ?_
  refine lv_iconst (v := 0) hx hb dX3_beNew_31 (by decide) ?_
  refine gS_put hx hb hts in_X3 hown hK hG hS hr hi hc 6 (by decide) k_8 (fun _ h => h) rfl .int (by decide +kernel) rfl rfl (j := 12 + 7 * i + 6) rfl dX3_beNew_32 (fun H locs hG hS => ?_)
  exact g_vret hx hb hrt hlocks hS hG (congrArg (va_up M r) (by unfold fX3_beNew_P; rfl)) rfl dX3_beNew_35

def fX3_copyFrom_P (Q P : Nat → Int32) (i : Nat) : Nat → Int32 := upd (upd (upd (upd (upd (upd (upd P (12 + 7 * i) (Q (12 + 7 * i))) (12 + 7 * i + 1) (Q (12 + 7 * i + 1))) (12 + 7 * i + 2) (Q (12 + 7 * i + 2))) (12 + 7 * i + 3) (Q (12 + 7 * i + 3))) (12 + 7 * i + 4) (Q (12 + 7 * i + 4))) (12 + 7 * i + 5) (Q (12 + 7 * i + 5))) (12 + 7 * i + 6) (Q (12 + 7 * i + 6))
set_option maxHeartbeats 4000000 in
set_option maxRecDepth 100000 in
theorem mX3_copyFrom {l : Launch} {Γ : gX} (M : Nat → Nat → Int32) (R : Nat → Nat → Option Nat) (O : Int64) {r i r2 : Nat} (hr : r < 19) (hi : i < 10) (hc : 25 * r + 4 + i ∈ gcs Γ) (hr2 : r2 < 19) (hc2 : 25 * r2 + 4 + i ∈ gcs Γ) (hne : r2 ≠ r) (hB : M r2 (12 + 7 * i + 5) &&& 1 = M r2 (12 + 7 * i + 5)) (P : Nat → Int32) : gMet l Γ yX3_copyFrom wsX3_copyFrom 0 0 [.ref (gad Γ (25 * r + 4 + i)), .ref (gad Γ (25 * r2 + 4 + i))] (va_up M r P) R O none (va_up M r (fX3_copyFrom_P (M r2) P i)) R O := by
  refine g_start (cc := cX3_copyFrom) (maxL := 2) (ret := none) (by decide) rfl (Nat.le_of_ble_eq_true rfl) ?_
  intro p e s m below meth c ls hx hb hml hrt hts hown hlocks hname hK hZ hG hS hl
  have hl : lv_has ls 2 [(0, .ref (gad Γ (25 * r + 4 + i))), (1, .ref (gad Γ (25 * r2 + 4 + i)))] := hl
  have hown : s.vm.findClass RX3 = some m.cls := hown
  have hF : CallFix p m c cX3_copyFrom 2 s _ wsX3_copyFrom RX3 := ⟨hx, hb, hml, hown, hts⟩
  have k_1 : (Cond.fieldLink RX3 9 "RoadDust$Segment" "surface" "I").before _ s = true := hts _ (by decide +kernel)
  have in_X3 : ∀ w ∈ wsX30, w ∈ wsX3_copyFrom := by decide +kernel
  have k_3 : (Cond.fieldLink RX3 15 "RoadDust$Segment" "limit" "I").before _ s = true := hts _ (by decide +kernel)
  have k_4 : (Cond.fieldLink RX3 18 "RoadDust$Segment" "rank" "I").before _ s = true := hts _ (by decide +kernel)
  have k_5 : (Cond.fieldLink RX3 21 "RoadDust$Segment" "dust" "I").before _ s = true := hts _ (by decide +kernel)
  have k_6 : (Cond.fieldLink RX3 24 "RoadDust$Segment" "water" "I").before _ s = true := hts _ (by decide +kernel)
  have k_7 : (Cond.fieldLink RX3 27 "RoadDust$Segment" "filling" "Z").before _ s = true := hts _ (by decide +kernel)
  have k_8 : (Cond.fieldLink RX3 31 "RoadDust$Segment" "complaints" "I").before _ s = true := hts _ (by decide +kernel)
  refine lv_aload_n hx hb dX3_copyFrom_0 rfl (lv_at hl 0 rfl) ?_
  refine lv_aload_n hx hb dX3_copyFrom_1 rfl (lv_at hl 1 rfl) ?_
  refine gS_get hx hb hts in_X3 hown hK (g_st (va_back _ _ hne) hG) hr2 hi hc2 0 (by decide) k_1 (fun _ h => h) (j := 12 + 7 * i) rfl dX3_copyFrom_2 ?_
  refine gS_put hx hb hts in_X3 hown hK hG hS hr hi hc 0 (by decide) k_1 (fun _ h => h) rfl .int (by decide +kernel) rfl rfl (j := 12 + 7 * i) rfl dX3_copyFrom_5 (fun H locs hG hS => ?_)
  refine lv_aload_n hx hb dX3_copyFrom_8 rfl (lv_at hl 0 rfl) ?_
  refine lv_aload_n hx hb dX3_copyFrom_9 rfl (lv_at hl 1 rfl) ?_
  refine gS_get hx hb hts in_X3 hown hK (g_st (va_back _ _ hne) hG) hr2 hi hc2 1 (by decide) k_3 (fun _ h => h) (j := 12 + 7 * i + 1) rfl dX3_copyFrom_10 ?_
  refine gS_put hx hb hts in_X3 hown hK hG hS hr hi hc 1 (by decide) k_3 (fun _ h => h) rfl .int (by decide +kernel) rfl rfl (j := 12 + 7 * i + 1) rfl dX3_copyFrom_13 (fun H locs hG hS => ?_)
  refine lv_aload_n hx hb dX3_copyFrom_16 rfl (lv_at hl 0 rfl) ?_
  refine lv_aload_n hx hb dX3_copyFrom_17 rfl (lv_at hl 1 rfl) ?_
  refine gS_get hx hb hts in_X3 hown hK (g_st (va_back _ _ hne) hG) hr2 hi hc2 2 (by decide) k_4 (fun _ h => h) (j := 12 + 7 * i + 2) rfl dX3_copyFrom_18 ?_
  refine gS_put hx hb hts in_X3 hown hK hG hS hr hi hc 2 (by decide) k_4 (fun _ h => h) rfl .int (by decide +kernel) rfl rfl (j := 12 + 7 * i + 2) rfl dX3_copyFrom_21 (fun H locs hG hS => ?_)
  refine lv_aload_n hx hb dX3_copyFrom_24 rfl (lv_at hl 0 rfl) ?_
  refine lv_aload_n hx hb dX3_copyFrom_25 rfl (lv_at hl 1 rfl) ?_
  refine gS_get hx hb hts in_X3 hown hK (g_st (va_back _ _ hne) hG) hr2 hi hc2 3 (by decide) k_5 (fun _ h => h) (j := 12 + 7 * i + 3) rfl dX3_copyFrom_26 ?_
  refine gS_put hx hb hts in_X3 hown hK hG hS hr hi hc 3 (by decide) k_5 (fun _ h => h) rfl .int (by decide +kernel) rfl rfl (j := 12 + 7 * i + 3) rfl dX3_copyFrom_29 (fun H locs hG hS => ?_)
  refine lv_aload_n hx hb dX3_copyFrom_32 rfl (lv_at hl 0 rfl) ?_
  refine lv_aload_n hx hb dX3_copyFrom_33 rfl (lv_at hl 1 rfl) ?_
  refine gS_get hx hb hts in_X3 hown hK (g_st (va_back _ _ hne) hG) hr2 hi hc2 4 (by decide) k_6 (fun _ h => h) (j := 12 + 7 * i + 4) rfl dX3_copyFrom_34 ?_
  refine gS_put hx hb hts in_X3 hown hK hG hS hr hi hc 4 (by decide) k_6 (fun _ h => h) rfl .int (by decide +kernel) rfl rfl (j := 12 + 7 * i + 4) rfl dX3_copyFrom_37 (fun H locs hG hS => ?_)
  refine lv_aload_n hx hb dX3_copyFrom_40 rfl (lv_at hl 0 rfl) ?_
  refine lv_aload_n hx hb dX3_copyFrom_41 rfl (lv_at hl 1 rfl) ?_
  refine gS_get hx hb hts in_X3 hown hK (g_st (va_back _ _ hne) hG) hr2 hi hc2 5 (by decide) k_7 (fun _ h => h) (j := 12 + 7 * i + 5) rfl dX3_copyFrom_42 ?_
  refine gS_put hx hb hts in_X3 hown hK hG hS hr hi hc 5 (by decide) k_7 (fun _ h => h) rfl .boolean (by decide +kernel) (congrArg Value.int hB) (fits_bool hB) (j := 12 + 7 * i + 5) rfl dX3_copyFrom_45 (fun H locs hG hS => ?_)
  refine lv_aload_n hx hb dX3_copyFrom_48 rfl (lv_at hl 0 rfl) ?_
  refine lv_aload_n hx hb dX3_copyFrom_49 rfl (lv_at hl 1 rfl) ?_
  refine gS_get hx hb hts in_X3 hown hK (g_st (va_back _ _ hne) hG) hr2 hi hc2 6 (by decide) k_8 (fun _ h => h) (j := 12 + 7 * i + 6) rfl dX3_copyFrom_50 ?_
  refine gS_put hx hb hts in_X3 hown hK hG hS hr hi hc 6 (by decide) k_8 (fun _ h => h) rfl .int (by decide +kernel) rfl rfl (j := 12 + 7 * i + 6) rfl dX3_copyFrom_53 (fun H locs hG hS => ?_)
  exact g_vret hx hb hrt hlocks hS hG (congrArg (va_up M r) (by unfold fX3_copyFrom_P; rfl)) rfl dX3_copyFrom_56

def fX3_number_v (P : Nat → Int32) (i : Nat) (a : Int32) : Int32 := if a = 0 then P (12 + 7 * i) else if a = 1 then P (12 + 7 * i + 1) else if a = 2 then P (12 + 7 * i + 2) else if a = 3 then P (12 + 7 * i + 3) else if a = 4 then P (12 + 7 * i + 4) else if a = 5 then if (P (12 + 7 * i + 5)) = 0 then 0 else 1 else if a = 6 then P (12 + 7 * i + 6) else (-2)
set_option maxHeartbeats 4000000 in
set_option maxRecDepth 100000 in
theorem mX3_number {l : Launch} {Γ : gX} (M : Nat → Nat → Int32) (R : Nat → Nat → Option Nat) (O : Int64) {r i : Nat} (hr : r < 19) (hi : i < 10) (hc : 25 * r + 4 + i ∈ gcs Γ) (P : Nat → Int32) (a : Int32) : gMet l Γ yX3_number wsX3_number 0 0 [.ref (gad Γ (25 * r + 4 + i)), .int a] (va_up M r P) R O (some (.int (fX3_number_v P i a))) (va_up M r P) R O := by
  refine g_start (cc := cX3_number) (maxL := 2) (ret := (some .int)) (by decide) rfl (Nat.le_of_ble_eq_true rfl) ?_
  intro p e s m below meth c ls hx hb hml hrt hts hown hlocks hname hK hZ hG hS hl
  have hl : lv_has ls 2 [(0, .ref (gad Γ (25 * r + 4 + i))), (1, .int a)] := hl
  have hown : s.vm.findClass RX3 = some m.cls := hown
  have hF : CallFix p m c cX3_number 2 s _ wsX3_number RX3 := ⟨hx, hb, hml, hown, hts⟩
  have k_1 : (Cond.fieldLink RX3 9 "RoadDust$Segment" "surface" "I").before _ s = true := hts _ (by decide +kernel)
  have in_X3 : ∀ w ∈ wsX30, w ∈ wsX3_number := by decide +kernel
  have k_3 : (Cond.fieldLink RX3 15 "RoadDust$Segment" "limit" "I").before _ s = true := hts _ (by decide +kernel)
  have k_4 : (Cond.fieldLink RX3 18 "RoadDust$Segment" "rank" "I").before _ s = true := hts _ (by decide +kernel)
  have k_5 : (Cond.fieldLink RX3 21 "RoadDust$Segment" "dust" "I").before _ s = true := hts _ (by decide +kernel)
  have k_6 : (Cond.fieldLink RX3 24 "RoadDust$Segment" "water" "I").before _ s = true := hts _ (by decide +kernel)
  have k_7 : (Cond.fieldLink RX3 27 "RoadDust$Segment" "filling" "Z").before _ s = true := hts _ (by decide +kernel)
  have k_8 : (Cond.fieldLink RX3 31 "RoadDust$Segment" "complaints" "I").before _ s = true := hts _ (by decide +kernel)
  refine lv_iload_n hx hb dX3_number_0 rfl (lv_at hl 1 rfl) ?_
  by_cases c_1 : a = 0
  · --0
    refine lv_tableIn (tgt := 44) hx hb dX3_number_1 (by rw [c_1]; decide) (by rw [c_1]; decide) (by rw [c_1]; rfl) (by decide) ?_
    refine lv_aload_n hx hb dX3_number_44 rfl (lv_at hl 0 rfl) ?_
    refine gS_get hx hb hts in_X3 hown hK hG hr hi hc 0 (by decide) k_1 (fun _ h => h) (j := 12 + 7 * i) rfl dX3_number_45 ?_
    exact g_iret hx hb hrt hlocks hS hG (by unfold fX3_number_v; rw [if_pos c_1]) rfl dX3_number_48
  · --not 0
    by_cases c_2 : a = 1
    · --1
      refine lv_tableIn (tgt := 49) hx hb dX3_number_1 (by rw [c_2]; decide) (by rw [c_2]; decide) (by rw [c_2]; rfl) (by decide) ?_
      refine lv_aload_n hx hb dX3_number_49 rfl (lv_at hl 0 rfl) ?_
      refine gS_get hx hb hts in_X3 hown hK hG hr hi hc 1 (by decide) k_3 (fun _ h => h) (j := 12 + 7 * i + 1) rfl dX3_number_50 ?_
      exact g_iret hx hb hrt hlocks hS hG (by unfold fX3_number_v; rw [if_neg c_1, if_pos c_2]) rfl dX3_number_53
    · --not 1
      by_cases c_3 : a = 2
      · --2
        refine lv_tableIn (tgt := 54) hx hb dX3_number_1 (by rw [c_3]; decide) (by rw [c_3]; decide) (by rw [c_3]; rfl) (by decide) ?_
        refine lv_aload_n hx hb dX3_number_54 rfl (lv_at hl 0 rfl) ?_
        refine gS_get hx hb hts in_X3 hown hK hG hr hi hc 2 (by decide) k_4 (fun _ h => h) (j := 12 + 7 * i + 2) rfl dX3_number_55 ?_
        exact g_iret hx hb hrt hlocks hS hG (by unfold fX3_number_v; rw [if_neg c_1, if_neg c_2, if_pos c_3]) rfl dX3_number_58
      · --not 2
        by_cases c_4 : a = 3
        · --3
          refine lv_tableIn (tgt := 59) hx hb dX3_number_1 (by rw [c_4]; decide) (by rw [c_4]; decide) (by rw [c_4]; rfl) (by decide) ?_
          refine lv_aload_n hx hb dX3_number_59 rfl (lv_at hl 0 rfl) ?_
          refine gS_get hx hb hts in_X3 hown hK hG hr hi hc 3 (by decide) k_5 (fun _ h => h) (j := 12 + 7 * i + 3) rfl dX3_number_60 ?_
          exact g_iret hx hb hrt hlocks hS hG (by unfold fX3_number_v; rw [if_neg c_1, if_neg c_2, if_neg c_3, if_pos c_4]) rfl dX3_number_63
        · --not 3
          by_cases c_5 : a = 4
          · --4
            refine lv_tableIn (tgt := 64) hx hb dX3_number_1 (by rw [c_5]; decide) (by rw [c_5]; decide) (by rw [c_5]; rfl) (by decide) ?_
            refine lv_aload_n hx hb dX3_number_64 rfl (lv_at hl 0 rfl) ?_
            refine gS_get hx hb hts in_X3 hown hK hG hr hi hc 4 (by decide) k_6 (fun _ h => h) (j := 12 + 7 * i + 4) rfl dX3_number_65 ?_
            exact g_iret hx hb hrt hlocks hS hG (by unfold fX3_number_v; rw [if_neg c_1, if_neg c_2, if_neg c_3, if_neg c_4, if_pos c_5]) rfl dX3_number_68
          · --not 4
            by_cases c_6 : a = 5
            · --5
              refine lv_tableIn (tgt := 69) hx hb dX3_number_1 (by rw [c_6]; decide) (by rw [c_6]; decide) (by rw [c_6]; rfl) (by decide) ?_
              refine lv_aload_n hx hb dX3_number_69 rfl (lv_at hl 0 rfl) ?_
              refine gS_get hx hb hts in_X3 hown hK hG hr hi hc 5 (by decide) k_7 (fun _ h => h) (j := 12 + 7 * i + 5) rfl dX3_number_70 ?_
              refine lv_if_eq (tgt := 80) hx hb dX3_number_73 (by decide) (fun c_7 => ?_) (fun c_7 => ?_)
              · --T
                refine lv_iconst (v := 0) hx hb dX3_number_80 (by decide) ?_
                exact g_iret hx hb hrt hlocks hS hG (by unfold fX3_number_v; rw [if_neg c_1, if_neg c_2, if_neg c_3, if_neg c_4, if_neg c_5, if_pos c_6, if_pos c_7]) rfl dX3_number_81
              · --F
                refine lv_iconst (v := 1) hx hb dX3_number_76 (by decide) ?_
                refine lv_goto (tgt := 81) hx hb dX3_number_77 (by decide) ?_
                exact g_iret hx hb hrt hlocks hS hG (by unfold fX3_number_v; rw [if_neg c_1, if_neg c_2, if_neg c_3, if_neg c_4, if_neg c_5, if_pos c_6, if_neg c_7]) rfl dX3_number_81
            · --not 5
              by_cases c_8 : a = 6
              · --6
                refine lv_tableIn (tgt := 82) hx hb dX3_number_1 (by rw [c_8]; decide) (by rw [c_8]; decide) (by rw [c_8]; rfl) (by decide) ?_
                refine lv_aload_n hx hb dX3_number_82 rfl (lv_at hl 0 rfl) ?_
                refine gS_get hx hb hts in_X3 hown hK hG hr hi hc 6 (by decide) k_8 (fun _ h => h) (j := 12 + 7 * i + 6) rfl dX3_number_83 ?_
                exact g_iret hx hb hrt hlocks hS hG (by unfold fX3_number_v; rw [if_neg c_1, if_neg c_2, if_neg c_3, if_neg c_4, if_neg c_5, if_neg c_6, if_pos c_8]) rfl dX3_number_86
              · --not 6
                have z_9 := lv_neT (a := 0) c_1 (by decide)
                have z_10 := lv_neT (a := 1) c_2 (by decide)
                have z_11 := lv_neT (a := 2) c_3 (by decide)
                have z_12 := lv_neT (a := 3) c_4 (by decide)
                have z_13 := lv_neT (a := 4) c_5 (by decide)
                have z_14 := lv_neT (a := 5) c_6 (by decide)
                have z_15 := lv_neT (a := 6) c_8 (by decide)
                refine lv_tableOut (tgt := 87) hx hb dX3_number_1 (by omega) (by decide) ?_
                refine lv_bipush (v := (-2)) hx hb dX3_number_87 (by decide) ?_
                exact g_iret hx hb hrt hlocks hS hG (by unfold fX3_number_v; rw [if_neg c_1, if_neg c_2, if_neg c_3, if_neg c_4, if_neg c_5, if_neg c_6, if_neg c_8]) rfl dX3_number_89

def fX3_greatestLimit_v (P : Nat → Int32) (i : Nat) : Int32 := 5 - (P (12 + 7 * i + 2))
set_option maxHeartbeats 4000000 in
set_option maxRecDepth 100000 in
theorem mX3_greatestLimit {l : Launch} {Γ : gX} (M : Nat → Nat → Int32) (R : Nat → Nat → Option Nat) (O : Int64) {r i : Nat} (hr : r < 19) (hi : i < 10) (hc : 25 * r + 4 + i ∈ gcs Γ) (P : Nat → Int32) : gMet l Γ yX3_greatestLimit wsX3_greatestLimit 0 0 [.ref (gad Γ (25 * r + 4 + i))] (va_up M r P) R O (some (.int (fX3_greatestLimit_v P i))) (va_up M r P) R O := by
  refine g_start (cc := cX3_greatestLimit) (maxL := 1) (ret := (some .int)) (by decide) rfl (Nat.le_of_ble_eq_true rfl) ?_
  intro p e s m below meth c ls hx hb hml hrt hts hown hlocks hname hK hZ hG hS hl
  have hl : lv_has ls 1 [(0, .ref (gad Γ (25 * r + 4 + i)))] := hl
  have hown : s.vm.findClass RX3 = some m.cls := hown
  have hF : CallFix p m c cX3_greatestLimit 1 s _ wsX3_greatestLimit RX3 := ⟨hx, hb, hml, hown, hts⟩
  have k_1 : (Cond.fieldLink RX3 18 "RoadDust$Segment" "rank" "I").before _ s = true := hts _ (by decide +kernel)
  have in_X3 : ∀ w ∈ wsX30, w ∈ wsX3_greatestLimit := by decide +kernel
  refine lv_iconst (v := 5) hx hb dX3_greatestLimit_0 (by decide) ?_
  refine lv_aload_n hx hb dX3_greatestLimit_1 rfl (lv_at hl 0 rfl) ?_
  refine gS_get hx hb hts in_X3 hown hK hG hr hi hc 2 (by decide) k_1 (fun _ h => h) (j := 12 + 7 * i + 2) rfl dX3_greatestLimit_2 ?_
  refine lv_isub hx hb dX3_greatestLimit_5 ?_
  exact g_iret hx hb hrt hlocks hS hG (by unfold fX3_greatestLimit_v; rfl) rfl dX3_greatestLimit_6

def fX3_wet_P (P : Nat → Int32) (i : Nat) (a : Int32) : Nat → Int32 := upd P (12 + 7 * i + 4) (if ((P (12 + 7 * i + 4)) + a) < 9 then ((P (12 + 7 * i + 4)) + a) else 9)
set_option maxHeartbeats 4000000 in
set_option maxRecDepth 100000 in
theorem mX3_wet {l : Launch} {Γ : gX} (M : Nat → Nat → Int32) (R : Nat → Nat → Option Nat) (O : Int64) {r i : Nat} (hr : r < 19) (hi : i < 10) (hc : 25 * r + 4 + i ∈ gcs Γ) (P : Nat → Int32) (a : Int32) : gMet l Γ yX3_wet wsX3_wet 1 21 [.ref (gad Γ (25 * r + 4 + i)), .int a] (va_up M r P) R O none (va_up M r (fX3_wet_P P i a)) R O := by
  refine g_start (cc := cX3_wet) (maxL := 2) (ret := none) (by decide) rfl (Nat.le_of_ble_eq_true rfl) ?_
  intro p e s m below meth c ls hx hb hml hrt hts hown hlocks hname hK hZ hG hS hl
  have hl : lv_has ls 2 [(0, .ref (gad Γ (25 * r + 4 + i))), (1, .int a)] := hl
  have hown : s.vm.findClass RX3 = some m.cls := hown
  have hF : CallFix p m c cX3_wet 2 s _ wsX3_wet RX3 := ⟨hx, hb, hml, hown, hts⟩
  have k_1 : (Cond.fieldLink RX3 24 "RoadDust$Segment" "water" "I").before _ s = true := hts _ (by decide +kernel)
  have in_X3 : ∀ w ∈ wsX30, w ∈ wsX3_wet := by decide +kernel
  have k_3 : (Cond.methodLink RX3 34 Lib.Math.min.name).before _ s = true := hts _ (by decide +kernel)
  have k_4 : (Cond.static Lib.Math.min.name).before _ s = true := hts _ (by decide +kernel)
  have k_5 : (Cond.initialized "java/lang/Math").before _ s = true := hts _ (by decide +kernel)
  have k_6 : (Cond.code Lib.Math.min.name Lib.Math.min.code 2 (some .int)).before _ s = true := hts _ (by decide +kernel)
  refine lv_aload_n hx hb dX3_wet_0 rfl (lv_at hl 0 rfl) ?_
  refine lv_bipush (v := 9) hx hb dX3_wet_1 (by decide) ?_
  refine lv_aload_n hx hb dX3_wet_3 rfl (lv_at hl 0 rfl) ?_
  refine gS_get hx hb hts in_X3 hown hK hG hr hi hc 4 (by decide) k_1 (fun _ h => h) (j := 12 + 7 * i + 4) rfl dX3_wet_4 ?_
  refine lv_iload_n hx hb dX3_wet_7 rfl (lv_at hl 1 rfl) ?_
  refine lv_iadd hx hb dX3_wet_8 ?_
  refine va_mmin hx hb (hml.trans hl.1.symm) hown k_3 k_4 k_5 k_6 (Nat.le_of_ble_eq_true rfl) (Nat.le_of_ble_eq_true rfl) (Nat.le_of_ble_eq_true rfl) (Nat.le_of_ble_eq_true rfl) dX3_wet_9 ?_
  refine gS_put hx hb hts in_X3 hown hK hG hS hr hi hc 4 (by decide) k_1 (fun _ h => h) rfl .int (by decide +kernel) rfl rfl (j := 12 + 7 * i + 4) rfl dX3_wet_12 (fun H locs hG hS => ?_)
  exact g_vret hx hb hrt hlocks hS hG (congrArg (va_up M r) (by unfold fX3_wet_P; rfl)) rfl dX3_wet_15

def fX3_waterLoss_v (P : Nat → Int32) (i : Nat) (a b : Int32) : Int32 := if (P (12 + 7 * i)) = 1 then a / 4 else if (P (12 + 7 * i)) = 2 then if b ≤ 0 then (a / 2) + 0 else (a / 2) + 1 else a / 3
set_option maxHeartbeats 4000000 in
set_option maxRecDepth 100000 in
theorem mX3_waterLoss {l : Launch} {Γ : gX} (M : Nat → Nat → Int32) (R : Nat → Nat → Option Nat) (O : Int64) {r i : Nat} (hr : r < 19) (hi : i < 10) (hc : 25 * r + 4 + i ∈ gcs Γ) (P : Nat → Int32) (a b : Int32) : gMet l Γ yX3_waterLoss wsX3_waterLoss 0 0 [.ref (gad Γ (25 * r + 4 + i)), .int a, .int b] (va_up M r P) R O (some (.int (fX3_waterLoss_v P i a b))) (va_up M r P) R O := by
  refine g_start (cc := cX3_waterLoss) (maxL := 3) (ret := (some .int)) (by decide) rfl (Nat.le_of_ble_eq_true rfl) ?_
  intro p e s m below meth c ls hx hb hml hrt hts hown hlocks hname hK hZ hG hS hl
  have hl : lv_has ls 3 [(0, .ref (gad Γ (25 * r + 4 + i))), (1, .int a), (2, .int b)] := hl
  have hown : s.vm.findClass RX3 = some m.cls := hown
  have hF : CallFix p m c cX3_waterLoss 3 s _ wsX3_waterLoss RX3 := ⟨hx, hb, hml, hown, hts⟩
  have k_1 : (Cond.fieldLink RX3 9 "RoadDust$Segment" "surface" "I").before _ s = true := hts _ (by decide +kernel)
  have in_X3 : ∀ w ∈ wsX30, w ∈ wsX3_waterLoss := by decide +kernel
  refine lv_aload_n hx hb dX3_waterLoss_0 rfl (lv_at hl 0 rfl) ?_
  refine gS_get hx hb hts in_X3 hown hK hG hr hi hc 0 (by decide) k_1 (fun _ h => h) (j := 12 + 7 * i) rfl dX3_waterLoss_1 ?_
  by_cases c_1 : (P (12 + 7 * i)) = 1
  · --1
    refine lv_lookup (off := 28) (tgt := 32) hx hb dX3_waterLoss_4 (by decide) (by rw [c_1] <;> rfl) (by decide) ?_
    refine lv_iload_n hx hb dX3_waterLoss_32 rfl (lv_at hl 1 rfl) ?_
    refine lv_iconst (v := 4) hx hb dX3_waterLoss_33 (by decide) ?_
    refine lv_idiv hx hb dX3_waterLoss_34 (by decide) ?_
    exact g_iret hx hb hrt hlocks hS hG (by unfold fX3_waterLoss_v; rw [if_pos c_1]) rfl dX3_waterLoss_35
  · --not 1
    by_cases c_2 : (P (12 + 7 * i)) = 2
    · --2
      refine lv_lookup (off := 32) (tgt := 36) hx hb dX3_waterLoss_4 (by decide) (by rw [c_2] <;> rfl) (by decide) ?_
      refine lv_iload_n hx hb dX3_waterLoss_36 rfl (lv_at hl 1 rfl) ?_
      refine lv_iconst (v := 2) hx hb dX3_waterLoss_37 (by decide) ?_
      refine lv_idiv hx hb dX3_waterLoss_38 (by decide) ?_
      refine lv_iload_n hx hb dX3_waterLoss_39 rfl (lv_at hl 2 rfl) ?_
      refine lv_if_le (tgt := 47) hx hb dX3_waterLoss_40 (by decide) (fun c_3 => ?_) (fun c_3 => ?_)
      · --T
        refine lv_iconst (v := 0) hx hb dX3_waterLoss_47 (by decide) ?_
        refine lv_iadd hx hb dX3_waterLoss_48 ?_
        exact g_iret hx hb hrt hlocks hS hG (by unfold fX3_waterLoss_v; rw [if_neg c_1, if_pos c_2, if_pos c_3]) rfl dX3_waterLoss_49
      · --F
        refine lv_iconst (v := 1) hx hb dX3_waterLoss_43 (by decide) ?_
        refine lv_goto (tgt := 48) hx hb dX3_waterLoss_44 (by decide) ?_
        refine lv_iadd hx hb dX3_waterLoss_48 ?_
        exact g_iret hx hb hrt hlocks hS hG (by unfold fX3_waterLoss_v; rw [if_neg c_1, if_pos c_2, if_neg c_3]) rfl dX3_waterLoss_49
    · --not 2
      refine lv_lookup (off := 46) (tgt := 50) hx hb dX3_waterLoss_4 (by decide) (by rw [lv_osw c_1 (by decide), lv_osw c_2 (by decide)] <;> rfl) (by decide) ?_
      refine lv_iload_n hx hb dX3_waterLoss_50 rfl (lv_at hl 1 rfl) ?_
      refine lv_iconst (v := 3) hx hb dX3_waterLoss_51 (by decide) ?_
      refine lv_idiv hx hb dX3_waterLoss_52 (by decide) ?_
      exact g_iret hx hb hrt hlocks hS hG (by unfold fX3_waterLoss_v; rw [if_neg c_1, if_neg c_2]) rfl dX3_waterLoss_53

def fX3_dry_P (P : Nat → Int32) (i : Nat) (a b : Int32) : Nat → Int32 := upd P (12 + 7 * i + 4) (if 0 < ((P (12 + 7 * i + 4)) - (fX3_waterLoss_v P i a b)) then ((P (12 + 7 * i + 4)) - (fX3_waterLoss_v P i a b)) else 0)
set_option maxHeartbeats 4000000 in
set_option maxRecDepth 100000 in
theorem mX3_dry {l : Launch} {Γ : gX} (M : Nat → Nat → Int32) (R : Nat → Nat → Option Nat) (O : Int64) {r i : Nat} (hr : r < 19) (hi : i < 10) (hc : 25 * r + 4 + i ∈ gcs Γ) (P : Nat → Int32) (a b : Int32) : gMet l Γ yX3_dry wsX3_dry 1 22 [.ref (gad Γ (25 * r + 4 + i)), .int a, .int b] (va_up M r P) R O none (va_up M r (fX3_dry_P P i a b)) R O := by
  refine g_start (cc := cX3_dry) (maxL := 3) (ret := none) (by decide) rfl (Nat.le_of_ble_eq_true rfl) ?_
  intro p e s m below meth c ls hx hb hml hrt hts hown hlocks hname hK hZ hG hS hl
  have hl : lv_has ls 3 [(0, .ref (gad Γ (25 * r + 4 + i))), (1, .int a), (2, .int b)] := hl
  have hown : s.vm.findClass RX3 = some m.cls := hown
  have hF : CallFix p m c cX3_dry 3 s _ wsX3_dry RX3 := ⟨hx, hb, hml, hown, hts⟩
  have k_1 : (Cond.fieldLink RX3 24 "RoadDust$Segment" "water" "I").before _ s = true := hts _ (by decide +kernel)
  have in_X3 : ∀ w ∈ wsX30, w ∈ wsX3_dry := by decide +kernel
  have k_3 : (Cond.methodLink RX3 43 Lib.Math.max.name).before _ s = true := hts _ (by decide +kernel)
  have k_4 : (Cond.static Lib.Math.max.name).before _ s = true := hts _ (by decide +kernel)
  have k_5 : (Cond.initialized "java/lang/Math").before _ s = true := hts _ (by decide +kernel)
  have k_6 : (Cond.code Lib.Math.max.name Lib.Math.max.code 2 (some .int)).before _ s = true := hts _ (by decide +kernel)
  refine lv_aload_n hx hb dX3_dry_0 rfl (lv_at hl 0 rfl) ?_
  refine lv_iconst (v := 0) hx hb dX3_dry_1 (by decide) ?_
  refine lv_aload_n hx hb dX3_dry_2 rfl (lv_at hl 0 rfl) ?_
  refine gS_get hx hb hts in_X3 hown hK hG hr hi hc 4 (by decide) k_1 (fun _ h => h) (j := 12 + 7 * i + 4) rfl dX3_dry_3 ?_
  refine lv_aload_n hx hb dX3_dry_6 rfl (lv_at hl 0 rfl) ?_
  refine lv_iload_n hx hb dX3_dry_7 rfl (lv_at hl 1 rfl) ?_
  refine lv_iload_n hx hb dX3_dry_8 rfl (lv_at hl 2 rfl) ?_
  refine g_callV (As := [.int a, .int b]) (rest := [.int (P (12 + 7 * i + 4)), .int 0, .ref (gad Γ (25 * r + 4 + i))]) (st1 := [.int (fX3_waterLoss_v P i a b), .int (P (12 + 7 * i + 4)), .int 0, .ref (gad Γ (25 * r + 4 + i))]) hF (mX3_waterLoss M R O hr hi hc P a b) (cwV 2 hts gX3_dry_X3_waterLoss rfl rfl rfl (by decide +kernel) ⟨Nat.le_of_ble_eq_true rfl, Nat.le_of_ble_eq_true rfl⟩) hK hZ hG hS hc (gC_S hr hi) (by decide) rfl rfl hl.1 (Nat.le_of_ble_eq_true rfl) dX3_dry_9 ⟨Nat.zero_le _, Nat.zero_le _⟩ rfl rfl (fun H locs hG hS => ?_)
  refine lv_isub hx hb dX3_dry_12 ?_
  refine va_mmax hx hb (hml.trans hl.1.symm) hown k_3 k_4 k_5 k_6 (Nat.le_of_ble_eq_true rfl) (Nat.le_of_ble_eq_true rfl) (Nat.le_of_ble_eq_true rfl) (Nat.le_of_ble_eq_true rfl) dX3_dry_13 ?_
  refine gS_put hx hb hts in_X3 hown hK hG hS hr hi hc 4 (by decide) k_1 (fun _ h => h) rfl .int (by decide +kernel) rfl rfl (j := 12 + 7 * i + 4) rfl dX3_dry_16 (fun H locs hG hS => ?_)
  exact g_vret hx hb hrt hlocks hS hG (congrArg (va_up M r) (by unfold fX3_dry_P; rfl)) rfl dX3_dry_19

def fX3_raise_P (P : Nat → Int32) (i : Nat) (a : Int32) : Nat → Int32 := upd P (12 + 7 * i + 3) (if ((P (12 + 7 * i + 3)) + ((((a * (P (12 + 7 * i + 1))) * (3 - (P (12 + 7 * i)))) * (10 - (P (12 + 7 * i + 4)))) / 10)) < 999 then ((P (12 + 7 * i + 3)) + ((((a * (P (12 + 7 * i + 1))) * (3 - (P (12 + 7 * i)))) * (10 - (P (12 + 7 * i + 4)))) / 10)) else 999)
set_option maxHeartbeats 4000000 in
set_option maxRecDepth 100000 in
theorem mX3_raise {l : Launch} {Γ : gX} (M : Nat → Nat → Int32) (R : Nat → Nat → Option Nat) (O : Int64) {r i : Nat} (hr : r < 19) (hi : i < 10) (hc : 25 * r + 4 + i ∈ gcs Γ) (P : Nat → Int32) (a : Int32) : gMet l Γ yX3_raise wsX3_raise 1 21 [.ref (gad Γ (25 * r + 4 + i)), .int a] (va_up M r P) R O none (va_up M r (fX3_raise_P P i a)) R O := by
  refine g_start (cc := cX3_raise) (maxL := 3) (ret := none) (by decide) rfl (Nat.le_of_ble_eq_true rfl) ?_
  intro p e s m below meth c ls hx hb hml hrt hts hown hlocks hname hK hZ hG hS hl
  have hl : lv_has ls 3 [(0, .ref (gad Γ (25 * r + 4 + i))), (1, .int a)] := hl
  have hown : s.vm.findClass RX3 = some m.cls := hown
  have hF : CallFix p m c cX3_raise 3 s _ wsX3_raise RX3 := ⟨hx, hb, hml, hown, hts⟩
  have k_1 : (Cond.fieldLink RX3 9 "RoadDust$Segment" "surface" "I").before _ s = true := hts _ (by decide +kernel)
  have in_X3 : ∀ w ∈ wsX30, w ∈ wsX3_raise := by decide +kernel
  have k_3 : (Cond.fieldLink RX3 21 "RoadDust$Segment" "dust" "I").before _ s = true := hts _ (by decide +kernel)
  have k_4 : (Cond.fieldLink RX3 15 "RoadDust$Segment" "limit" "I").before _ s = true := hts _ (by decide +kernel)
  have k_5 : (Cond.fieldLink RX3 24 "RoadDust$Segment" "water" "I").before _ s = true := hts _ (by decide +kernel)
  have k_6 : (Cond.methodLink RX3 34 Lib.Math.min.name).before _ s = true := hts _ (by decide +kernel)
  have k_7 : (Cond.static Lib.Math.min.name).before _ s = true := hts _ (by decide +kernel)
  have k_8 : (Cond.initialized "java/lang/Math").before _ s = true := hts _ (by decide +kernel)
  have k_9 : (Cond.code Lib.Math.min.name Lib.Math.min.code 2 (some .int)).before _ s = true := hts _ (by decide +kernel)
  refine lv_iconst (v := 3) hx hb dX3_raise_0 (by decide) ?_
  refine lv_aload_n hx hb dX3_raise_1 rfl (lv_at hl 0 rfl) ?_
  refine gS_get hx hb hts in_X3 hown hK hG hr hi hc 0 (by decide) k_1 (fun _ h => h) (j := 12 + 7 * i) rfl dX3_raise_2 ?_
  refine lv_isub hx hb dX3_raise_5 ?_
  refine lv_istore_n (lv' := [(2, .int (3 - (P (12 + 7 * i)))), (0, .ref (gad Γ (25 * r + 4 + i))), (1, .int a)]) hx hb dX3_raise_6 rfl hl (by decide) rfl (fun ls hl => ?_)
  refine lv_aload_n hx hb dX3_raise_7 rfl (lv_at hl 1 rfl) ?_
  refine lv_sipush (v := 999) hx hb dX3_raise_8 (by decide) ?_
  refine lv_aload_n hx hb dX3_raise_11 rfl (lv_at hl 1 rfl) ?_
  refine gS_get hx hb hts in_X3 hown hK hG hr hi hc 3 (by decide) k_3 (fun _ h => h) (j := 12 + 7 * i + 3) rfl dX3_raise_12 ?_
  refine lv_iload_n hx hb dX3_raise_15 rfl (lv_at hl 2 rfl) ?_
  refine lv_aload_n hx hb dX3_raise_16 rfl (lv_at hl 1 rfl) ?_
  refine gS_get hx hb hts in_X3 hown hK hG hr hi hc 1 (by decide) k_4 (fun _ h => h) (j := 12 + 7 * i + 1) rfl dX3_raise_17 ?_
  refine lv_imul hx hb dX3_raise_20 ?_
  refine lv_iload_n hx hb dX3_raise_21 rfl (lv_at hl 0 rfl) ?_
  refine lv_imul hx hb dX3_raise_22 ?_
  refine lv_bipush (v := 10) hx hb dX3_raise_23 (by decide) ?_
  refine lv_aload_n hx hb dX3_raise_25 rfl (lv_at hl 1 rfl) ?_
  refine gS_get hx hb hts in_X3 hown hK hG hr hi hc 4 (by decide) k_5 (fun _ h => h) (j := 12 + 7 * i + 4) rfl dX3_raise_26 ?_
  refine lv_isub hx hb dX3_raise_29 ?_
  refine lv_imul hx hb dX3_raise_30 ?_
  refine lv_bipush (v := 10) hx hb dX3_raise_31 (by decide) ?_
  refine lv_idiv hx hb dX3_raise_33 (by decide) ?_
  refine lv_iadd hx hb dX3_raise_34 ?_
  refine va_mmin hx hb (hml.trans hl.1.symm) hown k_6 k_7 k_8 k_9 (Nat.le_of_ble_eq_true rfl) (Nat.le_of_ble_eq_true rfl) (Nat.le_of_ble_eq_true rfl) (Nat.le_of_ble_eq_true rfl) dX3_raise_35 ?_
  refine gS_put hx hb hts in_X3 hown hK hG hS hr hi hc 3 (by decide) k_3 (fun _ h => h) rfl .int (by decide +kernel) rfl rfl (j := 12 + 7 * i + 3) rfl dX3_raise_38 (fun H locs hG hS => ?_)
  exact g_vret hx hb hrt hlocks hS hG (congrArg (va_up M r) (by unfold fX3_raise_P; rfl)) rfl dX3_raise_41

def fX3_settle_P (P : Nat → Int32) (i : Nat) : Nat → Int32 := upd P (12 + 7 * i + 3) (((P (12 + 7 * i + 3)) * 3) / 4)
set_option maxHeartbeats 4000000 in
set_option maxRecDepth 100000 in
theorem mX3_settle {l : Launch} {Γ : gX} (M : Nat → Nat → Int32) (R : Nat → Nat → Option Nat) (O : Int64) {r i : Nat} (hr : r < 19) (hi : i < 10) (hc : 25 * r + 4 + i ∈ gcs Γ) (P : Nat → Int32) : gMet l Γ yX3_settle wsX3_settle 0 0 [.ref (gad Γ (25 * r + 4 + i))] (va_up M r P) R O none (va_up M r (fX3_settle_P P i)) R O := by
  refine g_start (cc := cX3_settle) (maxL := 1) (ret := none) (by decide) rfl (Nat.le_of_ble_eq_true rfl) ?_
  intro p e s m below meth c ls hx hb hml hrt hts hown hlocks hname hK hZ hG hS hl
  have hl : lv_has ls 1 [(0, .ref (gad Γ (25 * r + 4 + i)))] := hl
  have hown : s.vm.findClass RX3 = some m.cls := hown
  have hF : CallFix p m c cX3_settle 1 s _ wsX3_settle RX3 := ⟨hx, hb, hml, hown, hts⟩
  have k_1 : (Cond.fieldLink RX3 21 "RoadDust$Segment" "dust" "I").before _ s = true := hts _ (by decide +kernel)
  have in_X3 : ∀ w ∈ wsX30, w ∈ wsX3_settle := by decide +kernel
  refine lv_aload_n hx hb dX3_settle_0 rfl (lv_at hl 0 rfl) ?_
  refine lv_aload_n hx hb dX3_settle_1 rfl (lv_at hl 0 rfl) ?_
  refine gS_get hx hb hts in_X3 hown hK hG hr hi hc 3 (by decide) k_1 (fun _ h => h) (j := 12 + 7 * i + 3) rfl dX3_settle_2 ?_
  refine lv_iconst (v := 3) hx hb dX3_settle_5 (by decide) ?_
  refine lv_imul hx hb dX3_settle_6 ?_
  refine lv_iconst (v := 4) hx hb dX3_settle_7 (by decide) ?_
  refine lv_idiv hx hb dX3_settle_8 (by decide) ?_
  refine gS_put hx hb hts in_X3 hown hK hG hS hr hi hc 3 (by decide) k_1 (fun _ h => h) rfl .int (by decide +kernel) rfl rfl (j := 12 + 7 * i + 3) rfl dX3_settle_9 (fun H locs hG hS => ?_)
  exact g_vret hx hb hrt hlocks hS hG (congrArg (va_up M r) (by unfold fX3_settle_P; rfl)) rfl dX3_settle_12

def fX3_hearComplaint_P (P : Nat → Int32) (i : Nat) : Nat → Int32 := if (remI ((upd P (12 + 7 * i + 6) ((P (12 + 7 * i + 6)) + 1)) (12 + 7 * i + 6)) 3) = 0 then upd (upd (upd P (12 + 7 * i + 6) ((P (12 + 7 * i + 6)) + 1)) (12 + 7 * i + 2) (if (((upd P (12 + 7 * i + 6) ((P (12 + 7 * i + 6)) + 1)) (12 + 7 * i + 2)) + 1) < 4 then (((upd P (12 + 7 * i + 6) ((P (12 + 7 * i + 6)) + 1)) (12 + 7 * i + 2)) + 1) else 4)) (12 + 7 * i + 1) (if (fX3_greatestLimit_v (upd (upd P (12 + 7 * i + 6) ((P (12 + 7 * i + 6)) + 1)) (12 + 7 * i + 2) (if (((upd P (12 + 7 * i + 6) ((P (12 + 7 * i + 6)) + 1)) (12 + 7 * i + 2)) + 1) < 4 then (((upd P (12 + 7 * i + 6) ((P (12 + 7 * i + 6)) + 1)) (12 + 7 * i + 2)) + 1) else 4)) i) < ((upd (upd P (12 + 7 * i + 6) ((P (12 + 7 * i + 6)) + 1)) (12 + 7 * i + 2) (if (((upd P (12 + 7 * i + 6) ((P (12 + 7 * i + 6)) + 1)) (12 + 7 * i + 2)) + 1) < 4 then (((upd P (12 + 7 * i + 6) ((P (12 + 7 * i + 6)) + 1)) (12 + 7 * i + 2)) + 1) else 4)) (12 + 7 * i + 1)) then (fX3_greatestLimit_v (upd (upd P (12 + 7 * i + 6) ((P (12 + 7 * i + 6)) + 1)) (12 + 7 * i + 2) (if (((upd P (12 + 7 * i + 6) ((P (12 + 7 * i + 6)) + 1)) (12 + 7 * i + 2)) + 1) < 4 then (((upd P (12 + 7 * i + 6) ((P (12 + 7 * i + 6)) + 1)) (12 + 7 * i + 2)) + 1) else 4)) i) else ((upd (upd P (12 + 7 * i + 6) ((P (12 + 7 * i + 6)) + 1)) (12 + 7 * i + 2) (if (((upd P (12 + 7 * i + 6) ((P (12 + 7 * i + 6)) + 1)) (12 + 7 * i + 2)) + 1) < 4 then (((upd P (12 + 7 * i + 6) ((P (12 + 7 * i + 6)) + 1)) (12 + 7 * i + 2)) + 1) else 4)) (12 + 7 * i + 1))) else upd P (12 + 7 * i + 6) ((P (12 + 7 * i + 6)) + 1)
set_option maxHeartbeats 4000000 in
set_option maxRecDepth 100000 in
theorem mX3_hearComplaint {l : Launch} {Γ : gX} (M : Nat → Nat → Int32) (R : Nat → Nat → Option Nat) (O : Int64) {r i : Nat} (hr : r < 19) (hi : i < 10) (hc : 25 * r + 4 + i ∈ gcs Γ) (P : Nat → Int32) : gMet l Γ yX3_hearComplaint wsX3_hearComplaint 1 21 [.ref (gad Γ (25 * r + 4 + i))] (va_up M r P) R O none (va_up M r (fX3_hearComplaint_P P i)) R O := by
  refine g_start (cc := cX3_hearComplaint) (maxL := 1) (ret := none) (by decide) rfl (Nat.le_of_ble_eq_true rfl) ?_
  intro p e s m below meth c ls hx hb hml hrt hts hown hlocks hname hK hZ hG hS hl
  have hl : lv_has ls 1 [(0, .ref (gad Γ (25 * r + 4 + i)))] := hl
  have hown : s.vm.findClass RX3 = some m.cls := hown
  have hF : CallFix p m c cX3_hearComplaint 1 s _ wsX3_hearComplaint RX3 := ⟨hx, hb, hml, hown, hts⟩
  have k_1 : (Cond.fieldLink RX3 31 "RoadDust$Segment" "complaints" "I").before _ s = true := hts _ (by decide +kernel)
  have in_X3 : ∀ w ∈ wsX30, w ∈ wsX3_hearComplaint := by decide +kernel
  have k_3 : (Cond.fieldLink RX3 18 "RoadDust$Segment" "rank" "I").before _ s = true := hts _ (by decide +kernel)
  have k_4 : (Cond.methodLink RX3 34 Lib.Math.min.name).before _ s = true := hts _ (by decide +kernel)
  have k_5 : (Cond.static Lib.Math.min.name).before _ s = true := hts _ (by decide +kernel)
  have k_6 : (Cond.initialized "java/lang/Math").before _ s = true := hts _ (by decide +kernel)
  have k_7 : (Cond.code Lib.Math.min.name Lib.Math.min.code 2 (some .int)).before _ s = true := hts _ (by decide +kernel)
  have k_8 : (Cond.fieldLink RX3 15 "RoadDust$Segment" "limit" "I").before _ s = true := hts _ (by decide +kernel)
  refine lv_aload_n hx hb dX3_hearComplaint_0 rfl (lv_at hl 0 rfl) ?_
  refine lv_dup hx hb dX3_hearComplaint_1 rfl ?_
  refine gS_get hx hb hts in_X3 hown hK hG hr hi hc 6 (by decide) k_1 (fun _ h => h) (j := 12 + 7 * i + 6) rfl dX3_hearComplaint_2 ?_
  refine lv_iconst (v := 1) hx hb dX3_hearComplaint_5 (by decide) ?_
  refine lv_iadd hx hb dX3_hearComplaint_6 ?_
  refine gS_put hx hb hts in_X3 hown hK hG hS hr hi hc 6 (by decide) k_1 (fun _ h => h) rfl .int (by decide +kernel) rfl rfl (j := 12 + 7 * i + 6) rfl dX3_hearComplaint_7 (fun H locs hG hS => ?_)
  refine lv_aload_n hx hb dX3_hearComplaint_10 rfl (lv_at hl 0 rfl) ?_
  refine gS_get hx hb hts in_X3 hown hK hG hr hi hc 6 (by decide) k_1 (fun _ h => h) (j := 12 + 7 * i + 6) rfl dX3_hearComplaint_11 ?_
  refine lv_iconst (v := 3) hx hb dX3_hearComplaint_14 (by decide) ?_
  refine lv_irem hx hb dX3_hearComplaint_15 (by decide) ?_
  refine lv_if_ne (tgt := 48) hx hb dX3_hearComplaint_16 (by decide) (fun c_1 => ?_) (fun c_1 => ?_)
  · --T
    exact g_vret hx hb hrt hlocks hS hG (congrArg (va_up M r) (by unfold fX3_hearComplaint_P; rw [if_neg c_1])) rfl dX3_hearComplaint_48
  · --F
    refine lv_aload_n hx hb dX3_hearComplaint_19 rfl (lv_at hl 0 rfl) ?_
    refine lv_iconst (v := 4) hx hb dX3_hearComplaint_20 (by decide) ?_
    refine lv_aload_n hx hb dX3_hearComplaint_21 rfl (lv_at hl 0 rfl) ?_
    refine gS_get hx hb hts in_X3 hown hK hG hr hi hc 2 (by decide) k_3 (fun _ h => h) (j := 12 + 7 * i + 2) rfl dX3_hearComplaint_22 ?_
    refine lv_iconst (v := 1) hx hb dX3_hearComplaint_25 (by decide) ?_
    refine lv_iadd hx hb dX3_hearComplaint_26 ?_
    refine va_mmin hx hb (hml.trans hl.1.symm) hown k_4 k_5 k_6 k_7 (Nat.le_of_ble_eq_true rfl) (Nat.le_of_ble_eq_true rfl) (Nat.le_of_ble_eq_true rfl) (Nat.le_of_ble_eq_true rfl) dX3_hearComplaint_27 ?_
    refine gS_put hx hb hts in_X3 hown hK hG hS hr hi hc 2 (by decide) k_3 (fun _ h => h) rfl .int (by decide +kernel) rfl rfl (j := 12 + 7 * i + 2) rfl dX3_hearComplaint_30 (fun H locs hG hS => ?_)
    refine lv_aload_n hx hb dX3_hearComplaint_33 rfl (lv_at hl 0 rfl) ?_
    refine lv_aload_n hx hb dX3_hearComplaint_34 rfl (lv_at hl 0 rfl) ?_
    refine gS_get hx hb hts in_X3 hown hK hG hr hi hc 1 (by decide) k_8 (fun _ h => h) (j := 12 + 7 * i + 1) rfl dX3_hearComplaint_35 ?_
    refine lv_aload_n hx hb dX3_hearComplaint_38 rfl (lv_at hl 0 rfl) ?_
    refine g_callV (As := []) (rest := [.int ((upd (upd P (12 + 7 * i + 6) ((P (12 + 7 * i + 6)) + 1)) (12 + 7 * i + 2) (if (((upd P (12 + 7 * i + 6) ((P (12 + 7 * i + 6)) + 1)) (12 + 7 * i + 2)) + 1) < 4 then (((upd P (12 + 7 * i + 6) ((P (12 + 7 * i + 6)) + 1)) (12 + 7 * i + 2)) + 1) else 4)) (12 + 7 * i + 1)), .ref (gad Γ (25 * r + 4 + i))]) (st1 := [.int (fX3_greatestLimit_v (upd (upd P (12 + 7 * i + 6) ((P (12 + 7 * i + 6)) + 1)) (12 + 7 * i + 2) (if (((upd P (12 + 7 * i + 6) ((P (12 + 7 * i + 6)) + 1)) (12 + 7 * i + 2)) + 1) < 4 then (((upd P (12 + 7 * i + 6) ((P (12 + 7 * i + 6)) + 1)) (12 + 7 * i + 2)) + 1) else 4)) i), .int ((upd (upd P (12 + 7 * i + 6) ((P (12 + 7 * i + 6)) + 1)) (12 + 7 * i + 2) (if (((upd P (12 + 7 * i + 6) ((P (12 + 7 * i + 6)) + 1)) (12 + 7 * i + 2)) + 1) < 4 then (((upd P (12 + 7 * i + 6) ((P (12 + 7 * i + 6)) + 1)) (12 + 7 * i + 2)) + 1) else 4)) (12 + 7 * i + 1)), .ref (gad Γ (25 * r + 4 + i))]) hF (mX3_greatestLimit M R O hr hi hc (upd (upd P (12 + 7 * i + 6) ((P (12 + 7 * i + 6)) + 1)) (12 + 7 * i + 2) (if (((upd P (12 + 7 * i + 6) ((P (12 + 7 * i + 6)) + 1)) (12 + 7 * i + 2)) + 1) < 4 then (((upd P (12 + 7 * i + 6) ((P (12 + 7 * i + 6)) + 1)) (12 + 7 * i + 2)) + 1) else 4)) ) (cwV 0 hts gX3_hearComplaint_X3_greatestLimit rfl rfl rfl (by decide +kernel) ⟨Nat.le_of_ble_eq_true rfl, Nat.le_of_ble_eq_true rfl⟩) hK hZ hG hS hc (gC_S hr hi) (by decide) rfl rfl hl.1 (Nat.le_of_ble_eq_true rfl) dX3_hearComplaint_39 ⟨Nat.zero_le _, Nat.zero_le _⟩ rfl rfl (fun H locs hG hS => ?_)
    refine va_mmin hx hb (hml.trans hl.1.symm) hown k_4 k_5 k_6 k_7 (Nat.le_of_ble_eq_true rfl) (Nat.le_of_ble_eq_true rfl) (Nat.le_of_ble_eq_true rfl) (Nat.le_of_ble_eq_true rfl) dX3_hearComplaint_42 ?_
    refine gS_put hx hb hts in_X3 hown hK hG hS hr hi hc 1 (by decide) k_8 (fun _ h => h) rfl .int (by decide +kernel) rfl rfl (j := 12 + 7 * i + 1) rfl dX3_hearComplaint_45 (fun H locs hG hS => ?_)
    exact g_vret hx hb hrt hlocks hS hG (congrArg (va_up M r) (by unfold fX3_hearComplaint_P; rw [if_pos c_1])) rfl dX3_hearComplaint_48

def fX1_beNew_P (P : Nat → Int32) (i : Nat) (a b : Int32) : Nat → Int32 := upd (upd (upd (upd (upd P (82 + 5 * i) a) (82 + 5 * i + 1) b) (82 + 5 * i + 2) 0) (82 + 5 * i + 3) 0) (82 + 5 * i + 4) 0
set_option maxHeartbeats 4000000 in
set_option maxRecDepth 100000 in
theorem mX1_beNew {l : Launch} {Γ : gX} (M : Nat → Nat → Int32) (R : Nat → Nat → Option Nat) (O : Int64) {r i : Nat} (hr : r < 19) (hi : i < 8) (hc : 25 * r + 14 + i ∈ gcs Γ) (P : Nat → Int32) (a b : Int32) : gMet l Γ yX1_beNew wsX1_beNew 0 0 [.ref (gad Γ (25 * r + 14 + i)), .int a, .int b] (va_up M r P) R O none (va_up M r (fX1_beNew_P P i a b)) R O := by
  refine g_start (cc := cX1_beNew) (maxL := 3) (ret := none) (by decide) rfl (Nat.le_of_ble_eq_true rfl) ?_
  intro p e s m below meth c ls hx hb hml hrt hts hown hlocks hname hK hZ hG hS hl
  have hl : lv_has ls 3 [(0, .ref (gad Γ (25 * r + 14 + i))), (1, .int a), (2, .int b)] := hl
  have hown : s.vm.findClass RX1 = some m.cls := hown
  have hF : CallFix p m c cX1_beNew 3 s _ wsX1_beNew RX1 := ⟨hx, hb, hml, hown, hts⟩
  have k_1 : (Cond.fieldLink RX1 9 "RoadDust$House" "segment" "I").before _ s = true := hts _ (by decide +kernel)
  have in_X1 : ∀ w ∈ wsX10, w ∈ wsX1_beNew := by decide +kernel
  have k_3 : (Cond.fieldLink RX1 15 "RoadDust$House" "distance" "I").before _ s = true := hts _ (by decide +kernel)
  have k_4 : (Cond.fieldLink RX1 18 "RoadDust$House" "sum" "I").before _ s = true := hts _ (by decide +kernel)
  have k_5 : (Cond.fieldLink RX1 21 "RoadDust$House" "complaints" "I").before _ s = true := hts _ (by decide +kernel)
  have k_6 : (Cond.fieldLink RX1 24 "RoadDust$House" "got" "I").before _ s = true := hts _ (by decide +kernel)
  refine lv_aload_n hx hb dX1_beNew_0 rfl (lv_at hl 0 rfl) ?_
  refine lv_iload_n hx hb dX1_beNew_1 rfl (lv_at hl 1 rfl) ?_
  refine gHs_put hx hb hts in_X1 hown hK hG hS hr hi hc 0 (by decide) k_1 (fun _ h => h) rfl .int (by decide +kernel) rfl rfl (j := 82 + 5 * i) rfl dX1_beNew_2 (fun H locs hG hS => ?_)
  refine lv_aload_n hx hb dX1_beNew_5 rfl (lv_at hl 0 rfl) ?_
  refine lv_iload_n hx hb dX1_beNew_6 rfl (lv_at hl 2 rfl) ?_
  refine gHs_put hx hb hts in_X1 hown hK hG hS hr hi hc 1 (by decide) k_3 (fun _ h => h) rfl .int (by decide +kernel) rfl rfl (j := 82 + 5 * i + 1) rfl dX1_beNew_7 (fun H locs hG hS => ?_)
  refine lv_aload_n hx hb dX1_beNew_10 rfl (lv_at hl 0 rfl) ?_
  refine lv_iconst (v := 0) hx hb dX1_beNew_11 (by decide) ?_
  refine gHs_put hx hb hts in_X1 hown hK hG hS hr hi hc 2 (by decide) k_4 (fun _ h => h) rfl .int (by decide +kernel) rfl rfl (j := 82 + 5 * i + 2) rfl dX1_beNew_12 (fun H locs hG hS => ?_)
  refine lv_aload_n hx hb dX1_beNew_15 rfl (lv_at hl 0 rfl) ?_
  refine lv_iconst (v := 0) hx hb dX1_beNew_16 (by decide) ?_
  refine gHs_put hx hb hts in_X1 hown hK hG hS hr hi hc 3 (by decide) k_5 (fun _ h => h) rfl .int (by decide +kernel) rfl rfl (j := 82 + 5 * i + 3) rfl dX1_beNew_17 (fun H locs hG hS => ?_)
  refine lv_aload_n hx hb dX1_beNew_20 rfl (lv_at hl 0 rfl) ?_
  refine lv_iconst (v := 0) hx hb dX1_beNew_21 (by decide) ?_
  refine gHs_put hx hb hts in_X1 hown hK hG hS hr hi hc 4 (by decide) k_6 (fun _ h => h) rfl .int (by decide +kernel) rfl rfl (j := 82 + 5 * i + 4) rfl dX1_beNew_22 (fun H locs hG hS => ?_)
  exact g_vret hx hb hrt hlocks hS hG (congrArg (va_up M r) (by unfold fX1_beNew_P; rfl)) rfl dX1_beNew_25

def fX1_copyFrom_P (Q P : Nat → Int32) (i : Nat) : Nat → Int32 := upd (upd (upd (upd (upd P (82 + 5 * i) (Q (82 + 5 * i))) (82 + 5 * i + 1) (Q (82 + 5 * i + 1))) (82 + 5 * i + 2) (Q (82 + 5 * i + 2))) (82 + 5 * i + 3) (Q (82 + 5 * i + 3))) (82 + 5 * i + 4) (Q (82 + 5 * i + 4))
set_option maxHeartbeats 4000000 in
set_option maxRecDepth 100000 in
theorem mX1_copyFrom {l : Launch} {Γ : gX} (M : Nat → Nat → Int32) (R : Nat → Nat → Option Nat) (O : Int64) {r i r2 : Nat} (hr : r < 19) (hi : i < 8) (hc : 25 * r + 14 + i ∈ gcs Γ) (hr2 : r2 < 19) (hc2 : 25 * r2 + 14 + i ∈ gcs Γ) (hne : r2 ≠ r) (P : Nat → Int32) : gMet l Γ yX1_copyFrom wsX1_copyFrom 0 0 [.ref (gad Γ (25 * r + 14 + i)), .ref (gad Γ (25 * r2 + 14 + i))] (va_up M r P) R O none (va_up M r (fX1_copyFrom_P (M r2) P i)) R O := by
  refine g_start (cc := cX1_copyFrom) (maxL := 2) (ret := none) (by decide) rfl (Nat.le_of_ble_eq_true rfl) ?_
  intro p e s m below meth c ls hx hb hml hrt hts hown hlocks hname hK hZ hG hS hl
  have hl : lv_has ls 2 [(0, .ref (gad Γ (25 * r + 14 + i))), (1, .ref (gad Γ (25 * r2 + 14 + i)))] := hl
  have hown : s.vm.findClass RX1 = some m.cls := hown
  have hF : CallFix p m c cX1_copyFrom 2 s _ wsX1_copyFrom RX1 := ⟨hx, hb, hml, hown, hts⟩
  have k_1 : (Cond.fieldLink RX1 9 "RoadDust$House" "segment" "I").before _ s = true := hts _ (by decide +kernel)
  have in_X1 : ∀ w ∈ wsX10, w ∈ wsX1_copyFrom := by decide +kernel
  have k_3 : (Cond.fieldLink RX1 15 "RoadDust$House" "distance" "I").before _ s = true := hts _ (by decide +kernel)
  have k_4 : (Cond.fieldLink RX1 18 "RoadDust$House" "sum" "I").before _ s = true := hts _ (by decide +kernel)
  have k_5 : (Cond.fieldLink RX1 21 "RoadDust$House" "complaints" "I").before _ s = true := hts _ (by decide +kernel)
  have k_6 : (Cond.fieldLink RX1 24 "RoadDust$House" "got" "I").before _ s = true := hts _ (by decide +kernel)
  refine lv_aload_n hx hb dX1_copyFrom_0 rfl (lv_at hl 0 rfl) ?_
  refine lv_aload_n hx hb dX1_copyFrom_1 rfl (lv_at hl 1 rfl) ?_
  refine gHs_get hx hb hts in_X1 hown hK (g_st (va_back _ _ hne) hG) hr2 hi hc2 0 (by decide) k_1 (fun _ h => h) (j := 82 + 5 * i) rfl dX1_copyFrom_2 ?_
  refine gHs_put hx hb hts in_X1 hown hK hG hS hr hi hc 0 (by decide) k_1 (fun _ h => h) rfl .int (by decide +kernel) rfl rfl (j := 82 + 5 * i) rfl dX1_copyFrom_5 (fun H locs hG hS => ?_)
  refine lv_aload_n hx hb dX1_copyFrom_8 rfl (lv_at hl 0 rfl) ?_
  refine lv_aload_n hx hb dX1_copyFrom_9 rfl (lv_at hl 1 rfl) ?_
  refine gHs_get hx hb hts in_X1 hown hK (g_st (va_back _ _ hne) hG) hr2 hi hc2 1 (by decide) k_3 (fun _ h => h) (j := 82 + 5 * i + 1) rfl dX1_copyFrom_10 ?_
  refine gHs_put hx hb hts in_X1 hown hK hG hS hr hi hc 1 (by decide) k_3 (fun _ h => h) rfl .int (by decide +kernel) rfl rfl (j := 82 + 5 * i + 1) rfl dX1_copyFrom_13 (fun H locs hG hS => ?_)
  refine lv_aload_n hx hb dX1_copyFrom_16 rfl (lv_at hl 0 rfl) ?_
  refine lv_aload_n hx hb dX1_copyFrom_17 rfl (lv_at hl 1 rfl) ?_
  refine gHs_get hx hb hts in_X1 hown hK (g_st (va_back _ _ hne) hG) hr2 hi hc2 2 (by decide) k_4 (fun _ h => h) (j := 82 + 5 * i + 2) rfl dX1_copyFrom_18 ?_
  refine gHs_put hx hb hts in_X1 hown hK hG hS hr hi hc 2 (by decide) k_4 (fun _ h => h) rfl .int (by decide +kernel) rfl rfl (j := 82 + 5 * i + 2) rfl dX1_copyFrom_21 (fun H locs hG hS => ?_)
  refine lv_aload_n hx hb dX1_copyFrom_24 rfl (lv_at hl 0 rfl) ?_
  refine lv_aload_n hx hb dX1_copyFrom_25 rfl (lv_at hl 1 rfl) ?_
  refine gHs_get hx hb hts in_X1 hown hK (g_st (va_back _ _ hne) hG) hr2 hi hc2 3 (by decide) k_5 (fun _ h => h) (j := 82 + 5 * i + 3) rfl dX1_copyFrom_26 ?_
  refine gHs_put hx hb hts in_X1 hown hK hG hS hr hi hc 3 (by decide) k_5 (fun _ h => h) rfl .int (by decide +kernel) rfl rfl (j := 82 + 5 * i + 3) rfl dX1_copyFrom_29 (fun H locs hG hS => ?_)
  refine lv_aload_n hx hb dX1_copyFrom_32 rfl (lv_at hl 0 rfl) ?_
  refine lv_aload_n hx hb dX1_copyFrom_33 rfl (lv_at hl 1 rfl) ?_
  refine gHs_get hx hb hts in_X1 hown hK (g_st (va_back _ _ hne) hG) hr2 hi hc2 4 (by decide) k_6 (fun _ h => h) (j := 82 + 5 * i + 4) rfl dX1_copyFrom_34 ?_
  refine gHs_put hx hb hts in_X1 hown hK hG hS hr hi hc 4 (by decide) k_6 (fun _ h => h) rfl .int (by decide +kernel) rfl rfl (j := 82 + 5 * i + 4) rfl dX1_copyFrom_37 (fun H locs hG hS => ?_)
  exact g_vret hx hb hrt hlocks hS hG (congrArg (va_up M r) (by unfold fX1_copyFrom_P; rfl)) rfl dX1_copyFrom_40

def fX1_number_v (P : Nat → Int32) (i : Nat) (a : Int32) : Int32 := if a = 0 then P (82 + 5 * i) else if a = 1 then P (82 + 5 * i + 1) else if a = 2 then P (82 + 5 * i + 2) else if a = 3 then P (82 + 5 * i + 3) else if a = 4 then P (82 + 5 * i + 4) else (-2)
set_option maxHeartbeats 4000000 in
set_option maxRecDepth 100000 in
theorem mX1_number {l : Launch} {Γ : gX} (M : Nat → Nat → Int32) (R : Nat → Nat → Option Nat) (O : Int64) {r i : Nat} (hr : r < 19) (hi : i < 8) (hc : 25 * r + 14 + i ∈ gcs Γ) (P : Nat → Int32) (a : Int32) : gMet l Γ yX1_number wsX1_number 0 0 [.ref (gad Γ (25 * r + 14 + i)), .int a] (va_up M r P) R O (some (.int (fX1_number_v P i a))) (va_up M r P) R O := by
  refine g_start (cc := cX1_number) (maxL := 2) (ret := (some .int)) (by decide) rfl (Nat.le_of_ble_eq_true rfl) ?_
  intro p e s m below meth c ls hx hb hml hrt hts hown hlocks hname hK hZ hG hS hl
  have hl : lv_has ls 2 [(0, .ref (gad Γ (25 * r + 14 + i))), (1, .int a)] := hl
  have hown : s.vm.findClass RX1 = some m.cls := hown
  have hF : CallFix p m c cX1_number 2 s _ wsX1_number RX1 := ⟨hx, hb, hml, hown, hts⟩
  have k_1 : (Cond.fieldLink RX1 9 "RoadDust$House" "segment" "I").before _ s = true := hts _ (by decide +kernel)
  have in_X1 : ∀ w ∈ wsX10, w ∈ wsX1_number := by decide +kernel
  have k_3 : (Cond.fieldLink RX1 15 "RoadDust$House" "distance" "I").before _ s = true := hts _ (by decide +kernel)
  have k_4 : (Cond.fieldLink RX1 18 "RoadDust$House" "sum" "I").before _ s = true := hts _ (by decide +kernel)
  have k_5 : (Cond.fieldLink RX1 21 "RoadDust$House" "complaints" "I").before _ s = true := hts _ (by decide +kernel)
  have k_6 : (Cond.fieldLink RX1 24 "RoadDust$House" "got" "I").before _ s = true := hts _ (by decide +kernel)
  refine lv_iload_n hx hb dX1_number_0 rfl (lv_at hl 1 rfl) ?_
  by_cases c_1 : a = 0
  · --0
    refine lv_tableIn (tgt := 36) hx hb dX1_number_1 (by rw [c_1]; decide) (by rw [c_1]; decide) (by rw [c_1]; rfl) (by decide) ?_
    refine lv_aload_n hx hb dX1_number_36 rfl (lv_at hl 0 rfl) ?_
    refine gHs_get hx hb hts in_X1 hown hK hG hr hi hc 0 (by decide) k_1 (fun _ h => h) (j := 82 + 5 * i) rfl dX1_number_37 ?_
    exact g_iret hx hb hrt hlocks hS hG (by unfold fX1_number_v; rw [if_pos c_1]) rfl dX1_number_40
  · --not 0
    by_cases c_2 : a = 1
    · --1
      refine lv_tableIn (tgt := 41) hx hb dX1_number_1 (by rw [c_2]; decide) (by rw [c_2]; decide) (by rw [c_2]; rfl) (by decide) ?_
      refine lv_aload_n hx hb dX1_number_41 rfl (lv_at hl 0 rfl) ?_
      refine gHs_get hx hb hts in_X1 hown hK hG hr hi hc 1 (by decide) k_3 (fun _ h => h) (j := 82 + 5 * i + 1) rfl dX1_number_42 ?_
      exact g_iret hx hb hrt hlocks hS hG (by unfold fX1_number_v; rw [if_neg c_1, if_pos c_2]) rfl dX1_number_45
    · --not 1
      by_cases c_3 : a = 2
      · --2
        refine lv_tableIn (tgt := 46) hx hb dX1_number_1 (by rw [c_3]; decide) (by rw [c_3]; decide) (by rw [c_3]; rfl) (by decide) ?_
        refine lv_aload_n hx hb dX1_number_46 rfl (lv_at hl 0 rfl) ?_
        refine gHs_get hx hb hts in_X1 hown hK hG hr hi hc 2 (by decide) k_4 (fun _ h => h) (j := 82 + 5 * i + 2) rfl dX1_number_47 ?_
        exact g_iret hx hb hrt hlocks hS hG (by unfold fX1_number_v; rw [if_neg c_1, if_neg c_2, if_pos c_3]) rfl dX1_number_50
      · --not 2
        by_cases c_4 : a = 3
        · --3
          refine lv_tableIn (tgt := 51) hx hb dX1_number_1 (by rw [c_4]; decide) (by rw [c_4]; decide) (by rw [c_4]; rfl) (by decide) ?_
          refine lv_aload_n hx hb dX1_number_51 rfl (lv_at hl 0 rfl) ?_
          refine gHs_get hx hb hts in_X1 hown hK hG hr hi hc 3 (by decide) k_5 (fun _ h => h) (j := 82 + 5 * i + 3) rfl dX1_number_52 ?_
          exact g_iret hx hb hrt hlocks hS hG (by unfold fX1_number_v; rw [if_neg c_1, if_neg c_2, if_neg c_3, if_pos c_4]) rfl dX1_number_55
        · --not 3
          by_cases c_5 : a = 4
          · --4
            refine lv_tableIn (tgt := 56) hx hb dX1_number_1 (by rw [c_5]; decide) (by rw [c_5]; decide) (by rw [c_5]; rfl) (by decide) ?_
            refine lv_aload_n hx hb dX1_number_56 rfl (lv_at hl 0 rfl) ?_
            refine gHs_get hx hb hts in_X1 hown hK hG hr hi hc 4 (by decide) k_6 (fun _ h => h) (j := 82 + 5 * i + 4) rfl dX1_number_57 ?_
            exact g_iret hx hb hrt hlocks hS hG (by unfold fX1_number_v; rw [if_neg c_1, if_neg c_2, if_neg c_3, if_neg c_4, if_pos c_5]) rfl dX1_number_60
          · --not 4
            have z_6 := lv_neT (a := 0) c_1 (by decide)
            have z_7 := lv_neT (a := 1) c_2 (by decide)
            have z_8 := lv_neT (a := 2) c_3 (by decide)
            have z_9 := lv_neT (a := 3) c_4 (by decide)
            have z_10 := lv_neT (a := 4) c_5 (by decide)
            refine lv_tableOut (tgt := 61) hx hb dX1_number_1 (by omega) (by decide) ?_
            refine lv_bipush (v := (-2)) hx hb dX1_number_61 (by decide) ?_
            exact g_iret hx hb hrt hlocks hS hG (by unfold fX1_number_v; rw [if_neg c_1, if_neg c_2, if_neg c_3, if_neg c_4, if_neg c_5]) rfl dX1_number_63

def fX5_beNew_P (P : Nat → Int32) (i : Nat) (a : Int32) : Nat → Int32 := upd (upd (upd P (122 + 3 * i) a) (122 + 3 * i + 1) 20) (122 + 3 * i + 2) 4
set_option maxHeartbeats 4000000 in
set_option maxRecDepth 100000 in
theorem mX5_beNew {l : Launch} {Γ : gX} (M : Nat → Nat → Int32) (R : Nat → Nat → Option Nat) (O : Int64) {r i : Nat} (hr : r < 19) (hi : i < 3) (hc : 25 * r + 22 + i ∈ gcs Γ) (P : Nat → Int32) (a : Int32) : gMet l Γ yX5_beNew wsX5_beNew 0 0 [.ref (gad Γ (25 * r + 22 + i)), .int a] (va_up M r P) R O none (va_up M r (fX5_beNew_P P i a)) R O := by
  refine g_start (cc := cX5_beNew) (maxL := 2) (ret := none) (by decide) rfl (Nat.le_of_ble_eq_true rfl) ?_
  intro p e s m below meth c ls hx hb hml hrt hts hown hlocks hname hK hZ hG hS hl
  have hl : lv_has ls 2 [(0, .ref (gad Γ (25 * r + 22 + i))), (1, .int a)] := hl
  have hown : s.vm.findClass RX5 = some m.cls := hown
  have hF : CallFix p m c cX5_beNew 2 s _ wsX5_beNew RX5 := ⟨hx, hb, hml, hown, hts⟩
  have k_1 : (Cond.fieldLink RX5 9 "RoadDust$Wagon" "segment" "I").before _ s = true := hts _ (by decide +kernel)
  have in_X5 : ∀ w ∈ wsX50, w ∈ wsX5_beNew := by decide +kernel
  have k_3 : (Cond.fieldLink RX5 15 "RoadDust$Wagon" "liters" "I").before _ s = true := hts _ (by decide +kernel)
  have k_4 : (Cond.fieldLink RX5 18 "RoadDust$Wagon" "moves" "I").before _ s = true := hts _ (by decide +kernel)
  refine lv_aload_n hx hb dX5_beNew_0 rfl (lv_at hl 0 rfl) ?_
  refine lv_iload_n hx hb dX5_beNew_1 rfl (lv_at hl 1 rfl) ?_
  refine gWg_put hx hb hts in_X5 hown hK hG hS hr hi hc 0 (by decide) k_1 (fun _ h => h) rfl .int (by decide +kernel) rfl rfl (j := 122 + 3 * i) rfl dX5_beNew_2 (fun H locs hG hS => ?_)
  refine lv_aload_n hx hb dX5_beNew_5 rfl (lv_at hl 0 rfl) ?_
  refine lv_bipush (v := 20) hx hb dX5_beNew_6 (by decide) ?_
  refine gWg_put hx hb hts in_X5 hown hK hG hS hr hi hc 1 (by decide) k_3 (fun _ h => h) rfl .int (by decide +kernel) rfl rfl (j := 122 + 3 * i + 1) rfl dX5_beNew_8 (fun H locs hG hS => ?_)
  refine lv_aload_n hx hb dX5_beNew_11 rfl (lv_at hl 0 rfl) ?_
  refine lv_iconst (v := 4) hx hb dX5_beNew_12 (by decide) ?_
  refine gWg_put hx hb hts in_X5 hown hK hG hS hr hi hc 2 (by decide) k_4 (fun _ h => h) rfl .int (by decide +kernel) rfl rfl (j := 122 + 3 * i + 2) rfl dX5_beNew_13 (fun H locs hG hS => ?_)
  exact g_vret hx hb hrt hlocks hS hG (congrArg (va_up M r) (by unfold fX5_beNew_P; rfl)) rfl dX5_beNew_16

def fX5_copyFrom_P (Q P : Nat → Int32) (i : Nat) : Nat → Int32 := upd (upd (upd P (122 + 3 * i) (Q (122 + 3 * i))) (122 + 3 * i + 1) (Q (122 + 3 * i + 1))) (122 + 3 * i + 2) (Q (122 + 3 * i + 2))
set_option maxHeartbeats 4000000 in
set_option maxRecDepth 100000 in
theorem mX5_copyFrom {l : Launch} {Γ : gX} (M : Nat → Nat → Int32) (R : Nat → Nat → Option Nat) (O : Int64) {r i r2 : Nat} (hr : r < 19) (hi : i < 3) (hc : 25 * r + 22 + i ∈ gcs Γ) (hr2 : r2 < 19) (hc2 : 25 * r2 + 22 + i ∈ gcs Γ) (hne : r2 ≠ r) (P : Nat → Int32) : gMet l Γ yX5_copyFrom wsX5_copyFrom 0 0 [.ref (gad Γ (25 * r + 22 + i)), .ref (gad Γ (25 * r2 + 22 + i))] (va_up M r P) R O none (va_up M r (fX5_copyFrom_P (M r2) P i)) R O := by
  refine g_start (cc := cX5_copyFrom) (maxL := 2) (ret := none) (by decide) rfl (Nat.le_of_ble_eq_true rfl) ?_
  intro p e s m below meth c ls hx hb hml hrt hts hown hlocks hname hK hZ hG hS hl
  have hl : lv_has ls 2 [(0, .ref (gad Γ (25 * r + 22 + i))), (1, .ref (gad Γ (25 * r2 + 22 + i)))] := hl
  have hown : s.vm.findClass RX5 = some m.cls := hown
  have hF : CallFix p m c cX5_copyFrom 2 s _ wsX5_copyFrom RX5 := ⟨hx, hb, hml, hown, hts⟩
  have k_1 : (Cond.fieldLink RX5 9 "RoadDust$Wagon" "segment" "I").before _ s = true := hts _ (by decide +kernel)
  have in_X5 : ∀ w ∈ wsX50, w ∈ wsX5_copyFrom := by decide +kernel
  have k_3 : (Cond.fieldLink RX5 15 "RoadDust$Wagon" "liters" "I").before _ s = true := hts _ (by decide +kernel)
  have k_4 : (Cond.fieldLink RX5 18 "RoadDust$Wagon" "moves" "I").before _ s = true := hts _ (by decide +kernel)
  refine lv_aload_n hx hb dX5_copyFrom_0 rfl (lv_at hl 0 rfl) ?_
  refine lv_aload_n hx hb dX5_copyFrom_1 rfl (lv_at hl 1 rfl) ?_
  refine gWg_get hx hb hts in_X5 hown hK (g_st (va_back _ _ hne) hG) hr2 hi hc2 0 (by decide) k_1 (fun _ h => h) (j := 122 + 3 * i) rfl dX5_copyFrom_2 ?_
  refine gWg_put hx hb hts in_X5 hown hK hG hS hr hi hc 0 (by decide) k_1 (fun _ h => h) rfl .int (by decide +kernel) rfl rfl (j := 122 + 3 * i) rfl dX5_copyFrom_5 (fun H locs hG hS => ?_)
  refine lv_aload_n hx hb dX5_copyFrom_8 rfl (lv_at hl 0 rfl) ?_
  refine lv_aload_n hx hb dX5_copyFrom_9 rfl (lv_at hl 1 rfl) ?_
  refine gWg_get hx hb hts in_X5 hown hK (g_st (va_back _ _ hne) hG) hr2 hi hc2 1 (by decide) k_3 (fun _ h => h) (j := 122 + 3 * i + 1) rfl dX5_copyFrom_10 ?_
  refine gWg_put hx hb hts in_X5 hown hK hG hS hr hi hc 1 (by decide) k_3 (fun _ h => h) rfl .int (by decide +kernel) rfl rfl (j := 122 + 3 * i + 1) rfl dX5_copyFrom_13 (fun H locs hG hS => ?_)
  refine lv_aload_n hx hb dX5_copyFrom_16 rfl (lv_at hl 0 rfl) ?_
  refine lv_aload_n hx hb dX5_copyFrom_17 rfl (lv_at hl 1 rfl) ?_
  refine gWg_get hx hb hts in_X5 hown hK (g_st (va_back _ _ hne) hG) hr2 hi hc2 2 (by decide) k_4 (fun _ h => h) (j := 122 + 3 * i + 2) rfl dX5_copyFrom_18 ?_
  refine gWg_put hx hb hts in_X5 hown hK hG hS hr hi hc 2 (by decide) k_4 (fun _ h => h) rfl .int (by decide +kernel) rfl rfl (j := 122 + 3 * i + 2) rfl dX5_copyFrom_21 (fun H locs hG hS => ?_)
  exact g_vret hx hb hrt hlocks hS hG (congrArg (va_up M r) (by unfold fX5_copyFrom_P; rfl)) rfl dX5_copyFrom_24

def fX5_number_v (P : Nat → Int32) (i : Nat) (a : Int32) : Int32 := if a = 0 then P (122 + 3 * i) else if a = 1 then P (122 + 3 * i + 1) else if a = 2 then P (122 + 3 * i + 2) else (-2)
set_option maxHeartbeats 4000000 in
set_option maxRecDepth 100000 in
theorem mX5_number {l : Launch} {Γ : gX} (M : Nat → Nat → Int32) (R : Nat → Nat → Option Nat) (O : Int64) {r i : Nat} (hr : r < 19) (hi : i < 3) (hc : 25 * r + 22 + i ∈ gcs Γ) (P : Nat → Int32) (a : Int32) : gMet l Γ yX5_number wsX5_number 0 0 [.ref (gad Γ (25 * r + 22 + i)), .int a] (va_up M r P) R O (some (.int (fX5_number_v P i a))) (va_up M r P) R O := by
  refine g_start (cc := cX5_number) (maxL := 2) (ret := (some .int)) (by decide) rfl (Nat.le_of_ble_eq_true rfl) ?_
  intro p e s m below meth c ls hx hb hml hrt hts hown hlocks hname hK hZ hG hS hl
  have hl : lv_has ls 2 [(0, .ref (gad Γ (25 * r + 22 + i))), (1, .int a)] := hl
  have hown : s.vm.findClass RX5 = some m.cls := hown
  have hF : CallFix p m c cX5_number 2 s _ wsX5_number RX5 := ⟨hx, hb, hml, hown, hts⟩
  have k_1 : (Cond.fieldLink RX5 9 "RoadDust$Wagon" "segment" "I").before _ s = true := hts _ (by decide +kernel)
  have in_X5 : ∀ w ∈ wsX50, w ∈ wsX5_number := by decide +kernel
  have k_3 : (Cond.fieldLink RX5 15 "RoadDust$Wagon" "liters" "I").before _ s = true := hts _ (by decide +kernel)
  have k_4 : (Cond.fieldLink RX5 18 "RoadDust$Wagon" "moves" "I").before _ s = true := hts _ (by decide +kernel)
  refine lv_iload_n hx hb dX5_number_0 rfl (lv_at hl 1 rfl) ?_
  by_cases c_1 : a = 0
  · --0
    refine lv_tableIn (tgt := 28) hx hb dX5_number_1 (by rw [c_1]; decide) (by rw [c_1]; decide) (by rw [c_1]; rfl) (by decide) ?_
    refine lv_aload_n hx hb dX5_number_28 rfl (lv_at hl 0 rfl) ?_
    refine gWg_get hx hb hts in_X5 hown hK hG hr hi hc 0 (by decide) k_1 (fun _ h => h) (j := 122 + 3 * i) rfl dX5_number_29 ?_
    exact g_iret hx hb hrt hlocks hS hG (by unfold fX5_number_v; rw [if_pos c_1]) rfl dX5_number_32
  · --not 0
    by_cases c_2 : a = 1
    · --1
      refine lv_tableIn (tgt := 33) hx hb dX5_number_1 (by rw [c_2]; decide) (by rw [c_2]; decide) (by rw [c_2]; rfl) (by decide) ?_
      refine lv_aload_n hx hb dX5_number_33 rfl (lv_at hl 0 rfl) ?_
      refine gWg_get hx hb hts in_X5 hown hK hG hr hi hc 1 (by decide) k_3 (fun _ h => h) (j := 122 + 3 * i + 1) rfl dX5_number_34 ?_
      exact g_iret hx hb hrt hlocks hS hG (by unfold fX5_number_v; rw [if_neg c_1, if_pos c_2]) rfl dX5_number_37
    · --not 1
      by_cases c_3 : a = 2
      · --2
        refine lv_tableIn (tgt := 38) hx hb dX5_number_1 (by rw [c_3]; decide) (by rw [c_3]; decide) (by rw [c_3]; rfl) (by decide) ?_
        refine lv_aload_n hx hb dX5_number_38 rfl (lv_at hl 0 rfl) ?_
        refine gWg_get hx hb hts in_X5 hown hK hG hr hi hc 2 (by decide) k_4 (fun _ h => h) (j := 122 + 3 * i + 2) rfl dX5_number_39 ?_
        exact g_iret hx hb hrt hlocks hS hG (by unfold fX5_number_v; rw [if_neg c_1, if_neg c_2, if_pos c_3]) rfl dX5_number_42
      · --not 2
        have z_4 := lv_neT (a := 0) c_1 (by decide)
        have z_5 := lv_neT (a := 1) c_2 (by decide)
        have z_6 := lv_neT (a := 2) c_3 (by decide)
        refine lv_tableOut (tgt := 43) hx hb dX5_number_1 (by omega) (by decide) ?_
        refine lv_bipush (v := (-2)) hx hb dX5_number_43 (by decide) ?_
        exact g_iret hx hb hrt hlocks hS hG (by unfold fX5_number_v; rw [if_neg c_1, if_neg c_2, if_neg c_3]) rfl dX5_number_45

def fX5_wayTo_v (P : Nat → Int32) (i : Nat) (a : Int32) : Int32 := if 0 ≤ (a - (P (122 + 3 * i))) then (a - (P (122 + 3 * i))) else 0 - (a - (P (122 + 3 * i)))
set_option maxHeartbeats 4000000 in
set_option maxRecDepth 100000 in
theorem mX5_wayTo {l : Launch} {Γ : gX} (M : Nat → Nat → Int32) (R : Nat → Nat → Option Nat) (O : Int64) {r i : Nat} (hr : r < 19) (hi : i < 3) (hc : 25 * r + 22 + i ∈ gcs Γ) (P : Nat → Int32) (a : Int32) : gMet l Γ yX5_wayTo wsX5_wayTo 1 21 [.ref (gad Γ (25 * r + 22 + i)), .int a] (va_up M r P) R O (some (.int (fX5_wayTo_v P i a))) (va_up M r P) R O := by
  refine g_start (cc := cX5_wayTo) (maxL := 2) (ret := (some .int)) (by decide) rfl (Nat.le_of_ble_eq_true rfl) ?_
  intro p e s m below meth c ls hx hb hml hrt hts hown hlocks hname hK hZ hG hS hl
  have hl : lv_has ls 2 [(0, .ref (gad Γ (25 * r + 22 + i))), (1, .int a)] := hl
  have hown : s.vm.findClass RX5 = some m.cls := hown
  have hF : CallFix p m c cX5_wayTo 2 s _ wsX5_wayTo RX5 := ⟨hx, hb, hml, hown, hts⟩
  have k_1 : (Cond.fieldLink RX5 9 "RoadDust$Wagon" "segment" "I").before _ s = true := hts _ (by decide +kernel)
  have in_X5 : ∀ w ∈ wsX50, w ∈ wsX5_wayTo := by decide +kernel
  have k_3 : (Cond.methodLink RX5 21 Lib.Math.abs.name).before _ s = true := hts _ (by decide +kernel)
  have k_4 : (Cond.static Lib.Math.abs.name).before _ s = true := hts _ (by decide +kernel)
  have k_5 : (Cond.initialized "java/lang/Math").before _ s = true := hts _ (by decide +kernel)
  have k_6 : (Cond.code Lib.Math.abs.name Lib.Math.abs.code 1 (some .int)).before _ s = true := hts _ (by decide +kernel)
  refine lv_iload_n hx hb dX5_wayTo_0 rfl (lv_at hl 1 rfl) ?_
  refine lv_aload_n hx hb dX5_wayTo_1 rfl (lv_at hl 0 rfl) ?_
  refine gWg_get hx hb hts in_X5 hown hK hG hr hi hc 0 (by decide) k_1 (fun _ h => h) (j := 122 + 3 * i) rfl dX5_wayTo_2 ?_
  refine lv_isub hx hb dX5_wayTo_5 ?_
  refine va_mabs hx hb (hml.trans hl.1.symm) hown k_3 k_4 k_5 k_6 (Nat.le_of_ble_eq_true rfl) (Nat.le_of_ble_eq_true rfl) (Nat.le_of_ble_eq_true rfl) (Nat.le_of_ble_eq_true rfl) dX5_wayTo_6 ?_
  exact g_iret hx hb hrt hlocks hS hG (by unfold fX5_wayTo_v; rfl) rfl dX5_wayTo_9

def fX5_couldSpray_v (P : Nat → Int32) (i : Nat) (a b : Int32) : Int32 := if (P (122 + 3 * i + 2)) ≤ (fX5_wayTo_v P i a) then 0 else if (P (122 + 3 * i + 1)) < b then 0 else 1
set_option maxHeartbeats 4000000 in
set_option maxRecDepth 100000 in
theorem mX5_couldSpray {l : Launch} {Γ : gX} (M : Nat → Nat → Int32) (R : Nat → Nat → Option Nat) (O : Int64) {r i : Nat} (hr : r < 19) (hi : i < 3) (hc : 25 * r + 22 + i ∈ gcs Γ) (P : Nat → Int32) (a b : Int32) : gMet l Γ yX5_couldSpray wsX5_couldSpray 2 42 [.ref (gad Γ (25 * r + 22 + i)), .int a, .int b] (va_up M r P) R O (some (.int (fX5_couldSpray_v P i a b))) (va_up M r P) R O := by
  refine g_start (cc := cX5_couldSpray) (maxL := 3) (ret := (some .boolean)) (by decide) rfl (Nat.le_of_ble_eq_true rfl) ?_
  intro p e s m below meth c ls hx hb hml hrt hts hown hlocks hname hK hZ hG hS hl
  have hl : lv_has ls 3 [(0, .ref (gad Γ (25 * r + 22 + i))), (1, .int a), (2, .int b)] := hl
  have hown : s.vm.findClass RX5 = some m.cls := hown
  have hF : CallFix p m c cX5_couldSpray 3 s _ wsX5_couldSpray RX5 := ⟨hx, hb, hml, hown, hts⟩
  have k_1 : (Cond.fieldLink RX5 18 "RoadDust$Wagon" "moves" "I").before _ s = true := hts _ (by decide +kernel)
  have in_X5 : ∀ w ∈ wsX50, w ∈ wsX5_couldSpray := by decide +kernel
  have k_3 : (Cond.fieldLink RX5 15 "RoadDust$Wagon" "liters" "I").before _ s = true := hts _ (by decide +kernel)
  refine lv_aload_n hx hb dX5_couldSpray_0 rfl (lv_at hl 0 rfl) ?_
  refine gWg_get hx hb hts in_X5 hown hK hG hr hi hc 2 (by decide) k_1 (fun _ h => h) (j := 122 + 3 * i + 2) rfl dX5_couldSpray_1 ?_
  refine lv_aload_n hx hb dX5_couldSpray_4 rfl (lv_at hl 0 rfl) ?_
  refine lv_iload_n hx hb dX5_couldSpray_5 rfl (lv_at hl 1 rfl) ?_
  refine g_callV (As := [.int a]) (rest := [.int (P (122 + 3 * i + 2))]) (st1 := [.int (fX5_wayTo_v P i a), .int (P (122 + 3 * i + 2))]) hF (mX5_wayTo M R O hr hi hc P a) (cwV 1 hts gX5_couldSpray_X5_wayTo rfl rfl rfl (by decide +kernel) ⟨Nat.le_of_ble_eq_true rfl, Nat.le_of_ble_eq_true rfl⟩) hK hZ hG hS hc (gC_Wg hr hi) (by decide) rfl rfl hl.1 (Nat.le_of_ble_eq_true rfl) dX5_couldSpray_6 ⟨Nat.zero_le _, Nat.zero_le _⟩ rfl rfl (fun H locs hG hS => ?_)
  refine lv_icmp_le (tgt := 24) hx hb dX5_couldSpray_9 (by decide) (fun c_1 => ?_) (fun c_1 => ?_)
  · --T
    refine lv_iconst (v := 0) hx hb dX5_couldSpray_24 (by decide) ?_
    exact g_zret hx hb hrt hlocks hS hG (by decide) (by unfold fX5_couldSpray_v; rw [if_pos c_1]) rfl dX5_couldSpray_25
  · --F
    refine lv_aload_n hx hb dX5_couldSpray_12 rfl (lv_at hl 0 rfl) ?_
    refine gWg_get hx hb hts in_X5 hown hK hG hr hi hc 1 (by decide) k_3 (fun _ h => h) (j := 122 + 3 * i + 1) rfl dX5_couldSpray_13 ?_
    refine lv_iload_n hx hb dX5_couldSpray_16 rfl (lv_at hl 2 rfl) ?_
    refine lv_icmp_lt (tgt := 24) hx hb dX5_couldSpray_17 (by decide) (fun c_2 => ?_) (fun c_2 => ?_)
    · --T
      refine lv_iconst (v := 0) hx hb dX5_couldSpray_24 (by decide) ?_
      exact g_zret hx hb hrt hlocks hS hG (by decide) (by unfold fX5_couldSpray_v; rw [if_neg c_1, if_pos c_2]) rfl dX5_couldSpray_25
    · --F
      refine lv_iconst (v := 1) hx hb dX5_couldSpray_20 (by decide) ?_
      refine lv_goto (tgt := 25) hx hb dX5_couldSpray_21 (by decide) ?_
      exact g_zret hx hb hrt hlocks hS hG (by decide) (by unfold fX5_couldSpray_v; rw [if_neg c_1, if_neg c_2]) rfl dX5_couldSpray_25

