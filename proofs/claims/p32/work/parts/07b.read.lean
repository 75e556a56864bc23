/-! THE ROAD. Laid by gen/p07.py. -/
def fX2_time_v (P : Nat → Int32) : Int32 := (10 * (P 3)) + (P 4)
set_option maxHeartbeats 4000000 in
set_option maxRecDepth 100000 in
theorem mX2_time {l : Launch} {Γ : gX} (M : Nat → Nat → Int32) (R : Nat → Nat → Option Nat) (O : Int64) {r : Nat} (hV : LV Γ R r) (P : Nat → Int32) : gMet l Γ yX2_time wsX2_time 0 0 [.ref (gad Γ (25 * r))] (va_up M r P) R O (some (.int (fX2_time_v P))) (va_up M r P) R O := by
  refine g_start (cc := cX2_time) (maxL := 1) (ret := (some .int)) (by decide) rfl (Nat.le_of_ble_eq_true rfl) ?_
  intro p e s m below meth c ls hx hb hml hrt hts hown hlocks hname hK hZ hG hS hl
  have hl : lv_has ls 1 [(0, .ref (gad Γ (25 * r)))] := hl
  have hown : s.vm.findClass RX2 = some m.cls := hown
  have hF : CallFix p m c cX2_time 1 s _ wsX2_time RX2 := ⟨hx, hb, hml, hown, hts⟩
  have k_1 : (Cond.fieldLink RX2 45 "RoadDust$Road" "day" "I").before _ s = true := hts _ (by decide +kernel)
  have in_X2 : ∀ w ∈ wsX20, w ∈ wsX2_time := by decide +kernel
  have k_3 : (Cond.fieldLink RX2 48 "RoadDust$Road" "hour" "I").before _ s = true := hts _ (by decide +kernel)
  refine lv_bipush (v := 10) hx hb dX2_time_0 (by decide) ?_
  refine lv_aload_n hx hb dX2_time_2 rfl (lv_at hl 0 rfl) ?_
  refine gRd_get hx hb hts in_X2 hown hK hG hV.1 hV.c0 3 (by decide) k_1 (fun _ h => h) (j := 3) rfl dX2_time_3 ?_
  refine lv_imul hx hb dX2_time_6 ?_
  refine lv_aload_n hx hb dX2_time_7 rfl (lv_at hl 0 rfl) ?_
  refine gRd_get hx hb hts in_X2 hown hK hG hV.1 hV.c0 4 (by decide) k_3 (fun _ h => h) (j := 4) rfl dX2_time_8 ?_
  refine lv_iadd hx hb dX2_time_11 ?_
  exact g_iret hx hb hrt hlocks hS hG (by unfold fX2_time_v; rfl) rfl dX2_time_12

def fX2_dustAt_v (P : Nat → Int32) (a : Int32) : Int32 := if a < 0 then 0 else if (P 0) ≤ a then 0 else if 10 ≤ a then 0 else P (12 + 7 * a.toNatClampNeg + 3)
set_option maxHeartbeats 4000000 in
set_option maxRecDepth 100000 in
theorem mX2_dustAt {l : Launch} {Γ : gX} (M : Nat → Nat → Int32) (R : Nat → Nat → Option Nat) (O : Int64) {r : Nat} (hV : LV Γ R r) (P : Nat → Int32) (a : Int32) : gMet l Γ yX2_dustAt wsX2_dustAt 0 0 [.ref (gad Γ (25 * r)), .int a] (va_up M r P) R O (some (.int (fX2_dustAt_v P a))) (va_up M r P) R O := by
  refine g_start (cc := cX2_dustAt) (maxL := 2) (ret := (some .int)) (by decide) rfl (Nat.le_of_ble_eq_true rfl) ?_
  intro p e s m below meth c ls hx hb hml hrt hts hown hlocks hname hK hZ hG hS hl
  have hl : lv_has ls 2 [(0, .ref (gad Γ (25 * r))), (1, .int a)] := hl
  have hown : s.vm.findClass RX2 = some m.cls := hown
  have hF : CallFix p m c cX2_dustAt 2 s _ wsX2_dustAt RX2 := ⟨hx, hb, hml, hown, hts⟩
  have k_1 : (Cond.fieldLink RX2 35 "RoadDust$Road" "segments" "I").before _ s = true := hts _ (by decide +kernel)
  have in_X2 : ∀ w ∈ wsX20, w ∈ wsX2_dustAt := by decide +kernel
  have k_3 : (Cond.fieldLink RX2 11 "RoadDust$Road" "segmentRow" "[LRoadDust$Segment;").before _ s = true := hts _ (by decide +kernel)
  have k_4 : (Cond.fieldLink RX2 200 "RoadDust$Segment" "dust" "I").before _ s = true := hts _ (by decide +kernel)
  have in_X3 : ∀ w ∈ wsX30, w ∈ wsX2_dustAt := by decide +kernel
  refine lv_iload_n hx hb dX2_dustAt_0 rfl (lv_at hl 1 rfl) ?_
  refine lv_if_lt (tgt := 30) hx hb dX2_dustAt_1 (by decide) (fun c_1 => ?_) (fun c_1 => ?_)
  · --T
    refine lv_iconst (v := 0) hx hb dX2_dustAt_30 (by decide) ?_
    exact g_iret hx hb hrt hlocks hS hG (by unfold fX2_dustAt_v; rw [if_pos c_1]) rfl dX2_dustAt_31
  · --F
    refine lv_iload_n hx hb dX2_dustAt_4 rfl (lv_at hl 1 rfl) ?_
    refine lv_aload_n hx hb dX2_dustAt_5 rfl (lv_at hl 0 rfl) ?_
    refine gRd_get hx hb hts in_X2 hown hK hG hV.1 hV.c0 0 (by decide) k_1 (fun _ h => h) (j := 0) rfl dX2_dustAt_6 ?_
    refine lv_icmp_ge (tgt := 30) hx hb dX2_dustAt_9 (by decide) (fun c_2 => ?_) (fun c_2 => ?_)
    · --T
      refine lv_iconst (v := 0) hx hb dX2_dustAt_30 (by decide) ?_
      exact g_iret hx hb hrt hlocks hS hG (by unfold fX2_dustAt_v; rw [if_neg c_1, if_pos c_2]) rfl dX2_dustAt_31
    · --F
      refine lv_iload_n hx hb dX2_dustAt_12 rfl (lv_at hl 1 rfl) ?_
      refine lv_bipush (v := 10) hx hb dX2_dustAt_13 (by decide) ?_
      refine lv_icmp_ge (tgt := 30) hx hb dX2_dustAt_15 (by decide) (fun c_3 => ?_) (fun c_3 => ?_)
      · --T
        refine lv_iconst (v := 0) hx hb dX2_dustAt_30 (by decide) ?_
        exact g_iret hx hb hrt hlocks hS hG (by unfold fX2_dustAt_v; rw [if_neg c_1, if_neg c_2, if_pos c_3]) rfl dX2_dustAt_31
      · --F
        refine lv_aload_n hx hb dX2_dustAt_18 rfl (lv_at hl 0 rfl) ?_
        refine gRd_getr hx hb hts in_X2 hown hK hG hV.1 hV.c0 12 (by decide) rfl hV.2.2.1 k_3 (fun _ h => h) dX2_dustAt_19 ?_
        refine lv_iload_n hx hb dX2_dustAt_22 rfl (lv_at hl 1 rfl) ?_
        refine g_aald hx hb hK hG (hV.row 1 (by decide)) (gC_row1 hV.1) (by decide) (by decide) rfl (gLen_row1 hV.1) (j := a.toNatClampNeg) rfl (ix_in (n := 10) rfl (by decide) c_1 (i32_nle c_3)) (hV.s (i := a.toNatClampNeg) (ix_lt (n := 10) rfl (by decide) c_1 (i32_nle c_3))) dX2_dustAt_23 ?_
        refine gS_get hx hb hts in_X3 hown hK hG hV.1 (ix_lt (n := 10) rfl (by decide) c_1 (i32_nle c_3)) (hV.seg (i := a.toNatClampNeg) (ix_lt (n := 10) rfl (by decide) c_1 (i32_nle c_3))) 3 (by decide) k_4 (fun _ h => h) (j := 12 + 7 * a.toNatClampNeg + 3) rfl dX2_dustAt_24 ?_
        refine lv_goto (tgt := 31) hx hb dX2_dustAt_27 (by decide) ?_
        exact g_iret hx hb hrt hlocks hS hG (by unfold fX2_dustAt_v; rw [if_neg c_1, if_neg c_2, if_neg c_3]) rfl dX2_dustAt_31

def fX2_dustOfAll_T1  (P : Nat → Int32) (k : Nat) (a1 : Int32) : Int32 := a1 + (fX2_dustAt_v P (nI k))
def fX2_dustOfAll_A1  (P : Nat → Int32) : Nat → Int32
  | 0 => 0
  | k + 1 => fX2_dustOfAll_T1  P k (fX2_dustOfAll_A1  P k)
def fX2_dustOfAll_v (P : Nat → Int32) : Int32 := fX2_dustOfAll_A1  P ((P 0).toNatClampNeg)
set_option maxHeartbeats 4000000 in
set_option maxRecDepth 100000 in
theorem mX2_dustOfAll {l : Launch} {Γ : gX} (M : Nat → Nat → Int32) (R : Nat → Nat → Option Nat) (O : Int64) {r : Nat} (hV : LV Γ R r) (P : Nat → Int32) : gMet l Γ yX2_dustOfAll wsX2_dustOfAll 1 21 [.ref (gad Γ (25 * r))] (va_up M r P) R O (some (.int (fX2_dustOfAll_v P))) (va_up M r P) R O := by
  refine g_start (cc := cX2_dustOfAll) (maxL := 3) (ret := (some .int)) (by decide) rfl (Nat.le_of_ble_eq_true rfl) ?_
  intro p e s m below meth c ls hx hb hml hrt hts hown hlocks hname hK hZ hG hS hl
  have hl : lv_has ls 3 [(0, .ref (gad Γ (25 * r)))] := hl
  have hown : s.vm.findClass RX2 = some m.cls := hown
  have hF : CallFix p m c cX2_dustOfAll 3 s _ wsX2_dustOfAll RX2 := ⟨hx, hb, hml, hown, hts⟩
  have k_1 : (Cond.fieldLink RX2 35 "RoadDust$Road" "segments" "I").before _ s = true := hts _ (by decide +kernel)
  have in_X2 : ∀ w ∈ wsX20, w ∈ wsX2_dustOfAll := by decide +kernel
  refine lv_iconst (v := 0) hx hb dX2_dustOfAll_0 (by decide) ?_
  refine lv_istore_n (lv' := [(1, .int 0), (0, .ref (gad Γ (25 * r)))]) hx hb dX2_dustOfAll_1 rfl hl (by decide) rfl (fun ls hl => ?_)
  refine lv_iconst (v := 0) hx hb dX2_dustOfAll_2 (by decide) ?_
  refine lv_istore_n (lv' := [(2, .int 0), (1, .int 0), (0, .ref (gad Γ (25 * r)))]) hx hb dX2_dustOfAll_3 rfl hl (by decide) rfl (fun ls hl => ?_)
  refine g_loop (N := (P 0).toNatClampNeg) (fun k H locs ls => GH Γ (va_up M r P) R O H ∧ va_S (gA Γ) s.heap H locs ∧ lv_has ls 3 [(0, .ref (gad Γ (25 * r))), (1, .int (fX2_dustOfAll_A1  P k)), (2, .int (nI k))]) ?_ ?_ 0 (Nat.zero_le _) _ _ _ ⟨hG, hS, lv_sub hl [2, 1, 0] rfl⟩
  · rintro H locs ls ⟨hG, hS, hl⟩
    refine lv_iload_n hx hb dX2_dustOfAll_4 rfl (lv_at hl 2 rfl) ?_
    refine lv_aload_n hx hb dX2_dustOfAll_5 rfl (lv_at hl 0 rfl) ?_
    refine gRd_get hx hb hts in_X2 hown hK hG hV.1 hV.c0 0 (by decide) k_1 (fun _ h => h) (j := 0) rfl dX2_dustOfAll_6 ?_
    refine lv_icmp_ge (tgt := 26) hx hb dX2_dustOfAll_9 (by decide) (fun c_1 => ?_) (fun c_1 => absurd (cl_le _) c_1)
    refine lv_iload_n hx hb dX2_dustOfAll_26 rfl (lv_at hl 1 rfl) ?_
    exact g_iret hx hb hrt hlocks hS hG (by unfold fX2_dustOfAll_v; rfl) rfl dX2_dustOfAll_27
  · rintro k hk_k ih_k H locs ls ⟨hG, hS, hl⟩
    refine lv_iload_n hx hb dX2_dustOfAll_4 rfl (lv_at hl 2 rfl) ?_
    refine lv_aload_n hx hb dX2_dustOfAll_5 rfl (lv_at hl 0 rfl) ?_
    refine gRd_get hx hb hts in_X2 hown hK hG hV.1 hV.c0 0 (by decide) k_1 (fun _ h => h) (j := 0) rfl dX2_dustOfAll_6 ?_
    refine lv_icmp_ge (tgt := 26) hx hb dX2_dustOfAll_9 (by decide) (fun c_2 => absurd c_2 (cl_ge hk_k)) (fun c_2 => ?_)
    refine lv_iload_n hx hb dX2_dustOfAll_12 rfl (lv_at hl 1 rfl) ?_
    refine lv_aload_n hx hb dX2_dustOfAll_13 rfl (lv_at hl 0 rfl) ?_
    refine lv_iload_n hx hb dX2_dustOfAll_14 rfl (lv_at hl 2 rfl) ?_
    refine g_callV (As := [.int (nI k)]) (rest := [.int (fX2_dustOfAll_A1  P k)]) (st1 := [.int (fX2_dustAt_v P (nI k)), .int (fX2_dustOfAll_A1  P k)]) hF (mX2_dustAt M R O hV P (nI k)) (cwV 1 hts gX2_dustOfAll_X2_dustAt rfl rfl rfl (by decide +kernel) ⟨Nat.le_of_ble_eq_true rfl, Nat.le_of_ble_eq_true rfl⟩) hK hZ hG hS hV.c0 (gC_Rd hV.1) (by decide) rfl rfl hl.1 (Nat.le_of_ble_eq_true rfl) dX2_dustOfAll_15 ⟨Nat.zero_le _, Nat.zero_le _⟩ rfl rfl (fun H locs hG hS => ?_)
    refine lv_iadd hx hb dX2_dustOfAll_18 ?_
    refine lv_istore_n (lv' := [(1, .int ((fX2_dustOfAll_A1  P k) + (fX2_dustAt_v P (nI k)))), (0, .ref (gad Γ (25 * r))), (2, .int (nI k))]) hx hb dX2_dustOfAll_19 rfl hl (by decide) rfl (fun ls hl => ?_)
    refine lv_iinc (v := nI (k + 1)) (lv' := [(2, .int (nI (k + 1))), (1, .int ((fX2_dustOfAll_A1  P k) + (fX2_dustAt_v P (nI k)))), (0, .ref (gad Γ (25 * r)))]) hx hb dX2_dustOfAll_20 hl (k := 2) rfl (nI_1 _) (by decide) rfl (fun ls hl => ?_)
    refine lv_goto (tgt := 4) hx hb dX2_dustOfAll_23 (by decide) ?_
    exact ih_k _ _ _ ⟨hG, hS, lv_sub hl [2, 1, 0] rfl⟩

def fX2_number_v (P : Nat → Int32) (a : Int32) : Int32 := if a = 0 then P 0 else if a = 1 then P 1 else if a = 2 then P 2 else if a = 3 then P 3 else if a = 4 then P 4 else if a = 5 then P 5 else if a = 6 then P 6 else if a = 7 then P 7 else if a = 8 then P 8 else if a = 9 then P 9 else if a = 10 then P 10 else if a = 11 then P 11 else if a = 12 then fX2_dustOfAll_v P  else (-2)
set_option maxHeartbeats 4000000 in
set_option maxRecDepth 100000 in
theorem mX2_number {l : Launch} {Γ : gX} (M : Nat → Nat → Int32) (R : Nat → Nat → Option Nat) (O : Int64) {r : Nat} (hV : LV Γ R r) (P : Nat → Int32) (a : Int32) : gMet l Γ yX2_number wsX2_number 2 43 [.ref (gad Γ (25 * r)), .int a] (va_up M r P) R O (some (.int (fX2_number_v P a))) (va_up M r P) R O := by
  refine g_start (cc := cX2_number) (maxL := 2) (ret := (some .int)) (by decide) rfl (Nat.le_of_ble_eq_true rfl) ?_
  intro p e s m below meth c ls hx hb hml hrt hts hown hlocks hname hK hZ hG hS hl
  have hl : lv_has ls 2 [(0, .ref (gad Γ (25 * r))), (1, .int a)] := hl
  have hown : s.vm.findClass RX2 = some m.cls := hown
  have hF : CallFix p m c cX2_number 2 s _ wsX2_number RX2 := ⟨hx, hb, hml, hown, hts⟩
  have k_1 : (Cond.fieldLink RX2 35 "RoadDust$Road" "segments" "I").before _ s = true := hts _ (by decide +kernel)
  have in_X2 : ∀ w ∈ wsX20, w ∈ wsX2_number := by decide +kernel
  have k_3 : (Cond.fieldLink RX2 39 "RoadDust$Road" "houses" "I").before _ s = true := hts _ (by decide +kernel)
  have k_4 : (Cond.fieldLink RX2 42 "RoadDust$Road" "wagons" "I").before _ s = true := hts _ (by decide +kernel)
  have k_5 : (Cond.fieldLink RX2 45 "RoadDust$Road" "day" "I").before _ s = true := hts _ (by decide +kernel)
  have k_6 : (Cond.fieldLink RX2 48 "RoadDust$Road" "hour" "I").before _ s = true := hts _ (by decide +kernel)
  have k_7 : (Cond.fieldLink RX2 51 "RoadDust$Road" "lorries" "I").before _ s = true := hts _ (by decide +kernel)
  have k_8 : (Cond.fieldLink RX2 54 "RoadDust$Road" "sun" "I").before _ s = true := hts _ (by decide +kernel)
  have k_9 : (Cond.fieldLink RX2 57 "RoadDust$Road" "bound" "I").before _ s = true := hts _ (by decide +kernel)
  have k_10 : (Cond.fieldLink RX2 60 "RoadDust$Road" "right" "I").before _ s = true := hts _ (by decide +kernel)
  have k_11 : (Cond.fieldLink RX2 63 "RoadDust$Road" "filled" "I").before _ s = true := hts _ (by decide +kernel)
  have k_12 : (Cond.fieldLink RX2 66 "RoadDust$Road" "complaints" "I").before _ s = true := hts _ (by decide +kernel)
  have k_13 : (Cond.fieldLink RX2 69 "RoadDust$Road" "sprayed" "I").before _ s = true := hts _ (by decide +kernel)
  refine lv_iload_n hx hb dX2_number_0 rfl (lv_at hl 1 rfl) ?_
  by_cases c_1 : a = 0
  · --0
    refine lv_tableIn (tgt := 68) hx hb dX2_number_1 (by rw [c_1]; decide) (by rw [c_1]; decide) (by rw [c_1]; rfl) (by decide) ?_
    refine lv_aload_n hx hb dX2_number_68 rfl (lv_at hl 0 rfl) ?_
    refine gRd_get hx hb hts in_X2 hown hK hG hV.1 hV.c0 0 (by decide) k_1 (fun _ h => h) (j := 0) rfl dX2_number_69 ?_
    exact g_iret hx hb hrt hlocks hS hG (by unfold fX2_number_v; rw [if_pos c_1]) rfl dX2_number_72
  · --not 0
    by_cases c_2 : a = 1
    · --1
      refine lv_tableIn (tgt := 73) hx hb dX2_number_1 (by rw [c_2]; decide) (by rw [c_2]; decide) (by rw [c_2]; rfl) (by decide) ?_
      refine lv_aload_n hx hb dX2_number_73 rfl (lv_at hl 0 rfl) ?_
      refine gRd_get hx hb hts in_X2 hown hK hG hV.1 hV.c0 1 (by decide) k_3 (fun _ h => h) (j := 1) rfl dX2_number_74 ?_
      exact g_iret hx hb hrt hlocks hS hG (by unfold fX2_number_v; rw [if_neg c_1, if_pos c_2]) rfl dX2_number_77
    · --not 1
      by_cases c_3 : a = 2
      · --2
        refine lv_tableIn (tgt := 78) hx hb dX2_number_1 (by rw [c_3]; decide) (by rw [c_3]; decide) (by rw [c_3]; rfl) (by decide) ?_
        refine lv_aload_n hx hb dX2_number_78 rfl (lv_at hl 0 rfl) ?_
        refine gRd_get hx hb hts in_X2 hown hK hG hV.1 hV.c0 2 (by decide) k_4 (fun _ h => h) (j := 2) rfl dX2_number_79 ?_
        exact g_iret hx hb hrt hlocks hS hG (by unfold fX2_number_v; rw [if_neg c_1, if_neg c_2, if_pos c_3]) rfl dX2_number_82
      · --not 2
        by_cases c_4 : a = 3
        · --3
          refine lv_tableIn (tgt := 83) hx hb dX2_number_1 (by rw [c_4]; decide) (by rw [c_4]; decide) (by rw [c_4]; rfl) (by decide) ?_
          refine lv_aload_n hx hb dX2_number_83 rfl (lv_at hl 0 rfl) ?_
          refine gRd_get hx hb hts in_X2 hown hK hG hV.1 hV.c0 3 (by decide) k_5 (fun _ h => h) (j := 3) rfl dX2_number_84 ?_
          exact g_iret hx hb hrt hlocks hS hG (by unfold fX2_number_v; rw [if_neg c_1, if_neg c_2, if_neg c_3, if_pos c_4]) rfl dX2_number_87
        · --not 3
          by_cases c_5 : a = 4
          · --4
            refine lv_tableIn (tgt := 88) hx hb dX2_number_1 (by rw [c_5]; decide) (by rw [c_5]; decide) (by rw [c_5]; rfl) (by decide) ?_
            refine lv_aload_n hx hb dX2_number_88 rfl (lv_at hl 0 rfl) ?_
            refine gRd_get hx hb hts in_X2 hown hK hG hV.1 hV.c0 4 (by decide) k_6 (fun _ h => h) (j := 4) rfl dX2_number_89 ?_
            exact g_iret hx hb hrt hlocks hS hG (by unfold fX2_number_v; rw [if_neg c_1, if_neg c_2, if_neg c_3, if_neg c_4, if_pos c_5]) rfl dX2_number_92
          · --not 4
            by_cases c_6 : a = 5
            · --5
              refine lv_tableIn (tgt := 93) hx hb dX2_number_1 (by rw [c_6]; decide) (by rw [c_6]; decide) (by rw [c_6]; rfl) (by decide) ?_
              refine lv_aload_n hx hb dX2_number_93 rfl (lv_at hl 0 rfl) ?_
              refine gRd_get hx hb hts in_X2 hown hK hG hV.1 hV.c0 5 (by decide) k_7 (fun _ h => h) (j := 5) rfl dX2_number_94 ?_
              exact g_iret hx hb hrt hlocks hS hG (by unfold fX2_number_v; rw [if_neg c_1, if_neg c_2, if_neg c_3, if_neg c_4, if_neg c_5, if_pos c_6]) rfl dX2_number_97
            · --not 5
              by_cases c_7 : a = 6
              · --6
                refine lv_tableIn (tgt := 98) hx hb dX2_number_1 (by rw [c_7]; decide) (by rw [c_7]; decide) (by rw [c_7]; rfl) (by decide) ?_
                refine lv_aload_n hx hb dX2_number_98 rfl (lv_at hl 0 rfl) ?_
                refine gRd_get hx hb hts in_X2 hown hK hG hV.1 hV.c0 6 (by decide) k_8 (fun _ h => h) (j := 6) rfl dX2_number_99 ?_
                exact g_iret hx hb hrt hlocks hS hG (by unfold fX2_number_v; rw [if_neg c_1, if_neg c_2, if_neg c_3, if_neg c_4, if_neg c_5, if_neg c_6, if_pos c_7]) rfl dX2_number_102
              · --not 6
                by_cases c_8 : a = 7
                · --7
                  refine lv_tableIn (tgt := 103) hx hb dX2_number_1 (by rw [c_8]; decide) (by rw [c_8]; decide) (by rw [c_8]; rfl) (by decide) ?_
                  refine lv_aload_n hx hb dX2_number_103 rfl (lv_at hl 0 rfl) ?_
                  refine gRd_get hx hb hts in_X2 hown hK hG hV.1 hV.c0 7 (by decide) k_9 (fun _ h => h) (j := 7) rfl dX2_number_104 ?_
                  exact g_iret hx hb hrt hlocks hS hG (by unfold fX2_number_v; rw [if_neg c_1, if_neg c_2, if_neg c_3, if_neg c_4, if_neg c_5, if_neg c_6, if_neg c_7, if_pos c_8]) rfl dX2_number_107
                · --not 7
                  by_cases c_9 : a = 8
                  · --8
                    refine lv_tableIn (tgt := 108) hx hb dX2_number_1 (by rw [c_9]; decide) (by rw [c_9]; decide) (by rw [c_9]; rfl) (by decide) ?_
                    refine lv_aload_n hx hb dX2_number_108 rfl (lv_at hl 0 rfl) ?_
                    refine gRd_get hx hb hts in_X2 hown hK hG hV.1 hV.c0 8 (by decide) k_10 (fun _ h => h) (j := 8) rfl dX2_number_109 ?_
                    exact g_iret hx hb hrt hlocks hS hG (by unfold fX2_number_v; rw [if_neg c_1, if_neg c_2, if_neg c_3, if_neg c_4, if_neg c_5, if_neg c_6, if_neg c_7, if_neg c_8, if_pos c_9]) rfl dX2_number_112
                  · --not 8
                    by_cases c_10 : a = 9
                    · --9
                      refine lv_tableIn (tgt := 113) hx hb dX2_number_1 (by rw [c_10]; decide) (by rw [c_10]; decide) (by rw [c_10]; rfl) (by decide) ?_
                      refine lv_aload_n hx hb dX2_number_113 rfl (lv_at hl 0 rfl) ?_
                      refine gRd_get hx hb hts in_X2 hown hK hG hV.1 hV.c0 9 (by decide) k_11 (fun _ h => h) (j := 9) rfl dX2_number_114 ?_
                      exact g_iret hx hb hrt hlocks hS hG (by unfold fX2_number_v; rw [if_neg c_1, if_neg c_2, if_neg c_3, if_neg c_4, if_neg c_5, if_neg c_6, if_neg c_7, if_neg c_8, if_neg c_9, if_pos c_10]) rfl dX2_number_117
                    · --not 9
                      by_cases c_11 : a = 10
                      · --10
                        refine lv_tableIn (tgt := 118) hx hb dX2_number_1 (by rw [c_11]; decide) (by rw [c_11]; decide) (by rw [c_11]; rfl) (by decide) ?_
                        refine lv_aload_n hx hb dX2_number_118 rfl (lv_at hl 0 rfl) ?_
                        refine gRd_get hx hb hts in_X2 hown hK hG hV.1 hV.c0 10 (by decide) k_12 (fun _ h => h) (j := 10) rfl dX2_number_119 ?_
                        exact g_iret hx hb hrt hlocks hS hG (by unfold fX2_number_v; rw [if_neg c_1, if_neg c_2, if_neg c_3, if_neg c_4, if_neg c_5, if_neg c_6, if_neg c_7, if_neg c_8, if_neg c_9, if_neg c_10, if_pos c_11]) rfl dX2_number_122
                      · --not 10
                        by_cases c_12 : a = 11
                        · --11
                          refine lv_tableIn (tgt := 123) hx hb dX2_number_1 (by rw [c_12]; decide) (by rw [c_12]; decide) (by rw [c_12]; rfl) (by decide) ?_
                          refine lv_aload_n hx hb dX2_number_123 rfl (lv_at hl 0 rfl) ?_
                          refine gRd_get hx hb hts in_X2 hown hK hG hV.1 hV.c0 11 (by decide) k_13 (fun _ h => h) (j := 11) rfl dX2_number_124 ?_
                          exact g_iret hx hb hrt hlocks hS hG (by unfold fX2_number_v; rw [if_neg c_1, if_neg c_2, if_neg c_3, if_neg c_4, if_neg c_5, if_neg c_6, if_neg c_7, if_neg c_8, if_neg c_9, if_neg c_10, if_neg c_11, if_pos c_12]) rfl dX2_number_127
                        · --not 11
                          by_cases c_13 : a = 12
                          · --12
                            refine lv_tableIn (tgt := 128) hx hb dX2_number_1 (by rw [c_13]; decide) (by rw [c_13]; decide) (by rw [c_13]; rfl) (by decide) ?_
                            refine lv_aload_n hx hb dX2_number_128 rfl (lv_at hl 0 rfl) ?_
                            refine g_callV (As := []) (rest := []) (st1 := [.int (fX2_dustOfAll_v P )]) hF (mX2_dustOfAll M R O hV P ) (cwV 0 hts gX2_number_X2_dustOfAll rfl rfl rfl (by decide +kernel) ⟨Nat.le_of_ble_eq_true rfl, Nat.le_of_ble_eq_true rfl⟩) hK hZ hG hS hV.c0 (gC_Rd hV.1) (by decide) rfl rfl hl.1 (Nat.le_of_ble_eq_true rfl) dX2_number_129 ⟨Nat.zero_le _, Nat.zero_le _⟩ rfl rfl (fun H locs hG hS => ?_)
                            exact g_iret hx hb hrt hlocks hS hG (by unfold fX2_number_v; rw [if_neg c_1, if_neg c_2, if_neg c_3, if_neg c_4, if_neg c_5, if_neg c_6, if_neg c_7, if_neg c_8, if_neg c_9, if_neg c_10, if_neg c_11, if_neg c_12, if_pos c_13]) rfl dX2_number_132
                          · --not 12
                            have z_14 := lv_neT (a := 0) c_1 (by decide)
                            have z_15 := lv_neT (a := 1) c_2 (by decide)
                            have z_16 := lv_neT (a := 2) c_3 (by decide)
                            have z_17 := lv_neT (a := 3) c_4 (by decide)
                            have z_18 := lv_neT (a := 4) c_5 (by decide)
                            have z_19 := lv_neT (a := 5) c_6 (by decide)
                            have z_20 := lv_neT (a := 6) c_7 (by decide)
                            have z_21 := lv_neT (a := 7) c_8 (by decide)
                            have z_22 := lv_neT (a := 8) c_9 (by decide)
                            have z_23 := lv_neT (a := 9) c_10 (by decide)
                            have z_24 := lv_neT (a := 10) c_11 (by decide)
                            have z_25 := lv_neT (a := 11) c_12 (by decide)
                            have z_26 := lv_neT (a := 12) c_13 (by decide)
                            refine lv_tableOut (tgt := 133) hx hb dX2_number_1 (by omega) (by decide) ?_
                            refine lv_bipush (v := (-2)) hx hb dX2_number_133 (by decide) ?_
                            exact g_iret hx hb hrt hlocks hS hG (by unfold fX2_number_v; rw [if_neg c_1, if_neg c_2, if_neg c_3, if_neg c_4, if_neg c_5, if_neg c_6, if_neg c_7, if_neg c_8, if_neg c_9, if_neg c_10, if_neg c_11, if_neg c_12, if_neg c_13]) rfl dX2_number_135

def fX2_tell_S (a : Int32) (Pk : Nat → Int32) (k : Nat) : Nat → Int32 := if ((a >>> ((nI k) &&& 31)) &&& 1) = 1 then upd Pk (12 + 7 * k + 5) 1 else upd Pk (12 + 7 * k + 5) 0
def fX2_tell_L (a : Int32) (P : Nat → Int32) : Nat → Nat → Int32
  | 0 => P
  | k + 1 => fX2_tell_S a (fX2_tell_L a P k) k
def fX2_tellFillingPlaces_P (P : Nat → Int32) (a : Int32) : Nat → Int32 := fX2_tell_L a P 10
set_option maxHeartbeats 4000000 in
set_option maxRecDepth 100000 in
theorem mX2_tellFillingPlaces {l : Launch} {Γ : gX} (M : Nat → Nat → Int32) (R : Nat → Nat → Option Nat) (O : Int64) {r : Nat} (hV : LV Γ R r) (P : Nat → Int32) (a : Int32) : gMet l Γ yX2_tellFillingPlaces wsX2_tellFillingPlaces 0 0 [.ref (gad Γ (25 * r)), .int a] (va_up M r P) R O none (va_up M r (fX2_tellFillingPlaces_P P a)) R O := by
  refine g_start (cc := cX2_tellFillingPlaces) (maxL := 3) (ret := none) (by decide) rfl (Nat.le_of_ble_eq_true rfl) ?_
  intro p e s m below meth c ls hx hb hml hrt hts hown hlocks hname hK hZ hG hS hl
  have hl : lv_has ls 3 [(0, .ref (gad Γ (25 * r))), (1, .int a)] := hl
  have hown : s.vm.findClass RX2 = some m.cls := hown
  have hF : CallFix p m c cX2_tellFillingPlaces 3 s _ wsX2_tellFillingPlaces RX2 := ⟨hx, hb, hml, hown, hts⟩
  have k_1 : (Cond.fieldLink RX2 11 "RoadDust$Road" "segmentRow" "[LRoadDust$Segment;").before _ s = true := hts _ (by decide +kernel)
  have in_X2 : ∀ w ∈ wsX20, w ∈ wsX2_tellFillingPlaces := by decide +kernel
  have k_3 : (Cond.fieldLink RX2 95 "RoadDust$Segment" "filling" "Z").before _ s = true := hts _ (by decide +kernel)
  have in_X3 : ∀ w ∈ wsX30, w ∈ wsX2_tellFillingPlaces := by decide +kernel
  refine lv_iconst (v := 0) hx hb dX2_tellFillingPlaces_0 (by decide) ?_
  refine lv_istore_n (lv' := [(2, .int 0), (0, .ref (gad Γ (25 * r))), (1, .int a)]) hx hb dX2_tellFillingPlaces_1 rfl hl (by decide) rfl (fun ls hl => ?_)
  refine g_loop (N := 10) (fun k H locs ls => GH Γ (va_up M r (fX2_tell_L a P k)) R O H ∧ va_S (gA Γ) s.heap H locs ∧ lv_has ls 3 [(0, .ref (gad Γ (25 * r))), (1, .int a), (2, .int (nI k))]) ?_ ?_ 0 (Nat.zero_le _) _ _ _ ⟨hG, hS, lv_sub hl [1, 2, 0] rfl⟩
  · rintro H locs ls ⟨hG, hS, hl⟩
    refine lv_iload_n hx hb dX2_tellFillingPlaces_2 rfl (lv_at hl 2 rfl) ?_
    refine lv_bipush (v := 10) hx hb dX2_tellFillingPlaces_3 (by decide) ?_
    refine lv_icmp_ge (tgt := 37) hx hb dX2_tellFillingPlaces_5 (by decide) (fun c_1 => ?_) (fun c_1 => absurd (nI_le (Nat.le_refl _) (by decide)) c_1)
    exact g_vret hx hb hrt hlocks hS hG (congrArg (va_up M r) (by unfold fX2_tellFillingPlaces_P; rfl)) rfl dX2_tellFillingPlaces_37
  · rintro k hk_k ih_k H locs ls ⟨hG, hS, hl⟩
    refine lv_iload_n hx hb dX2_tellFillingPlaces_2 rfl (lv_at hl 2 rfl) ?_
    refine lv_bipush (v := 10) hx hb dX2_tellFillingPlaces_3 (by decide) ?_
    refine lv_icmp_ge (tgt := 37) hx hb dX2_tellFillingPlaces_5 (by decide) (fun c_2 => absurd c_2 (nI_ge hk_k (by decide))) (fun c_2 => ?_)
    refine lv_aload_n hx hb dX2_tellFillingPlaces_8 rfl (lv_at hl 0 rfl) ?_
    refine gRd_getr hx hb hts in_X2 hown hK hG hV.1 hV.c0 12 (by decide) rfl hV.2.2.1 k_1 (fun _ h => h) dX2_tellFillingPlaces_9 ?_
    refine lv_iload_n hx hb dX2_tellFillingPlaces_12 rfl (lv_at hl 2 rfl) ?_
    refine g_aald hx hb hK hG (hV.row 1 (by decide)) (gC_row1 hV.1) (by decide) (by decide) rfl (gLen_row1 hV.1) (j := k) (nI_clamp (by omega)) (vp_in_nI (by omega) (by decide)) (hV.s (i := k) (by omega)) dX2_tellFillingPlaces_13 ?_
    refine lv_iload_n hx hb dX2_tellFillingPlaces_14 rfl (lv_at hl 1 rfl) ?_
    refine lv_iload_n hx hb dX2_tellFillingPlaces_15 rfl (lv_at hl 2 rfl) ?_
    refine lv_ishr hx hb dX2_tellFillingPlaces_16 ?_
    refine lv_iconst (v := 1) hx hb dX2_tellFillingPlaces_17 (by decide) ?_
    refine lv_iand hx hb dX2_tellFillingPlaces_18 ?_
    refine lv_iconst (v := 1) hx hb dX2_tellFillingPlaces_19 (by decide) ?_
    refine lv_icmp_ne (tgt := 27) hx hb dX2_tellFillingPlaces_20 (by decide) (fun c_3 => ?_) (fun c_3 => ?_)
    · --T
      refine lv_iconst (v := 0) hx hb dX2_tellFillingPlaces_27 (by decide) ?_
      refine gS_put hx hb hts in_X3 hown hK hG hS hV.1 (by omega) (hV.seg (i := k) (by omega)) 5 (by decide) k_3 (fun _ h => h) rfl .boolean (by decide +kernel) (congrArg Value.int (by decide)) (fits_bool (by decide)) (j := 12 + 7 * k + 5) rfl dX2_tellFillingPlaces_28 (fun H locs hG hS => ?_)
      refine lv_iinc (v := nI (k + 1)) (lv' := [(2, .int (nI (k + 1))), (0, .ref (gad Γ (25 * r))), (1, .int a)]) hx hb dX2_tellFillingPlaces_31 hl (k := 2) rfl (nI_1 _) (by decide) rfl (fun ls hl => ?_)
      refine lv_goto (tgt := 2) hx hb dX2_tellFillingPlaces_34 (by decide) ?_
      exact ih_k _ _ _ ⟨g_st (congrArg (va_up M r) (by show _ = fX2_tell_S a (fX2_tell_L a P k) k; unfold fX2_tell_S; rw [if_neg c_3])) hG, hS, lv_sub hl [1, 2, 0] rfl⟩
    · --F
      refine lv_iconst (v := 1) hx hb dX2_tellFillingPlaces_23 (by decide) ?_
      refine lv_goto (tgt := 28) hx hb dX2_tellFillingPlaces_24 (by decide) ?_
      refine gS_put hx hb hts in_X3 hown hK hG hS hV.1 (by omega) (hV.seg (i := k) (by omega)) 5 (by decide) k_3 (fun _ h => h) rfl .boolean (by decide +kernel) (congrArg Value.int (by decide)) (fits_bool (by decide)) (j := 12 + 7 * k + 5) rfl dX2_tellFillingPlaces_28 (fun H locs hG hS => ?_)
      refine lv_iinc (v := nI (k + 1)) (lv' := [(2, .int (nI (k + 1))), (0, .ref (gad Γ (25 * r))), (1, .int a)]) hx hb dX2_tellFillingPlaces_31 hl (k := 2) rfl (nI_1 _) (by decide) rfl (fun ls hl => ?_)
      refine lv_goto (tgt := 2) hx hb dX2_tellFillingPlaces_34 (by decide) ?_
      exact ih_k _ _ _ ⟨g_st (congrArg (va_up M r) (by show _ = fX2_tell_S a (fX2_tell_L a P k) k; unfold fX2_tell_S; rw [if_pos c_3])) hG, hS, lv_sub hl [1, 2, 0] rfl⟩

def fX2_beNew_S  (Pk : Nat → Int32) (k : Nat) : Nat → Int32 := fX3_beNew_P Pk k 
def fX2_beNew_L  (P : Nat → Int32) : Nat → Nat → Int32
  | 0 => P
  | k + 1 => fX2_beNew_S  (fX2_beNew_L  P k) k
def fX2_beNew_P (P : Nat → Int32) : Nat → Int32 := fX2_tellFillingPlaces_P (fX2_beNew_L  (upd (upd (upd (upd (upd (upd (upd (upd (upd (upd (upd (upd P 0 4) 1 0) 2 0) 3 0) 4 0) 5 10) 6 5) 7 50) 8 40) 9 0) 10 0) 11 0) 10) 1
set_option maxHeartbeats 4000000 in
set_option maxRecDepth 100000 in
theorem mX2_beNew {l : Launch} {Γ : gX} (M : Nat → Nat → Int32) (R : Nat → Nat → Option Nat) (O : Int64) {r : Nat} (hV : LV Γ R r) (P : Nat → Int32) : gMet l Γ yX2_beNew wsX2_beNew 1 22 [.ref (gad Γ (25 * r))] (va_up M r P) R O none (va_up M r (fX2_beNew_P P)) R O := by
  refine g_start (cc := cX2_beNew) (maxL := 5) (ret := none) (by decide) rfl (Nat.le_of_ble_eq_true rfl) ?_
  intro p e s m below meth c ls hx hb hml hrt hts hown hlocks hname hK hZ hG hS hl
  have hl : lv_has ls 5 [(0, .ref (gad Γ (25 * r)))] := hl
  have hown : s.vm.findClass RX2 = some m.cls := hown
  have hF : CallFix p m c cX2_beNew 5 s _ wsX2_beNew RX2 := ⟨hx, hb, hml, hown, hts⟩
  have k_1 : (Cond.fieldLink RX2 35 "RoadDust$Road" "segments" "I").before _ s = true := hts _ (by decide +kernel)
  have in_X2 : ∀ w ∈ wsX20, w ∈ wsX2_beNew := by decide +kernel
  have k_3 : (Cond.fieldLink RX2 39 "RoadDust$Road" "houses" "I").before _ s = true := hts _ (by decide +kernel)
  have k_4 : (Cond.fieldLink RX2 42 "RoadDust$Road" "wagons" "I").before _ s = true := hts _ (by decide +kernel)
  have k_5 : (Cond.fieldLink RX2 45 "RoadDust$Road" "day" "I").before _ s = true := hts _ (by decide +kernel)
  have k_6 : (Cond.fieldLink RX2 48 "RoadDust$Road" "hour" "I").before _ s = true := hts _ (by decide +kernel)
  have k_7 : (Cond.fieldLink RX2 51 "RoadDust$Road" "lorries" "I").before _ s = true := hts _ (by decide +kernel)
  have k_8 : (Cond.fieldLink RX2 54 "RoadDust$Road" "sun" "I").before _ s = true := hts _ (by decide +kernel)
  have k_9 : (Cond.fieldLink RX2 57 "RoadDust$Road" "bound" "I").before _ s = true := hts _ (by decide +kernel)
  have k_10 : (Cond.fieldLink RX2 60 "RoadDust$Road" "right" "I").before _ s = true := hts _ (by decide +kernel)
  have k_11 : (Cond.fieldLink RX2 63 "RoadDust$Road" "filled" "I").before _ s = true := hts _ (by decide +kernel)
  have k_12 : (Cond.fieldLink RX2 66 "RoadDust$Road" "complaints" "I").before _ s = true := hts _ (by decide +kernel)
  have k_13 : (Cond.fieldLink RX2 69 "RoadDust$Road" "sprayed" "I").before _ s = true := hts _ (by decide +kernel)
  have k_14 : (Cond.fieldLink RX2 11 "RoadDust$Road" "segmentRow" "[LRoadDust$Segment;").before _ s = true := hts _ (by decide +kernel)
  refine lv_aload_n hx hb dX2_beNew_0 rfl (lv_at hl 0 rfl) ?_
  refine lv_iconst (v := 4) hx hb dX2_beNew_1 (by decide) ?_
  refine gRd_put hx hb hts in_X2 hown hK hG hS hV.1 hV.c0 0 (by decide) k_1 (fun _ h => h) rfl .int (by decide +kernel) rfl rfl (j := 0) rfl dX2_beNew_2 (fun H locs hG hS => ?_)
  refine lv_aload_n hx hb dX2_beNew_5 rfl (lv_at hl 0 rfl) ?_
  refine lv_iconst (v := 0) hx hb dX2_beNew_6 (by decide) ?_
  refine gRd_put hx hb hts in_X2 hown hK hG hS hV.1 hV.c0 1 (by decide) k_3 (fun _ h => h) rfl .int (by decide +kernel) rfl rfl (j := 1) rfl dX2_beNew_7 (fun H locs hG hS => ?_)
  refine lv_aload_n hx hb dX2_beNew_10 rfl (lv_at hl 0 rfl) ?_
  refine lv_iconst (v := 0) hx hb dX2_beNew_11 (by decide) ?_
  refine gRd_put hx hb hts in_X2 hown hK hG hS hV.1 hV.c0 2 (by decide) k_4 (fun _ h => h) rfl .int (by decide +kernel) rfl rfl (j := 2) rfl dX2_beNew_12 (fun H locs hG hS => ?_)
  refine lv_aload_n hx hb dX2_beNew_15 rfl (lv_at hl 0 rfl) ?_
  refine lv_iconst (v := 0) hx hb dX2_beNew_16 (by decide) ?_
  refine gRd_put hx hb hts in_X2 hown hK hG hS hV.1 hV.c0 3 (by decide) k_5 (fun _ h => h) rfl .int (by decide +kernel) rfl rfl (j := 3) rfl dX2_beNew_17 (fun H locs hG hS => ?_)
  refine lv_aload_n hx hb dX2_beNew_20 rfl (lv_at hl 0 rfl) ?_
  refine lv_iconst (v := 0) hx hb dX2_beNew_21 (by decide) ?_
  refine gRd_put hx hb hts in_X2 hown hK hG hS hV.1 hV.c0 4 (by decide) k_6 (fun _ h => h) rfl .int (by decide +kernel) rfl rfl (j := 4) rfl dX2_beNew_22 (fun H locs hG hS => ?_)
  refine lv_aload_n hx hb dX2_beNew_25 rfl (lv_at hl 0 rfl) ?_
  refine lv_bipush (v := 10) hx hb dX2_beNew_26 (by decide) ?_
  refine gRd_put hx hb hts in_X2 hown hK hG hS hV.1 hV.c0 5 (by decide) k_7 (fun _ h => h) rfl .int (by decide +kernel) rfl rfl (j := 5) rfl dX2_beNew_28 (fun H locs hG hS => ?_)
  refine lv_aload_n hx hb dX2_beNew_31 rfl (lv_at hl 0 rfl) ?_
  refine lv_iconst (v := 5) hx hb dX2_beNew_32 (by decide) ?_
  refine gRd_put hx hb hts in_X2 hown hK hG hS hV.1 hV.c0 6 (by decide) k_8 (fun _ h => h) rfl .int (by decide +kernel) rfl rfl (j := 6) rfl dX2_beNew_33 (fun H locs hG hS => ?_)
  refine lv_aload_n hx hb dX2_beNew_36 rfl (lv_at hl 0 rfl) ?_
  refine lv_bipush (v := 50) hx hb dX2_beNew_37 (by decide) ?_
  refine gRd_put hx hb hts in_X2 hown hK hG hS hV.1 hV.c0 7 (by decide) k_9 (fun _ h => h) rfl .int (by decide +kernel) rfl rfl (j := 7) rfl dX2_beNew_39 (fun H locs hG hS => ?_)
  refine lv_aload_n hx hb dX2_beNew_42 rfl (lv_at hl 0 rfl) ?_
  refine lv_bipush (v := 40) hx hb dX2_beNew_43 (by decide) ?_
  refine gRd_put hx hb hts in_X2 hown hK hG hS hV.1 hV.c0 8 (by decide) k_10 (fun _ h => h) rfl .int (by decide +kernel) rfl rfl (j := 8) rfl dX2_beNew_45 (fun H locs hG hS => ?_)
  refine lv_aload_n hx hb dX2_beNew_48 rfl (lv_at hl 0 rfl) ?_
  refine lv_iconst (v := 0) hx hb dX2_beNew_49 (by decide) ?_
  refine gRd_put hx hb hts in_X2 hown hK hG hS hV.1 hV.c0 9 (by decide) k_11 (fun _ h => h) rfl .int (by decide +kernel) rfl rfl (j := 9) rfl dX2_beNew_50 (fun H locs hG hS => ?_)
  refine lv_aload_n hx hb dX2_beNew_53 rfl (lv_at hl 0 rfl) ?_
  refine lv_iconst (v := 0) hx hb dX2_beNew_54 (by decide) ?_
  refine gRd_put hx hb hts in_X2 hown hK hG hS hV.1 hV.c0 10 (by decide) k_12 (fun _ h => h) rfl .int (by decide +kernel) rfl rfl (j := 10) rfl dX2_beNew_55 (fun H locs hG hS => ?_)
  refine lv_aload_n hx hb dX2_beNew_58 rfl (lv_at hl 0 rfl) ?_
  refine lv_iconst (v := 0) hx hb dX2_beNew_59 (by decide) ?_
  refine gRd_put hx hb hts in_X2 hown hK hG hS hV.1 hV.c0 11 (by decide) k_13 (fun _ h => h) rfl .int (by decide +kernel) rfl rfl (j := 11) rfl dX2_beNew_60 (fun H locs hG hS => ?_)
  refine lv_aload_n hx hb dX2_beNew_63 rfl (lv_at hl 0 rfl) ?_
  refine gRd_getr hx hb hts in_X2 hown hK hG hV.1 hV.c0 12 (by decide) rfl hV.2.2.1 k_14 (fun _ h => h) dX2_beNew_64 ?_
  refine lv_astore_n (lv' := [(1, .ref (gad Γ (25 * r + 1))), (0, .ref (gad Γ (25 * r)))]) hx hb dX2_beNew_67 rfl hl (by decide) rfl (fun ls hl => ?_)
  refine lv_aload_n hx hb dX2_beNew_68 rfl (lv_at hl 0 rfl) ?_
  refine g_alen hx hb hK hG (hV.row 1 (by decide)) (gC_row1 hV.1) (by decide) (by decide) (gLen_row1 hV.1) dX2_beNew_69 ?_
  refine lv_istore_n (lv' := [(2, .int (nI 10)), (1, .ref (gad Γ (25 * r + 1))), (0, .ref (gad Γ (25 * r)))]) hx hb dX2_beNew_70 rfl hl (by decide) rfl (fun ls hl => ?_)
  refine lv_iconst (v := 0) hx hb dX2_beNew_71 (by decide) ?_
  refine lv_istore_n (lv' := [(3, .int 0), (2, .int (nI 10)), (1, .ref (gad Γ (25 * r + 1))), (0, .ref (gad Γ (25 * r)))]) hx hb dX2_beNew_72 rfl hl (by decide) rfl (fun ls hl => ?_)
  refine g_loop (N := 10) (fun k H locs ls => GH Γ (va_up M r (fX2_beNew_L  (upd (upd (upd (upd (upd (upd (upd (upd (upd (upd (upd (upd P 0 4) 1 0) 2 0) 3 0) 4 0) 5 10) 6 5) 7 50) 8 40) 9 0) 10 0) 11 0) k)) R O H ∧ va_S (gA Γ) s.heap H locs ∧ lv_has ls 5 [(0, .ref (gad Γ (25 * r))), (1, .ref (gad Γ (25 * r + 1))), (2, .int (nI 10)), (3, .int (nI k))]) ?_ ?_ 0 (Nat.zero_le _) _ _ _ ⟨hG, hS, lv_sub hl [3, 2, 1, 0] rfl⟩
  · rintro H locs ls ⟨hG, hS, hl⟩
    refine lv_iload_n hx hb dX2_beNew_73 rfl (lv_at hl 3 rfl) ?_
    refine lv_iload_n hx hb dX2_beNew_74 rfl (lv_at hl 2 rfl) ?_
    refine lv_icmp_ge (tgt := 94) hx hb dX2_beNew_75 (by decide) (fun c_1 => ?_) (fun c_1 => absurd (nI_le (Nat.le_refl _) (by decide)) c_1)
    refine lv_aload_n hx hb dX2_beNew_94 rfl (lv_at hl 0 rfl) ?_
    refine lv_iconst (v := 1) hx hb dX2_beNew_95 (by decide) ?_
    refine g_callV (As := [.int 1]) (rest := []) (st1 := []) hF (mX2_tellFillingPlaces M R O hV (fX2_beNew_L  (upd (upd (upd (upd (upd (upd (upd (upd (upd (upd (upd (upd P 0 4) 1 0) 2 0) 3 0) 4 0) 5 10) 6 5) 7 50) 8 40) 9 0) 10 0) 11 0) 10) 1) (cwV 1 hts gX2_beNew_X2_tellFillingPlaces rfl rfl rfl (by decide +kernel) ⟨Nat.le_of_ble_eq_true rfl, Nat.le_of_ble_eq_true rfl⟩) hK hZ hG hS hV.c0 (gC_Rd hV.1) (by decide) rfl rfl hl.1 (Nat.le_of_ble_eq_true rfl) dX2_beNew_96 ⟨Nat.zero_le _, Nat.zero_le _⟩ rfl rfl (fun H locs hG hS => ?_)
    exact g_vret hx hb hrt hlocks hS hG (congrArg (va_up M r) (by unfold fX2_beNew_P; rfl)) rfl dX2_beNew_99
  · rintro k hk_k ih_k H locs ls ⟨hG, hS, hl⟩
    refine lv_iload_n hx hb dX2_beNew_73 rfl (lv_at hl 3 rfl) ?_
    refine lv_iload_n hx hb dX2_beNew_74 rfl (lv_at hl 2 rfl) ?_
    refine lv_icmp_ge (tgt := 94) hx hb dX2_beNew_75 (by decide) (fun c_2 => absurd c_2 (nI_ge hk_k (by decide))) (fun c_2 => ?_)
    refine lv_aload_n hx hb dX2_beNew_78 rfl (lv_at hl 1 rfl) ?_
    refine lv_iload_n hx hb dX2_beNew_79 rfl (lv_at hl 3 rfl) ?_
    refine g_aald hx hb hK hG (hV.row 1 (by decide)) (gC_row1 hV.1) (by decide) (by decide) rfl (gLen_row1 hV.1) (j := k) (nI_clamp (by omega)) (vp_in_nI (by omega) (by decide)) (hV.s (i := k) (by omega)) dX2_beNew_80 ?_
    refine lv_astore (lv' := [(4, .ref (gad Γ (25 * r + 4 + k))), (0, .ref (gad Γ (25 * r))), (1, .ref (gad Γ (25 * r + 1))), (2, .int (nI 10)), (3, .int (nI k))]) hx hb dX2_beNew_81 hl (by decide) rfl (fun ls hl => ?_)
    refine lv_aload hx hb dX2_beNew_83 (lv_at hl 0 rfl) ?_
    refine g_callV (As := []) (rest := []) (st1 := []) hF (mX3_beNew M R O hV.1 (by omega) (hV.seg (i := k) (by omega)) (fX2_beNew_L  (upd (upd (upd (upd (upd (upd (upd (upd (upd (upd (upd (upd P 0 4) 1 0) 2 0) 3 0) 4 0) 5 10) 6 5) 7 50) 8 40) 9 0) 10 0) 11 0) k) ) (cwV 0 hts gX2_beNew_X3_beNew rfl rfl rfl (by decide +kernel) ⟨Nat.le_of_ble_eq_true rfl, Nat.le_of_ble_eq_true rfl⟩) hK hZ hG hS (hV.seg (i := k) (by omega)) (gC_S hV.1 (by omega)) (by decide) rfl rfl hl.1 (Nat.le_of_ble_eq_true rfl) dX2_beNew_85 ⟨Nat.zero_le _, Nat.zero_le _⟩ rfl rfl (fun H locs hG hS => ?_)
    refine lv_iinc (v := nI (k + 1)) (lv' := [(3, .int (nI (k + 1))), (4, .ref (gad Γ (25 * r + 4 + k))), (0, .ref (gad Γ (25 * r))), (1, .ref (gad Γ (25 * r + 1))), (2, .int (nI 10))]) hx hb dX2_beNew_88 hl (k := 4) rfl (nI_1 _) (by decide) rfl (fun ls hl => ?_)
    refine lv_goto (tgt := 73) hx hb dX2_beNew_91 (by decide) ?_
    exact ih_k _ _ _ ⟨hG, hS, lv_sub hl [2, 3, 4, 0] rfl⟩

