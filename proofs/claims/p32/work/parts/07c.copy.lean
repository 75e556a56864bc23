/-! THE ROAD. Laid by gen/p07.py. -/
def fX2_cpW_S (Q : Nat → Int32) (Pk : Nat → Int32) (k : Nat) : Nat → Int32 := fX5_copyFrom_P Q Pk k
def fX2_cpW_L (Q : Nat → Int32) (P : Nat → Int32) : Nat → Nat → Int32
  | 0 => P
  | k + 1 => fX2_cpW_S Q (fX2_cpW_L Q P k) k
def fX2_cpH_S (Q : Nat → Int32) (Pk : Nat → Int32) (k : Nat) : Nat → Int32 := fX1_copyFrom_P Q Pk k
def fX2_cpH_L (Q : Nat → Int32) (P : Nat → Int32) : Nat → Nat → Int32
  | 0 => P
  | k + 1 => fX2_cpH_S Q (fX2_cpH_L Q P k) k
def fX2_cpS_S (Q : Nat → Int32) (Pk : Nat → Int32) (k : Nat) : Nat → Int32 := fX3_copyFrom_P Q Pk k
def fX2_cpS_L (Q : Nat → Int32) (P : Nat → Int32) : Nat → Nat → Int32
  | 0 => P
  | k + 1 => fX2_cpS_S Q (fX2_cpS_L Q P k) k
def fX2_copyFrom_P (Q P : Nat → Int32) : Nat → Int32 := fX2_cpW_L Q (fX2_cpH_L Q (fX2_cpS_L Q (upd (upd (upd (upd (upd (upd (upd (upd (upd (upd (upd (upd P 0 (Q 0)) 1 (Q 1)) 2 (Q 2)) 3 (Q 3)) 4 (Q 4)) 5 (Q 5)) 6 (Q 6)) 7 (Q 7)) 8 (Q 8)) 9 (Q 9)) 10 (Q 10)) 11 (Q 11)) 10) 8) 3
set_option maxHeartbeats 4000000 in
set_option maxRecDepth 100000 in
theorem mX2_copyFrom {l : Launch} {Γ : gX} (M : Nat → Nat → Int32) (R : Nat → Nat → Option Nat) (O : Int64) {r r2 : Nat} (hV : LV Γ R r) (hV2 : LV Γ R r2) (hne : r2 ≠ r) (hB : ∀ i, i < 10 → M r2 (12 + 7 * i + 5) &&& 1 = M r2 (12 + 7 * i + 5)) (P : Nat → Int32) : gMet l Γ yX2_copyFrom wsX2_copyFrom 1 21 [.ref (gad Γ (25 * r)), .ref (gad Γ (25 * r2))] (va_up M r P) R O none (va_up M r (fX2_copyFrom_P (M r2) P)) R O := by
  refine g_start (cc := cX2_copyFrom) (maxL := 3) (ret := none) (by decide) rfl (Nat.le_of_ble_eq_true rfl) ?_
  intro p e s m below meth c ls hx hb hml hrt hts hown hlocks hname hK hZ hG hS hl
  have hl : lv_has ls 3 [(0, .ref (gad Γ (25 * r))), (1, .ref (gad Γ (25 * r2)))] := hl
  have hown : s.vm.findClass RX2 = some m.cls := hown
  have hF : CallFix p m c cX2_copyFrom 3 s _ wsX2_copyFrom RX2 := ⟨hx, hb, hml, hown, hts⟩
  have k_1 : (Cond.fieldLink RX2 35 "RoadDust$Road" "segments" "I").before _ s = true := hts _ (by decide +kernel)
  have in_X2 : ∀ w ∈ wsX20, w ∈ wsX2_copyFrom := by decide +kernel
  have k_3 : (Cond.fieldLink RX2 39 "RoadDust$Road" "houses" "I").before _ s = true := hts _ (by decide +kernel)
  have k_4 : (Cond.fieldLink RX2 42 "RoadDust$Road" "wagons" "I").before _ s = true := hts _ (by decide +kernel)
  have k_5 : (Cond.fieldLink RX2 45 "RoadDust$Road" "day" "I").before _ s = true := hts _ (by decide +kernel)
  have k_6 : (Cond.fieldLink RX2 48 "RoadDust$Road" "hour" "I").before _ s = true := hts _ (by decide +kernel)
  have k_7 : (Cond.fieldLink RX2 51 "RoadDust$Road" "lorries" "I").before _ s = true := hts _ (by decide +kernel)
  have k_8 : (Cond.fieldLink RX2 54 "RoadDust$Road" "sun" "I").before _ s = true := hts _ (by decide +kernel)
  have k_9 : (Cond.fieldLink RX2 57 "RoadDust$Road" "bound" "I").before _ s = true := hts _ (by decide +kernel)
  have k_10 : (Cond.fieldLink RX2 60 "RoadDust$Road" "right" "I").before _ s = true := hts _ (by decide +kernel)
  have k_11 : (Cond.fieldLink RX2 63 "RoadDust$Road" "filled" "I").before _ s = true := hts _ (by decide +kernel)
  have k_12 : (Cond.fieldLink RX2 66 "RoadDust$Road" "complaints" "I").before _ s = true := hts _ (by decide +kernel)
  have k_13 : (Cond.fieldLink RX2 69 "RoadDust$Road" "sprayed" "I").before _ s = true := hts _ (by decide +kernel)
  have k_14 : (Cond.fieldLink RX2 25 "RoadDust$Road" "wagonRow" "[LRoadDust$Wagon;").before _ s = true := hts _ (by decide +kernel)
  have k_15 : (Cond.fieldLink RX2 19 "RoadDust$Road" "houseRow" "[LRoadDust$House;").before _ s = true := hts _ (by decide +kernel)
  have k_16 : (Cond.fieldLink RX2 11 "RoadDust$Road" "segmentRow" "[LRoadDust$Segment;").before _ s = true := hts _ (by decide +kernel)
  refine lv_aload_n hx hb dX2_copyFrom_0 rfl (lv_at hl 0 rfl) ?_
  refine lv_aload_n hx hb dX2_copyFrom_1 rfl (lv_at hl 1 rfl) ?_
  refine gRd_get hx hb hts in_X2 hown hK (g_st (va_back _ _ hne) hG) hV2.1 hV2.c0 0 (by decide) k_1 (fun _ h => h) (j := 0) rfl dX2_copyFrom_2 ?_
  refine gRd_put hx hb hts in_X2 hown hK hG hS hV.1 hV.c0 0 (by decide) k_1 (fun _ h => h) rfl .int (by decide +kernel) rfl rfl (j := 0) rfl dX2_copyFrom_5 (fun H locs hG hS => ?_)
  refine lv_aload_n hx hb dX2_copyFrom_8 rfl (lv_at hl 0 rfl) ?_
  refine lv_aload_n hx hb dX2_copyFrom_9 rfl (lv_at hl 1 rfl) ?_
  refine gRd_get hx hb hts in_X2 hown hK (g_st (va_back _ _ hne) hG) hV2.1 hV2.c0 1 (by decide) k_3 (fun _ h => h) (j := 1) rfl dX2_copyFrom_10 ?_
  refine gRd_put hx hb hts in_X2 hown hK hG hS hV.1 hV.c0 1 (by decide) k_3 (fun _ h => h) rfl .int (by decide +kernel) rfl rfl (j := 1) rfl dX2_copyFrom_13 (fun H locs hG hS => ?_)
  refine lv_aload_n hx hb dX2_copyFrom_16 rfl (lv_at hl 0 rfl) ?_
  refine lv_aload_n hx hb dX2_copyFrom_17 rfl (lv_at hl 1 rfl) ?_
  refine gRd_get hx hb hts in_X2 hown hK (g_st (va_back _ _ hne) hG) hV2.1 hV2.c0 2 (by decide) k_4 (fun _ h => h) (j := 2) rfl dX2_copyFrom_18 ?_
  refine gRd_put hx hb hts in_X2 hown hK hG hS hV.1 hV.c0 2 (by decide) k_4 (fun _ h => h) rfl .int (by decide +kernel) rfl rfl (j := 2) rfl dX2_copyFrom_21 (fun H locs hG hS => ?_)
  refine lv_aload_n hx hb dX2_copyFrom_24 rfl (lv_at hl 0 rfl) ?_
  refine lv_aload_n hx hb dX2_copyFrom_25 rfl (lv_at hl 1 rfl) ?_
  refine gRd_get hx hb hts in_X2 hown hK (g_st (va_back _ _ hne) hG) hV2.1 hV2.c0 3 (by decide) k_5 (fun _ h => h) (j := 3) rfl dX2_copyFrom_26 ?_
  refine gRd_put hx hb hts in_X2 hown hK hG hS hV.1 hV.c0 3 (by decide) k_5 (fun _ h => h) rfl .int (by decide +kernel) rfl rfl (j := 3) rfl dX2_copyFrom_29 (fun H locs hG hS => ?_)
  refine lv_aload_n hx hb dX2_copyFrom_32 rfl (lv_at hl 0 rfl) ?_
  refine lv_aload_n hx hb dX2_copyFrom_33 rfl (lv_at hl 1 rfl) ?_
  refine gRd_get hx hb hts in_X2 hown hK (g_st (va_back _ _ hne) hG) hV2.1 hV2.c0 4 (by decide) k_6 (fun _ h => h) (j := 4) rfl dX2_copyFrom_34 ?_
  refine gRd_put hx hb hts in_X2 hown hK hG hS hV.1 hV.c0 4 (by decide) k_6 (fun _ h => h) rfl .int (by decide +kernel) rfl rfl (j := 4) rfl dX2_copyFrom_37 (fun H locs hG hS => ?_)
  refine lv_aload_n hx hb dX2_copyFrom_40 rfl (lv_at hl 0 rfl) ?_
  refine lv_aload_n hx hb dX2_copyFrom_41 rfl (lv_at hl 1 rfl) ?_
  refine gRd_get hx hb hts in_X2 hown hK (g_st (va_back _ _ hne) hG) hV2.1 hV2.c0 5 (by decide) k_7 (fun _ h => h) (j := 5) rfl dX2_copyFrom_42 ?_
  refine gRd_put hx hb hts in_X2 hown hK hG hS hV.1 hV.c0 5 (by decide) k_7 (fun _ h => h) rfl .int (by decide +kernel) rfl rfl (j := 5) rfl dX2_copyFrom_45 (fun H locs hG hS => ?_)
  refine lv_aload_n hx hb dX2_copyFrom_48 rfl (lv_at hl 0 rfl) ?_
  refine lv_aload_n hx hb dX2_copyFrom_49 rfl (lv_at hl 1 rfl) ?_
  refine gRd_get hx hb hts in_X2 hown hK (g_st (va_back _ _ hne) hG) hV2.1 hV2.c0 6 (by decide) k_8 (fun _ h => h) (j := 6) rfl dX2_copyFrom_50 ?_
  refine gRd_put hx hb hts in_X2 hown hK hG hS hV.1 hV.c0 6 (by decide) k_8 (fun _ h => h) rfl .int (by decide +kernel) rfl rfl (j := 6) rfl dX2_copyFrom_53 (fun H locs hG hS => ?_)
  refine lv_aload_n hx hb dX2_copyFrom_56 rfl (lv_at hl 0 rfl) ?_
  refine lv_aload_n hx hb dX2_copyFrom_57 rfl (lv_at hl 1 rfl) ?_
  refine gRd_get hx hb hts in_X2 hown hK (g_st (va_back _ _ hne) hG) hV2.1 hV2.c0 7 (by decide) k_9 (fun _ h => h) (j := 7) rfl dX2_copyFrom_58 ?_
  refine gRd_put hx hb hts in_X2 hown hK hG hS hV.1 hV.c0 7 (by decide) k_9 (fun _ h => h) rfl .int (by decide +kernel) rfl rfl (j := 7) rfl dX2_copyFrom_61 (fun H locs hG hS => ?_)
  refine lv_aload_n hx hb dX2_copyFrom_64 rfl (lv_at hl 0 rfl) ?_
  refine lv_aload_n hx hb dX2_copyFrom_65 rfl (lv_at hl 1 rfl) ?_
  refine gRd_get hx hb hts in_X2 hown hK (g_st (va_back _ _ hne) hG) hV2.1 hV2.c0 8 (by decide) k_10 (fun _ h => h) (j := 8) rfl dX2_copyFrom_66 ?_
  refine gRd_put hx hb hts in_X2 hown hK hG hS hV.1 hV.c0 8 (by decide) k_10 (fun _ h => h) rfl .int (by decide +kernel) rfl rfl (j := 8) rfl dX2_copyFrom_69 (fun H locs hG hS => ?_)
  refine lv_aload_n hx hb dX2_copyFrom_72 rfl (lv_at hl 0 rfl) ?_
  refine lv_aload_n hx hb dX2_copyFrom_73 rfl (lv_at hl 1 rfl) ?_
  refine gRd_get hx hb hts in_X2 hown hK (g_st (va_back _ _ hne) hG) hV2.1 hV2.c0 9 (by decide) k_11 (fun _ h => h) (j := 9) rfl dX2_copyFrom_74 ?_
  refine gRd_put hx hb hts in_X2 hown hK hG hS hV.1 hV.c0 9 (by decide) k_11 (fun _ h => h) rfl .int (by decide +kernel) rfl rfl (j := 9) rfl dX2_copyFrom_77 (fun H locs hG hS => ?_)
  refine lv_aload_n hx hb dX2_copyFrom_80 rfl (lv_at hl 0 rfl) ?_
  refine lv_aload_n hx hb dX2_copyFrom_81 rfl (lv_at hl 1 rfl) ?_
  refine gRd_get hx hb hts in_X2 hown hK (g_st (va_back _ _ hne) hG) hV2.1 hV2.c0 10 (by decide) k_12 (fun _ h => h) (j := 10) rfl dX2_copyFrom_82 ?_
  refine gRd_put hx hb hts in_X2 hown hK hG hS hV.1 hV.c0 10 (by decide) k_12 (fun _ h => h) rfl .int (by decide +kernel) rfl rfl (j := 10) rfl dX2_copyFrom_85 (fun H locs hG hS => ?_)
  refine lv_aload_n hx hb dX2_copyFrom_88 rfl (lv_at hl 0 rfl) ?_
  refine lv_aload_n hx hb dX2_copyFrom_89 rfl (lv_at hl 1 rfl) ?_
  refine gRd_get hx hb hts in_X2 hown hK (g_st (va_back _ _ hne) hG) hV2.1 hV2.c0 11 (by decide) k_13 (fun _ h => h) (j := 11) rfl dX2_copyFrom_90 ?_
  refine gRd_put hx hb hts in_X2 hown hK hG hS hV.1 hV.c0 11 (by decide) k_13 (fun _ h => h) rfl .int (by decide +kernel) rfl rfl (j := 11) rfl dX2_copyFrom_93 (fun H locs hG hS => ?_)
  refine lv_iconst (v := 0) hx hb dX2_copyFrom_96 (by decide) ?_
  refine lv_istore_n (lv' := [(2, .int 0), (0, .ref (gad Γ (25 * r))), (1, .ref (gad Γ (25 * r2)))]) hx hb dX2_copyFrom_97 rfl hl (by decide) rfl (fun ls hl => ?_)
  refine g_loop (N := 10) (fun k H locs ls => GH Γ (va_up M r (fX2_cpS_L (M r2) (upd (upd (upd (upd (upd (upd (upd (upd (upd (upd (upd (upd P 0 ((M r2) 0)) 1 ((M r2) 1)) 2 ((M r2) 2)) 3 ((M r2) 3)) 4 ((M r2) 4)) 5 ((M r2) 5)) 6 ((M r2) 6)) 7 ((M r2) 7)) 8 ((M r2) 8)) 9 ((M r2) 9)) 10 ((M r2) 10)) 11 ((M r2) 11)) k)) R O H ∧ va_S (gA Γ) s.heap H locs ∧ lv_has ls 3 [(0, .ref (gad Γ (25 * r))), (1, .ref (gad Γ (25 * r2))), (2, .int (nI k))]) ?_ ?_ 0 (Nat.zero_le _) _ _ _ ⟨hG, hS, lv_sub hl [1, 2, 0] rfl⟩
  · rintro H locs ls ⟨hG, hS, hl⟩
    refine lv_iload_n hx hb dX2_copyFrom_98 rfl (lv_at hl 2 rfl) ?_
    refine lv_bipush (v := 10) hx hb dX2_copyFrom_99 (by decide) ?_
    refine lv_icmp_ge (tgt := 125) hx hb dX2_copyFrom_101 (by decide) (fun c_1 => ?_) (fun c_1 => absurd (nI_le (Nat.le_refl _) (by decide)) c_1)
    refine lv_iconst (v := 0) hx hb dX2_copyFrom_125 (by decide) ?_
    refine lv_istore_n (lv' := [(2, .int 0), (0, .ref (gad Γ (25 * r))), (1, .ref (gad Γ (25 * r2)))]) hx hb dX2_copyFrom_126 rfl hl (by decide) rfl (fun ls hl => ?_)
    refine g_loop (N := 8) (fun k H locs ls => GH Γ (va_up M r (fX2_cpH_L (M r2) (fX2_cpS_L (M r2) (upd (upd (upd (upd (upd (upd (upd (upd (upd (upd (upd (upd P 0 ((M r2) 0)) 1 ((M r2) 1)) 2 ((M r2) 2)) 3 ((M r2) 3)) 4 ((M r2) 4)) 5 ((M r2) 5)) 6 ((M r2) 6)) 7 ((M r2) 7)) 8 ((M r2) 8)) 9 ((M r2) 9)) 10 ((M r2) 10)) 11 ((M r2) 11)) 10) k)) R O H ∧ va_S (gA Γ) s.heap H locs ∧ lv_has ls 3 [(0, .ref (gad Γ (25 * r))), (1, .ref (gad Γ (25 * r2))), (2, .int (nI k))]) ?_ ?_ 0 (Nat.zero_le _) _ _ _ ⟨hG, hS, lv_sub hl [1, 2, 0] rfl⟩
    · rintro H locs ls ⟨hG, hS, hl⟩
      refine lv_iload_n hx hb dX2_copyFrom_127 rfl (lv_at hl 2 rfl) ?_
      refine lv_bipush (v := 8) hx hb dX2_copyFrom_128 (by decide) ?_
      refine lv_icmp_ge (tgt := 154) hx hb dX2_copyFrom_130 (by decide) (fun c_2 => ?_) (fun c_2 => absurd (nI_le (Nat.le_refl _) (by decide)) c_2)
      refine lv_iconst (v := 0) hx hb dX2_copyFrom_154 (by decide) ?_
      refine lv_istore_n (lv' := [(2, .int 0), (0, .ref (gad Γ (25 * r))), (1, .ref (gad Γ (25 * r2)))]) hx hb dX2_copyFrom_155 rfl hl (by decide) rfl (fun ls hl => ?_)
      refine g_loop (N := 3) (fun k H locs ls => GH Γ (va_up M r (fX2_cpW_L (M r2) (fX2_cpH_L (M r2) (fX2_cpS_L (M r2) (upd (upd (upd (upd (upd (upd (upd (upd (upd (upd (upd (upd P 0 ((M r2) 0)) 1 ((M r2) 1)) 2 ((M r2) 2)) 3 ((M r2) 3)) 4 ((M r2) 4)) 5 ((M r2) 5)) 6 ((M r2) 6)) 7 ((M r2) 7)) 8 ((M r2) 8)) 9 ((M r2) 9)) 10 ((M r2) 10)) 11 ((M r2) 11)) 10) 8) k)) R O H ∧ va_S (gA Γ) s.heap H locs ∧ lv_has ls 3 [(0, .ref (gad Γ (25 * r))), (1, .ref (gad Γ (25 * r2))), (2, .int (nI k))]) ?_ ?_ 0 (Nat.zero_le _) _ _ _ ⟨hG, hS, lv_sub hl [1, 2, 0] rfl⟩
      · rintro H locs ls ⟨hG, hS, hl⟩
        refine lv_iload_n hx hb dX2_copyFrom_156 rfl (lv_at hl 2 rfl) ?_
        refine lv_iconst (v := 3) hx hb dX2_copyFrom_157 (by decide) ?_
        refine lv_icmp_ge (tgt := 182) hx hb dX2_copyFrom_158 (by decide) (fun c_3 => ?_) (fun c_3 => absurd (nI_le (Nat.le_refl _) (by decide)) c_3)
        exact g_vret hx hb hrt hlocks hS hG (congrArg (va_up M r) (by unfold fX2_copyFrom_P; rfl)) rfl dX2_copyFrom_182
      · rintro k hk_k ih_k H locs ls ⟨hG, hS, hl⟩
        refine lv_iload_n hx hb dX2_copyFrom_156 rfl (lv_at hl 2 rfl) ?_
        refine lv_iconst (v := 3) hx hb dX2_copyFrom_157 (by decide) ?_
        refine lv_icmp_ge (tgt := 182) hx hb dX2_copyFrom_158 (by decide) (fun c_4 => absurd c_4 (nI_ge hk_k (by decide))) (fun c_4 => ?_)
        refine lv_aload_n hx hb dX2_copyFrom_161 rfl (lv_at hl 0 rfl) ?_
        refine gRd_getr hx hb hts in_X2 hown hK hG hV.1 hV.c0 14 (by decide) rfl hV.2.2.2.2.1 k_14 (fun _ h => h) dX2_copyFrom_162 ?_
        refine lv_iload_n hx hb dX2_copyFrom_165 rfl (lv_at hl 2 rfl) ?_
        refine g_aald hx hb hK hG (hV.row 3 (by decide)) (gC_row3 hV.1) (by decide) (by decide) rfl (gLen_row3 hV.1) (j := k) (nI_clamp (by omega)) (vp_in_nI (by omega) (by decide)) (hV.w (i := k) (by omega)) dX2_copyFrom_166 ?_
        refine lv_aload_n hx hb dX2_copyFrom_167 rfl (lv_at hl 1 rfl) ?_
        refine gRd_getr hx hb hts in_X2 hown hK hG hV2.1 hV2.c0 14 (by decide) rfl hV2.2.2.2.2.1 k_14 (fun _ h => h) dX2_copyFrom_168 ?_
        refine lv_iload_n hx hb dX2_copyFrom_171 rfl (lv_at hl 2 rfl) ?_
        refine g_aald hx hb hK hG (hV2.row 3 (by decide)) (gC_row3 hV2.1) (by decide) (by decide) rfl (gLen_row3 hV2.1) (j := k) (nI_clamp (by omega)) (vp_in_nI (by omega) (by decide)) (hV2.w (i := k) (by omega)) dX2_copyFrom_172 ?_
        refine g_callV (As := [.ref (gad Γ (25 * r2 + 22 + k))]) (rest := []) (st1 := []) hF (mX5_copyFrom M R O hV.1 (by omega) (hV.wag (i := k) (by omega)) hV2.1 (hV2.wag (i := k) (by omega)) hne (fX2_cpW_L (M r2) (fX2_cpH_L (M r2) (fX2_cpS_L (M r2) (upd (upd (upd (upd (upd (upd (upd (upd (upd (upd (upd (upd P 0 ((M r2) 0)) 1 ((M r2) 1)) 2 ((M r2) 2)) 3 ((M r2) 3)) 4 ((M r2) 4)) 5 ((M r2) 5)) 6 ((M r2) 6)) 7 ((M r2) 7)) 8 ((M r2) 8)) 9 ((M r2) 9)) 10 ((M r2) 10)) 11 ((M r2) 11)) 10) 8) k)) (cwV 1 hts gX2_copyFrom_X5_copyFrom rfl rfl rfl (by decide +kernel) ⟨Nat.le_of_ble_eq_true rfl, Nat.le_of_ble_eq_true rfl⟩) hK hZ hG hS (hV.wag (i := k) (by omega)) (gC_Wg hV.1 (by omega)) (by decide) rfl rfl hl.1 (Nat.le_of_ble_eq_true rfl) dX2_copyFrom_173 ⟨Nat.zero_le _, Nat.zero_le _⟩ rfl rfl (fun H locs hG hS => ?_)
        refine lv_iinc (v := nI (k + 1)) (lv' := [(2, .int (nI (k + 1))), (0, .ref (gad Γ (25 * r))), (1, .ref (gad Γ (25 * r2)))]) hx hb dX2_copyFrom_176 hl (k := 2) rfl (nI_1 _) (by decide) rfl (fun ls hl => ?_)
        refine lv_goto (tgt := 156) hx hb dX2_copyFrom_179 (by decide) ?_
        exact ih_k _ _ _ ⟨hG, hS, lv_sub hl [1, 2, 0] rfl⟩
    · rintro k hk_k ih_k H locs ls ⟨hG, hS, hl⟩
      refine lv_iload_n hx hb dX2_copyFrom_127 rfl (lv_at hl 2 rfl) ?_
      refine lv_bipush (v := 8) hx hb dX2_copyFrom_128 (by decide) ?_
      refine lv_icmp_ge (tgt := 154) hx hb dX2_copyFrom_130 (by decide) (fun c_5 => absurd c_5 (nI_ge hk_k (by decide))) (fun c_5 => ?_)
      refine lv_aload_n hx hb dX2_copyFrom_133 rfl (lv_at hl 0 rfl) ?_
      refine gRd_getr hx hb hts in_X2 hown hK hG hV.1 hV.c0 13 (by decide) rfl hV.2.2.2.1 k_15 (fun _ h => h) dX2_copyFrom_134 ?_
      refine lv_iload_n hx hb dX2_copyFrom_137 rfl (lv_at hl 2 rfl) ?_
      refine g_aald hx hb hK hG (hV.row 2 (by decide)) (gC_row2 hV.1) (by decide) (by decide) rfl (gLen_row2 hV.1) (j := k) (nI_clamp (by omega)) (vp_in_nI (by omega) (by decide)) (hV.h (i := k) (by omega)) dX2_copyFrom_138 ?_
      refine lv_aload_n hx hb dX2_copyFrom_139 rfl (lv_at hl 1 rfl) ?_
      refine gRd_getr hx hb hts in_X2 hown hK hG hV2.1 hV2.c0 13 (by decide) rfl hV2.2.2.2.1 k_15 (fun _ h => h) dX2_copyFrom_140 ?_
      refine lv_iload_n hx hb dX2_copyFrom_143 rfl (lv_at hl 2 rfl) ?_
      refine g_aald hx hb hK hG (hV2.row 2 (by decide)) (gC_row2 hV2.1) (by decide) (by decide) rfl (gLen_row2 hV2.1) (j := k) (nI_clamp (by omega)) (vp_in_nI (by omega) (by decide)) (hV2.h (i := k) (by omega)) dX2_copyFrom_144 ?_
      refine g_callV (As := [.ref (gad Γ (25 * r2 + 14 + k))]) (rest := []) (st1 := []) hF (mX1_copyFrom M R O hV.1 (by omega) (hV.hou (i := k) (by omega)) hV2.1 (hV2.hou (i := k) (by omega)) hne (fX2_cpH_L (M r2) (fX2_cpS_L (M r2) (upd (upd (upd (upd (upd (upd (upd (upd (upd (upd (upd (upd P 0 ((M r2) 0)) 1 ((M r2) 1)) 2 ((M r2) 2)) 3 ((M r2) 3)) 4 ((M r2) 4)) 5 ((M r2) 5)) 6 ((M r2) 6)) 7 ((M r2) 7)) 8 ((M r2) 8)) 9 ((M r2) 9)) 10 ((M r2) 10)) 11 ((M r2) 11)) 10) k)) (cwV 1 hts gX2_copyFrom_X1_copyFrom rfl rfl rfl (by decide +kernel) ⟨Nat.le_of_ble_eq_true rfl, Nat.le_of_ble_eq_true rfl⟩) hK hZ hG hS (hV.hou (i := k) (by omega)) (gC_Hs hV.1 (by omega)) (by decide) rfl rfl hl.1 (Nat.le_of_ble_eq_true rfl) dX2_copyFrom_145 ⟨Nat.zero_le _, Nat.zero_le _⟩ rfl rfl (fun H locs hG hS => ?_)
      refine lv_iinc (v := nI (k + 1)) (lv' := [(2, .int (nI (k + 1))), (0, .ref (gad Γ (25 * r))), (1, .ref (gad Γ (25 * r2)))]) hx hb dX2_copyFrom_148 hl (k := 2) rfl (nI_1 _) (by decide) rfl (fun ls hl => ?_)
      refine lv_goto (tgt := 127) hx hb dX2_copyFrom_151 (by decide) ?_
      exact ih_k _ _ _ ⟨hG, hS, lv_sub hl [1, 2, 0] rfl⟩
  · rintro k hk_k ih_k H locs ls ⟨hG, hS, hl⟩
    refine lv_iload_n hx hb dX2_copyFrom_98 rfl (lv_at hl 2 rfl) ?_
    refine lv_bipush (v := 10) hx hb dX2_copyFrom_99 (by decide) ?_
    refine lv_icmp_ge (tgt := 125) hx hb dX2_copyFrom_101 (by decide) (fun c_6 => absurd c_6 (nI_ge hk_k (by decide))) (fun c_6 => ?_)
    refine lv_aload_n hx hb dX2_copyFrom_104 rfl (lv_at hl 0 rfl) ?_
    refine gRd_getr hx hb hts in_X2 hown hK hG hV.1 hV.c0 12 (by decide) rfl hV.2.2.1 k_16 (fun _ h => h) dX2_copyFrom_105 ?_
    refine lv_iload_n hx hb dX2_copyFrom_108 rfl (lv_at hl 2 rfl) ?_
    refine g_aald hx hb hK hG (hV.row 1 (by decide)) (gC_row1 hV.1) (by decide) (by decide) rfl (gLen_row1 hV.1) (j := k) (nI_clamp (by omega)) (vp_in_nI (by omega) (by decide)) (hV.s (i := k) (by omega)) dX2_copyFrom_109 ?_
    refine lv_aload_n hx hb dX2_copyFrom_110 rfl (lv_at hl 1 rfl) ?_
    refine gRd_getr hx hb hts in_X2 hown hK hG hV2.1 hV2.c0 12 (by decide) rfl hV2.2.2.1 k_16 (fun _ h => h) dX2_copyFrom_111 ?_
    refine lv_iload_n hx hb dX2_copyFrom_114 rfl (lv_at hl 2 rfl) ?_
    refine g_aald hx hb hK hG (hV2.row 1 (by decide)) (gC_row1 hV2.1) (by decide) (by decide) rfl (gLen_row1 hV2.1) (j := k) (nI_clamp (by omega)) (vp_in_nI (by omega) (by decide)) (hV2.s (i := k) (by omega)) dX2_copyFrom_115 ?_
    refine g_callV (As := [.ref (gad Γ (25 * r2 + 4 + k))]) (rest := []) (st1 := []) hF (mX3_copyFrom M R O hV.1 (by omega) (hV.seg (i := k) (by omega)) hV2.1 (hV2.seg (i := k) (by omega)) hne (hB _ (by omega)) (fX2_cpS_L (M r2) (upd (upd (upd (upd (upd (upd (upd (upd (upd (upd (upd (upd P 0 ((M r2) 0)) 1 ((M r2) 1)) 2 ((M r2) 2)) 3 ((M r2) 3)) 4 ((M r2) 4)) 5 ((M r2) 5)) 6 ((M r2) 6)) 7 ((M r2) 7)) 8 ((M r2) 8)) 9 ((M r2) 9)) 10 ((M r2) 10)) 11 ((M r2) 11)) k)) (cwV 1 hts gX2_copyFrom_X3_copyFrom rfl rfl rfl (by decide +kernel) ⟨Nat.le_of_ble_eq_true rfl, Nat.le_of_ble_eq_true rfl⟩) hK hZ hG hS (hV.seg (i := k) (by omega)) (gC_S hV.1 (by omega)) (by decide) rfl rfl hl.1 (Nat.le_of_ble_eq_true rfl) dX2_copyFrom_116 ⟨Nat.zero_le _, Nat.zero_le _⟩ rfl rfl (fun H locs hG hS => ?_)
    refine lv_iinc (v := nI (k + 1)) (lv' := [(2, .int (nI (k + 1))), (0, .ref (gad Γ (25 * r))), (1, .ref (gad Γ (25 * r2)))]) hx hb dX2_copyFrom_119 hl (k := 2) rfl (nI_1 _) (by decide) rfl (fun ls hl => ?_)
    refine lv_goto (tgt := 98) hx hb dX2_copyFrom_122 (by decide) ?_
    exact ih_k _ _ _ ⟨hG, hS, lv_sub hl [1, 2, 0] rfl⟩

