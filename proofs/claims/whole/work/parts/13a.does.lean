/-! THE REFERENCE: a command. Laid by gen/p13.py. -/
def fX7_doh_S  (Pk : Nat → Int32) (k : Nat) : Nat → Int32 := fX7_hourOn_P Pk
def fX7_doh_L  (P : Nat → Int32) : Nat → Nat → Int32
  | 0 => P
  | k + 1 => fX7_doh_S  (fX7_doh_L  P k) k
theorem fX7_doh_WS {P : Nat → Int32} (hW : WS P) : ∀ k, WS (fX7_doh_L P k)
  | 0 => hW
  | k + 1 => by
    have h := fX7_doh_WS hW k
    show WS (fX7_doh_S (fX7_doh_L P k) k)
    unfold fX7_doh_S
    exact fX7_hourOn_kw h
def fX7_does_v (A T D N V I K B : Nat → Int32) (h a d : Int32) : Int32 := if h = 1 then if a = 0 then if (fX7_in_v d.toInt64 1 50) = 0 then 0 else 1 else 0 else if h = 2 then if (fX7_isWagon_v V a) = 0 then 0 else if (fX7_isSegment_v V d) = 0 then 0 else if 10 ≤ d then 0 else if (fX7_driveOn_v V a.toNatClampNeg d) = 0 then 0 else 1 else if h = 3 then if (fX7_isWagon_v V a) = 0 then 0 else if (fX7_in_v d.toInt64 1 9) = 0 then 0 else if (fX7_sprayOn_v V a.toNatClampNeg d) = 0 then 0 else 1 else if h = 4 then if (fX7_isWagon_v V a) = 0 then 0 else if d = 0 then if (fX7_why_v V a.toNatClampNeg) = 0 then if (fX7_fillOn_v V a.toNatClampNeg) ≤ 0 then 0 else 1 else 0 else 0 else if h = 5 then if (fX7_isSegment_v V a) = 0 then 0 else if (fX7_in_v d.toInt64 1 ((5 - (V ((12 + 7 * a.toNatClampNeg) + 2))).toInt64)) = 0 then 0 else 1 else if h = 6 then if (fX7_isSegment_v V a) = 0 then 0 else if d ≤ 2 then 1 else 0 else if h = 7 then if a = 0 then if (fX7_isSetting_v 5 d) = 0 then 0 else 1 else 0 else if h = 8 then if (fX7_isHouse_v V a) = 0 then 0 else if d < (V ((82 + 5 * a.toNatClampNeg) + 3)) then 0 else 1 else if h = 9 then if (fX7_isSegment_v V a) = 0 then 0 else if (10 * d) < (fX7_dustOf_v V a) then 0 else 1 else 0
def fX7_does_V (A T D N V I K B : Nat → Int32) (h a d : Int32) : Nat → Int32 := if h = 1 then if a = 0 then if (fX7_in_v d.toInt64 1 50) = 0 then V else fX7_doh_L  V d.toNatClampNeg else V else if h = 2 then if (fX7_isWagon_v V a) = 0 then V else if (fX7_isSegment_v V d) = 0 then V else if 10 ≤ d then V else if (fX7_driveOn_v V a.toNatClampNeg d) = 0 then fX7_driveOn_P V a.toNatClampNeg d else fX7_driveOn_P V a.toNatClampNeg d else if h = 3 then if (fX7_isWagon_v V a) = 0 then V else if (fX7_in_v d.toInt64 1 9) = 0 then V else if (fX7_sprayOn_v V a.toNatClampNeg d) = 0 then fX7_sprayOn_P V a.toNatClampNeg d else fX7_sprayOn_P V a.toNatClampNeg d else if h = 4 then if (fX7_isWagon_v V a) = 0 then V else if d = 0 then if (fX7_why_v V a.toNatClampNeg) = 0 then if (fX7_fillOn_v V a.toNatClampNeg) ≤ 0 then fX7_fillOn_P V a.toNatClampNeg else fX7_fillOn_P V a.toNatClampNeg else V else V else if h = 5 then if (fX7_isSegment_v V a) = 0 then V else if (fX7_in_v d.toInt64 1 ((5 - (V ((12 + 7 * a.toNatClampNeg) + 2))).toInt64)) = 0 then V else upd V ((12 + 7 * a.toNatClampNeg) + 1) d else if h = 6 then if (fX7_isSegment_v V a) = 0 then V else if d ≤ 2 then upd V (12 + 7 * a.toNatClampNeg) d else V else if h = 7 then if a = 0 then if (fX7_isSetting_v 5 d) = 0 then V else upd V 5 d else V else if h = 8 then if (fX7_isHouse_v V a) = 0 then V else if d < (V ((82 + 5 * a.toNatClampNeg) + 3)) then V else V else if h = 9 then if (fX7_isSegment_v V a) = 0 then V else if (10 * d) < (fX7_dustOf_v V a) then V else V else V
set_option maxHeartbeats 4000000 in
set_option maxRecDepth 100000 in
theorem mX7_does {l : Launch} {Γ : gX} (M : Nat → Nat → Int32) (R : Nat → Nat → Option Nat) (O : Int64) (hL : LM Γ R) (A T D N V I K B : Nat → Int32) (h a d : Int32) (hV : WS V) : gMet l Γ yX7_does wsX7_does 5 111 [.ref (gad Γ 483), .int h, .int a, .int d] (mS M A T D N V I K B) R O (some (.int (fX7_does_v A T D N V I K B h a d))) (mS M A T D N (fX7_does_V A T D N V I K B h a d) I K B) R O := by
  refine g_start (cc := cX7_does) (maxL := 7) (ret := (some .boolean)) (by decide) rfl (Nat.le_of_ble_eq_true rfl) ?_
  intro p e s m below meth c ls hx hb hml hrt hts hown hlocks hname hK hZ hG hS hl
  have hl : lv_has ls 7 [(0, .ref (gad Γ 483)), (1, .int h), (2, .int a), (3, .int d)] := hl
  have hown : s.vm.findClass RX7 = some m.cls := hown
  have hF : CallFix p m c cX7_does 7 s _ wsX7_does RX7 := ⟨hx, hb, hml, hown, hts⟩
  have k_1 : (Cond.fieldLink RX7 19 "RoadDustModel" "trial" "[I").before _ s = true := hts _ (by decide +kernel)
  have in_X7 : ∀ w ∈ wsX70, w ∈ wsX7_does := by decide +kernel
  have k_3 : (Cond.constantLong RX7 188 (50)).before _ s = true := hts _ (by decide +kernel)
  have k_4 : (Cond.constantLong RX7 102 (9)).before _ s = true := hts _ (by decide +kernel)
  have v0 := hV.1.2
  have v1 := hV.2.1.2
  have v2 := hV.2.2.1.2
  refine lv_aload_n hx hb dX7_does_0 rfl (lv_at hl 0 rfl) ?_
  refine gM_getr hx hb hts in_X7 hown hK hL hG 6 (by decide) rfl hL.2.2.2.2.1 k_1 (fun _ h => h) dX7_does_1 ?_
  refine lv_iload_n hx hb dX7_does_4 rfl (lv_at hl 2 rfl) ?_
  refine g_callS (As := [.ref (gad Γ 487), .int a]) (rest := []) (st1 := [.int (fX7_isSegment_v V a)]) hF (mX7_isSegment (mS M A T D N V I K B) R O (hL.1 487 (by decide) (by decide)) (show gC 487 = (9, 28, 0) from rfl) (show gLen 487 = 131 from rfl) V a) (va_cwS 2 hts gX7_does_X7_isSegment rfl rfl rfl (by decide +kernel) ⟨Nat.le_of_ble_eq_true rfl, Nat.le_of_ble_eq_true rfl⟩) hK hZ (g_st (show _ = va_up (mS M A T D N V I K B) 28 V from (mS_u28 _ _ _ _ _ _ _ _ _ _).symm) hG) hS rfl hl.1 (Nat.le_of_ble_eq_true rfl) dX7_does_5 ⟨Nat.zero_le _, Nat.zero_le _⟩ rfl rfl (fun H locs hG hS => ?_)
  replace hG : GH Γ (mS M A T D N V I K B) R O H := g_st (mS_u28 _ _ _ _ _ _ _ _ _ _) hG
  refine lv_istore (lv' := [(4, .int (fX7_isSegment_v V a)), (0, .ref (gad Γ 483)), (1, .int h), (2, .int a), (3, .int d)]) hx hb dX7_does_8 hl (by decide) rfl (fun ls hl => ?_)
  refine lv_aload_n hx hb dX7_does_10 rfl (lv_at hl 1 rfl) ?_
  refine gM_getr hx hb hts in_X7 hown hK hL hG 6 (by decide) rfl hL.2.2.2.2.1 k_1 (fun _ h => h) dX7_does_11 ?_
  refine lv_iload_n hx hb dX7_does_14 rfl (lv_at hl 3 rfl) ?_
  refine g_callS (As := [.ref (gad Γ 487), .int a]) (rest := []) (st1 := [.int (fX7_isWagon_v V a)]) hF (mX7_isWagon (mS M A T D N V I K B) R O (hL.1 487 (by decide) (by decide)) (show gC 487 = (9, 28, 0) from rfl) (show gLen 487 = 131 from rfl) V a) (va_cwS 2 hts gX7_does_X7_isWagon rfl rfl rfl (by decide +kernel) ⟨Nat.le_of_ble_eq_true rfl, Nat.le_of_ble_eq_true rfl⟩) hK hZ (g_st (show _ = va_up (mS M A T D N V I K B) 28 V from (mS_u28 _ _ _ _ _ _ _ _ _ _).symm) hG) hS rfl hl.1 (Nat.le_of_ble_eq_true rfl) dX7_does_15 ⟨Nat.zero_le _, Nat.zero_le _⟩ rfl rfl (fun H locs hG hS => ?_)
  replace hG : GH Γ (mS M A T D N V I K B) R O H := g_st (mS_u28 _ _ _ _ _ _ _ _ _ _) hG
  refine lv_istore (lv' := [(5, .int (fX7_isWagon_v V a)), (4, .int (fX7_isSegment_v V a)), (0, .ref (gad Γ 483)), (1, .int h), (2, .int a), (3, .int d)]) hx hb dX7_does_18 hl (by decide) rfl (fun ls hl => ?_)
  refine lv_iload_n hx hb dX7_does_20 rfl (lv_at hl 3 rfl) ?_
  by_cases c_1 : h = 1
  · --1
    refine lv_tableIn (tgt := 72) hx hb dX7_does_21 (by rw [c_1]; decide) (by rw [c_1]; decide) (by rw [c_1]; rfl) (by decide) ?_
    refine lv_iload_n hx hb dX7_does_72 rfl (lv_at hl 4 rfl) ?_
    refine lv_if_ne (tgt := 88) hx hb dX7_does_73 (by decide) (fun c_2 => ?_) (fun c_2 => ?_)
    · --T
      refine lv_iconst (v := 0) hx hb dX7_does_88 (by decide) ?_
      exact g_zret hx hb hrt hlocks hS hG (by decide) (by unfold fX7_does_v; rw [if_pos c_1, if_neg c_2]) (mS_c rfl rfl rfl rfl (by unfold fX7_does_V; rw [if_pos c_1, if_neg c_2]) rfl rfl rfl) dX7_does_89
    · --F
      refine lv_iload_n hx hb dX7_does_76 rfl (lv_at hl 5 rfl) ?_
      refine lv_i2l hx hb dX7_does_77 rfl ?_
      refine lv_lconst (v := 1) hx hb dX7_does_78 (by decide) ?_
      refine lv_ldc2 hx hb hown k_3 dX7_does_79 ?_
      refine g_callS (As := [.long d.toInt64, .long 1, .long 50]) (rest := []) (st1 := [.int (fX7_in_v d.toInt64 1 50)]) hF (mX7_in _ R O d.toInt64 1 50) (va_cwS 3 hts gX7_does_X7_in rfl rfl rfl (by decide +kernel) ⟨Nat.le_of_ble_eq_true rfl, Nat.le_of_ble_eq_true rfl⟩) hK hZ hG hS rfl hl.1 (Nat.le_of_ble_eq_true rfl) dX7_does_82 ⟨Nat.zero_le _, Nat.zero_le _⟩ rfl rfl (fun H locs hG hS => ?_)
      refine lv_if_ne (tgt := 90) hx hb dX7_does_85 (by decide) (fun c_3 => ?_) (fun c_3 => ?_)
      · --T
        refine lv_iconst (v := 0) hx hb dX7_does_90 (by decide) ?_
        refine lv_istore (lv' := [(6, .int 0), (5, .int (fX7_isWagon_v V a)), (4, .int (fX7_isSegment_v V a)), (0, .ref (gad Γ 483)), (1, .int h), (2, .int a), (3, .int d)]) hx hb dX7_does_91 hl (by decide) rfl (fun ls hl => ?_)
        refine g_loop (N := d.toNatClampNeg) (fun k H locs ls => GH Γ (mS M A T D N (fX7_doh_L  V k) I K B) R O H ∧ va_S (gA Γ) s.heap H locs ∧ lv_has ls 7 [(0, .ref (gad Γ 483)), (3, .int d), (6, .int (nI k))]) ?_ ?_ 0 (Nat.zero_le _) _ _ _ ⟨hG, hS, lv_sub hl [3, 6, 0] rfl⟩
        · rintro H locs ls ⟨hG, hS, hl⟩
          refine lv_iload hx hb dX7_does_93 (lv_at hl 2 rfl) ?_
          refine lv_iload_n hx hb dX7_does_95 rfl (lv_at hl 1 rfl) ?_
          refine lv_icmp_ge (tgt := 112) hx hb dX7_does_96 (by decide) (fun c_4 => ?_) (fun c_4 => absurd (cl_le _) c_4)
          refine lv_iconst (v := 1) hx hb dX7_does_112 (by decide) ?_
          exact g_zret hx hb hrt hlocks hS hG (by decide) (by unfold fX7_does_v; rw [if_pos c_1, if_pos c_2, if_neg c_3]) (mS_c rfl rfl rfl rfl (by unfold fX7_does_V; rw [if_pos c_1, if_pos c_2, if_neg c_3]) rfl rfl rfl) dX7_does_113
        · rintro k hk_k ih_k H locs ls ⟨hG, hS, hl⟩
          refine lv_iload hx hb dX7_does_93 (lv_at hl 2 rfl) ?_
          refine lv_iload_n hx hb dX7_does_95 rfl (lv_at hl 1 rfl) ?_
          refine lv_icmp_ge (tgt := 112) hx hb dX7_does_96 (by decide) (fun c_5 => absurd c_5 (cl_ge hk_k)) (fun c_5 => ?_)
          refine lv_aload_n hx hb dX7_does_99 rfl (lv_at hl 0 rfl) ?_
          refine gM_getr hx hb hts in_X7 hown hK hL hG 6 (by decide) rfl hL.2.2.2.2.1 k_1 (fun _ h => h) dX7_does_100 ?_
          refine g_callS (As := [.ref (gad Γ 487)]) (rest := []) (st1 := []) hF (mX7_hourOn (mS M A T D N (fX7_doh_L  V k) I K B) R O (hL.1 487 (by decide) (by decide)) (show gC 487 = (9, 28, 0) from rfl) (show gLen 487 = 131 from rfl) (fX7_doh_L  V k) (fX7_doh_WS hV k)) (va_cwS 1 hts gX7_does_X7_hourOn rfl rfl rfl (by decide +kernel) ⟨Nat.le_of_ble_eq_true rfl, Nat.le_of_ble_eq_true rfl⟩) hK hZ (g_st (show _ = va_up (mS M A T D N (fX7_doh_L  V k) I K B) 28 (fX7_doh_L  V k) from (mS_u28 _ _ _ _ _ _ _ _ _ _).symm) hG) hS rfl hl.1 (Nat.le_of_ble_eq_true rfl) dX7_does_103 ⟨Nat.zero_le _, Nat.zero_le _⟩ rfl rfl (fun H locs hG hS => ?_)
          replace hG : GH Γ (mS M A T D N (fX7_hourOn_P (fX7_doh_L  V k)) I K B) R O H := g_st (mS_u28 _ _ _ _ _ _ _ _ _ _) hG
          refine lv_iinc (v := nI (k + 1)) (lv' := [(6, .int (nI (k + 1))), (0, .ref (gad Γ 483)), (3, .int d)]) hx hb dX7_does_106 hl (k := 2) rfl (nI_1 _) (by decide) rfl (fun ls hl => ?_)
          refine lv_goto (tgt := 93) hx hb dX7_does_109 (by decide) ?_
          exact ih_k _ _ _ ⟨hG, hS, lv_sub hl [1, 2, 0] rfl⟩
      · --F
        refine lv_iconst (v := 0) hx hb dX7_does_88 (by decide) ?_
        exact g_zret hx hb hrt hlocks hS hG (by decide) (by unfold fX7_does_v; rw [if_pos c_1, if_pos c_2, if_pos c_3]) (mS_c rfl rfl rfl rfl (by unfold fX7_does_V; rw [if_pos c_1, if_pos c_2, if_pos c_3]) rfl rfl rfl) dX7_does_89
  · --not 1
    by_cases c_6 : h = 2
    · --2
      refine lv_tableIn (tgt := 114) hx hb dX7_does_21 (by rw [c_6]; decide) (by rw [c_6]; decide) (by rw [c_6]; rfl) (by decide) ?_
      refine lv_iload hx hb dX7_does_114 (lv_at hl 0 rfl) ?_
      refine lv_if_eq (tgt := 152) hx hb dX7_does_116 (by decide) (fun c_7 => ?_) (fun c_7 => ?_)
      · --T
        refine lv_iconst (v := 0) hx hb dX7_does_152 (by decide) ?_
        exact g_zret hx hb hrt hlocks hS hG (by decide) (by unfold fX7_does_v; rw [if_neg c_1, if_pos c_6, if_pos c_7]) (mS_c rfl rfl rfl rfl (by unfold fX7_does_V; rw [if_neg c_1, if_pos c_6, if_pos c_7]) rfl rfl rfl) dX7_does_153
      · --F
        refine lv_aload_n hx hb dX7_does_119 rfl (lv_at hl 2 rfl) ?_
        refine gM_getr hx hb hts in_X7 hown hK hL hG 6 (by decide) rfl hL.2.2.2.2.1 k_1 (fun _ h => h) dX7_does_120 ?_
        refine lv_iload_n hx hb dX7_does_123 rfl (lv_at hl 5 rfl) ?_
        refine g_callS (As := [.ref (gad Γ 487), .int d]) (rest := []) (st1 := [.int (fX7_isSegment_v V d)]) hF (mX7_isSegment (mS M A T D N V I K B) R O (hL.1 487 (by decide) (by decide)) (show gC 487 = (9, 28, 0) from rfl) (show gLen 487 = 131 from rfl) V d) (va_cwS 2 hts gX7_does_X7_isSegment rfl rfl rfl (by decide +kernel) ⟨Nat.le_of_ble_eq_true rfl, Nat.le_of_ble_eq_true rfl⟩) hK hZ (g_st (show _ = va_up (mS M A T D N V I K B) 28 V from (mS_u28 _ _ _ _ _ _ _ _ _ _).symm) hG) hS rfl hl.1 (Nat.le_of_ble_eq_true rfl) dX7_does_124 ⟨Nat.zero_le _, Nat.zero_le _⟩ rfl rfl (fun H locs hG hS => ?_)
        replace hG : GH Γ (mS M A T D N V I K B) R O H := g_st (mS_u28 _ _ _ _ _ _ _ _ _ _) hG
        refine lv_if_eq (tgt := 152) hx hb dX7_does_127 (by decide) (fun c_8 => ?_) (fun c_8 => ?_)
        · --T
          refine lv_iconst (v := 0) hx hb dX7_does_152 (by decide) ?_
          exact g_zret hx hb hrt hlocks hS hG (by decide) (by unfold fX7_does_v; rw [if_neg c_1, if_pos c_6, if_neg c_7, if_pos c_8]) (mS_c rfl rfl rfl rfl (by unfold fX7_does_V; rw [if_neg c_1, if_pos c_6, if_neg c_7, if_pos c_8]) rfl rfl rfl) dX7_does_153
        · --F
          refine lv_iload_n hx hb dX7_does_130 rfl (lv_at hl 5 rfl) ?_
          refine lv_bipush (v := 10) hx hb dX7_does_131 (by decide) ?_
          refine lv_icmp_ge (tgt := 152) hx hb dX7_does_133 (by decide) (fun c_9 => ?_) (fun c_9 => ?_)
          · --T
            refine lv_iconst (v := 0) hx hb dX7_does_152 (by decide) ?_
            exact g_zret hx hb hrt hlocks hS hG (by decide) (by unfold fX7_does_v; rw [if_neg c_1, if_pos c_6, if_neg c_7, if_neg c_8, if_pos c_9]) (mS_c rfl rfl rfl rfl (by unfold fX7_does_V; rw [if_neg c_1, if_pos c_6, if_neg c_7, if_neg c_8, if_pos c_9]) rfl rfl rfl) dX7_does_153
          · --F
            have q_1 := (isPl hV.2.2.1.1 (by omega) c_7).2
            refine lv_aload_n hx hb dX7_does_136 rfl (lv_at hl 2 rfl) ?_
            refine gM_getr hx hb hts in_X7 hown hK hL hG 6 (by decide) rfl hL.2.2.2.2.1 k_1 (fun _ h => h) dX7_does_137 ?_
            refine lv_iload_n hx hb dX7_does_140 rfl (lv_at hl 4 rfl) ?_
            refine lv_iload_n hx hb dX7_does_141 rfl (lv_at hl 5 rfl) ?_
            refine g_callS (As := [.ref (gad Γ 487), .int a, .int d]) (rest := []) (st1 := [.int (fX7_driveOn_v V a.toNatClampNeg d)]) hF (mX7_driveOn (mS M A T D N V I K B) R O (hL.1 487 (by decide) (by decide)) (show gC 487 = (9, 28, 0) from rfl) (show gLen 487 = 131 from rfl) V a.toNatClampNeg ((isPl hV.2.2.1.1 (by omega) c_7).1) (by omega) d hV) (va_cwS 3 hts gX7_does_X7_driveOn rfl rfl rfl (by decide +kernel) ⟨Nat.le_of_ble_eq_true rfl, Nat.le_of_ble_eq_true rfl⟩) hK hZ (g_st (show _ = va_up (mS M A T D N V I K B) 28 V from (mS_u28 _ _ _ _ _ _ _ _ _ _).symm) hG) hS rfl hl.1 (Nat.le_of_ble_eq_true rfl) dX7_does_142 ⟨Nat.zero_le _, Nat.zero_le _⟩ rfl rfl (fun H locs hG hS => ?_)
            replace hG : GH Γ (mS M A T D N (fX7_driveOn_P V a.toNatClampNeg d) I K B) R O H := g_st (mS_u28 _ _ _ _ _ _ _ _ _ _) hG
            refine lv_if_eq (tgt := 152) hx hb dX7_does_145 (by decide) (fun c_10 => ?_) (fun c_10 => ?_)
            · --T
              refine lv_iconst (v := 0) hx hb dX7_does_152 (by decide) ?_
              exact g_zret hx hb hrt hlocks hS hG (by decide) (by unfold fX7_does_v; rw [if_neg c_1, if_pos c_6, if_neg c_7, if_neg c_8, if_neg c_9, if_pos c_10]) (mS_c rfl rfl rfl rfl (by unfold fX7_does_V; rw [if_neg c_1, if_pos c_6, if_neg c_7, if_neg c_8, if_neg c_9, if_pos c_10]) rfl rfl rfl) dX7_does_153
            · --F
              refine lv_iconst (v := 1) hx hb dX7_does_148 (by decide) ?_
              refine lv_goto (tgt := 153) hx hb dX7_does_149 (by decide) ?_
              exact g_zret hx hb hrt hlocks hS hG (by decide) (by unfold fX7_does_v; rw [if_neg c_1, if_pos c_6, if_neg c_7, if_neg c_8, if_neg c_9, if_neg c_10]) (mS_c rfl rfl rfl rfl (by unfold fX7_does_V; rw [if_neg c_1, if_pos c_6, if_neg c_7, if_neg c_8, if_neg c_9, if_neg c_10]) rfl rfl rfl) dX7_does_153
    · --not 2
      by_cases c_11 : h = 3
      · --3
        refine lv_tableIn (tgt := 154) hx hb dX7_does_21 (by rw [c_11]; decide) (by rw [c_11]; decide) (by rw [c_11]; rfl) (by decide) ?_
        refine lv_iload hx hb dX7_does_154 (lv_at hl 0 rfl) ?_
        refine lv_if_eq (tgt := 187) hx hb dX7_does_156 (by decide) (fun c_12 => ?_) (fun c_12 => ?_)
        · --T
          refine lv_iconst (v := 0) hx hb dX7_does_187 (by decide) ?_
          exact g_zret hx hb hrt hlocks hS hG (by decide) (by unfold fX7_does_v; rw [if_neg c_1, if_neg c_6, if_pos c_11, if_pos c_12]) (mS_c rfl rfl rfl rfl (by unfold fX7_does_V; rw [if_neg c_1, if_neg c_6, if_pos c_11, if_pos c_12]) rfl rfl rfl) dX7_does_188
        · --F
          refine lv_iload_n hx hb dX7_does_159 rfl (lv_at hl 5 rfl) ?_
          refine lv_i2l hx hb dX7_does_160 rfl ?_
          refine lv_lconst (v := 1) hx hb dX7_does_161 (by decide) ?_
          refine lv_ldc2 hx hb hown k_4 dX7_does_162 ?_
          refine g_callS (As := [.long d.toInt64, .long 1, .long 9]) (rest := []) (st1 := [.int (fX7_in_v d.toInt64 1 9)]) hF (mX7_in _ R O d.toInt64 1 9) (va_cwS 3 hts gX7_does_X7_in rfl rfl rfl (by decide +kernel) ⟨Nat.le_of_ble_eq_true rfl, Nat.le_of_ble_eq_true rfl⟩) hK hZ hG hS rfl hl.1 (Nat.le_of_ble_eq_true rfl) dX7_does_165 ⟨Nat.zero_le _, Nat.zero_le _⟩ rfl rfl (fun H locs hG hS => ?_)
          refine lv_if_eq (tgt := 187) hx hb dX7_does_168 (by decide) (fun c_13 => ?_) (fun c_13 => ?_)
          · --T
            refine lv_iconst (v := 0) hx hb dX7_does_187 (by decide) ?_
            exact g_zret hx hb hrt hlocks hS hG (by decide) (by unfold fX7_does_v; rw [if_neg c_1, if_neg c_6, if_pos c_11, if_neg c_12, if_pos c_13]) (mS_c rfl rfl rfl rfl (by unfold fX7_does_V; rw [if_neg c_1, if_neg c_6, if_pos c_11, if_neg c_12, if_pos c_13]) rfl rfl rfl) dX7_does_188
          · --F
            have q_1 := (isPl hV.2.2.1.1 (by omega) c_12).2
            refine lv_aload_n hx hb dX7_does_171 rfl (lv_at hl 2 rfl) ?_
            refine gM_getr hx hb hts in_X7 hown hK hL hG 6 (by decide) rfl hL.2.2.2.2.1 k_1 (fun _ h => h) dX7_does_172 ?_
            refine lv_iload_n hx hb dX7_does_175 rfl (lv_at hl 4 rfl) ?_
            refine lv_iload_n hx hb dX7_does_176 rfl (lv_at hl 5 rfl) ?_
            refine g_callS (As := [.ref (gad Γ 487), .int a, .int d]) (rest := []) (st1 := [.int (fX7_sprayOn_v V a.toNatClampNeg d)]) hF (mX7_sprayOn (mS M A T D N V I K B) R O (hL.1 487 (by decide) (by decide)) (show gC 487 = (9, 28, 0) from rfl) (show gLen 487 = 131 from rfl) V a.toNatClampNeg ((isPl hV.2.2.1.1 (by omega) c_12).1) (by omega) d hV) (va_cwS 3 hts gX7_does_X7_sprayOn rfl rfl rfl (by decide +kernel) ⟨Nat.le_of_ble_eq_true rfl, Nat.le_of_ble_eq_true rfl⟩) hK hZ (g_st (show _ = va_up (mS M A T D N V I K B) 28 V from (mS_u28 _ _ _ _ _ _ _ _ _ _).symm) hG) hS rfl hl.1 (Nat.le_of_ble_eq_true rfl) dX7_does_177 ⟨Nat.zero_le _, Nat.zero_le _⟩ rfl rfl (fun H locs hG hS => ?_)
            replace hG : GH Γ (mS M A T D N (fX7_sprayOn_P V a.toNatClampNeg d) I K B) R O H := g_st (mS_u28 _ _ _ _ _ _ _ _ _ _) hG
            refine lv_if_eq (tgt := 187) hx hb dX7_does_180 (by decide) (fun c_14 => ?_) (fun c_14 => ?_)
            · --T
              refine lv_iconst (v := 0) hx hb dX7_does_187 (by decide) ?_
              exact g_zret hx hb hrt hlocks hS hG (by decide) (by unfold fX7_does_v; rw [if_neg c_1, if_neg c_6, if_pos c_11, if_neg c_12, if_neg c_13, if_pos c_14]) (mS_c rfl rfl rfl rfl (by unfold fX7_does_V; rw [if_neg c_1, if_neg c_6, if_pos c_11, if_neg c_12, if_neg c_13, if_pos c_14]) rfl rfl rfl) dX7_does_188
            · --F
              refine lv_iconst (v := 1) hx hb dX7_does_183 (by decide) ?_
              refine lv_goto (tgt := 188) hx hb dX7_does_184 (by decide) ?_
              exact g_zret hx hb hrt hlocks hS hG (by decide) (by unfold fX7_does_v; rw [if_neg c_1, if_neg c_6, if_pos c_11, if_neg c_12, if_neg c_13, if_neg c_14]) (mS_c rfl rfl rfl rfl (by unfold fX7_does_V; rw [if_neg c_1, if_neg c_6, if_pos c_11, if_neg c_12, if_neg c_13, if_neg c_14]) rfl rfl rfl) dX7_does_188
      · --not 3
        by_cases c_15 : h = 4
        · --4
          refine lv_tableIn (tgt := 189) hx hb dX7_does_21 (by rw [c_15]; decide) (by rw [c_15]; decide) (by rw [c_15]; rfl) (by decide) ?_
          refine lv_iload hx hb dX7_does_189 (lv_at hl 0 rfl) ?_
          refine lv_if_eq (tgt := 224) hx hb dX7_does_191 (by decide) (fun c_16 => ?_) (fun c_16 => ?_)
          · --T
            refine lv_iconst (v := 0) hx hb dX7_does_224 (by decide) ?_
            exact g_zret hx hb hrt hlocks hS hG (by decide) (by unfold fX7_does_v; rw [if_neg c_1, if_neg c_6, if_neg c_11, if_pos c_15, if_pos c_16]) (mS_c rfl rfl rfl rfl (by unfold fX7_does_V; rw [if_neg c_1, if_neg c_6, if_neg c_11, if_pos c_15, if_pos c_16]) rfl rfl rfl) dX7_does_225
          · --F
            refine lv_iload_n hx hb dX7_does_194 rfl (lv_at hl 5 rfl) ?_
            refine lv_if_ne (tgt := 224) hx hb dX7_does_195 (by decide) (fun c_17 => ?_) (fun c_17 => ?_)
            · --T
              refine lv_iconst (v := 0) hx hb dX7_does_224 (by decide) ?_
              exact g_zret hx hb hrt hlocks hS hG (by decide) (by unfold fX7_does_v; rw [if_neg c_1, if_neg c_6, if_neg c_11, if_pos c_15, if_neg c_16, if_neg c_17]) (mS_c rfl rfl rfl rfl (by unfold fX7_does_V; rw [if_neg c_1, if_neg c_6, if_neg c_11, if_pos c_15, if_neg c_16, if_neg c_17]) rfl rfl rfl) dX7_does_225
            · --F
              have q_1 := (isPl hV.2.2.1.1 (by omega) c_16).2
              refine lv_aload_n hx hb dX7_does_198 rfl (lv_at hl 2 rfl) ?_
              refine gM_getr hx hb hts in_X7 hown hK hL hG 6 (by decide) rfl hL.2.2.2.2.1 k_1 (fun _ h => h) dX7_does_199 ?_
              refine lv_iload_n hx hb dX7_does_202 rfl (lv_at hl 4 rfl) ?_
              refine g_callS (As := [.ref (gad Γ 487), .int a]) (rest := []) (st1 := [.int (fX7_why_v V a.toNatClampNeg)]) hF (mX7_why (mS M A T D N V I K B) R O (hL.1 487 (by decide) (by decide)) (show gC 487 = (9, 28, 0) from rfl) (show gLen 487 = 131 from rfl) V a.toNatClampNeg ((isPl hV.2.2.1.1 (by omega) c_16).1) (by omega) hV) (va_cwS 2 hts gX7_does_X7_why rfl rfl rfl (by decide +kernel) ⟨Nat.le_of_ble_eq_true rfl, Nat.le_of_ble_eq_true rfl⟩) hK hZ (g_st (show _ = va_up (mS M A T D N V I K B) 28 V from (mS_u28 _ _ _ _ _ _ _ _ _ _).symm) hG) hS rfl hl.1 (Nat.le_of_ble_eq_true rfl) dX7_does_203 ⟨Nat.zero_le _, Nat.zero_le _⟩ rfl rfl (fun H locs hG hS => ?_)
              replace hG : GH Γ (mS M A T D N V I K B) R O H := g_st (mS_u28 _ _ _ _ _ _ _ _ _ _) hG
              refine lv_if_ne (tgt := 224) hx hb dX7_does_206 (by decide) (fun c_18 => ?_) (fun c_18 => ?_)
              · --T
                refine lv_iconst (v := 0) hx hb dX7_does_224 (by decide) ?_
                exact g_zret hx hb hrt hlocks hS hG (by decide) (by unfold fX7_does_v; rw [if_neg c_1, if_neg c_6, if_neg c_11, if_pos c_15, if_neg c_16, if_pos c_17, if_neg c_18]) (mS_c rfl rfl rfl rfl (by unfold fX7_does_V; rw [if_neg c_1, if_neg c_6, if_neg c_11, if_pos c_15, if_neg c_16, if_pos c_17, if_neg c_18]) rfl rfl rfl) dX7_does_225
              · --F
                refine lv_aload_n hx hb dX7_does_209 rfl (lv_at hl 2 rfl) ?_
                refine gM_getr hx hb hts in_X7 hown hK hL hG 6 (by decide) rfl hL.2.2.2.2.1 k_1 (fun _ h => h) dX7_does_210 ?_
                refine lv_iload_n hx hb dX7_does_213 rfl (lv_at hl 4 rfl) ?_
                refine g_callS (As := [.ref (gad Γ 487), .int a]) (rest := []) (st1 := [.int (fX7_fillOn_v V a.toNatClampNeg)]) hF (mX7_fillOn (mS M A T D N V I K B) R O (hL.1 487 (by decide) (by decide)) (show gC 487 = (9, 28, 0) from rfl) (show gLen 487 = 131 from rfl) V a.toNatClampNeg ((isPl hV.2.2.1.1 (by omega) c_16).1) (by omega) hV) (va_cwS 2 hts gX7_does_X7_fillOn rfl rfl rfl (by decide +kernel) ⟨Nat.le_of_ble_eq_true rfl, Nat.le_of_ble_eq_true rfl⟩) hK hZ (g_st (show _ = va_up (mS M A T D N V I K B) 28 V from (mS_u28 _ _ _ _ _ _ _ _ _ _).symm) hG) hS rfl hl.1 (Nat.le_of_ble_eq_true rfl) dX7_does_214 ⟨Nat.zero_le _, Nat.zero_le _⟩ rfl rfl (fun H locs hG hS => ?_)
                replace hG : GH Γ (mS M A T D N (fX7_fillOn_P V a.toNatClampNeg) I K B) R O H := g_st (mS_u28 _ _ _ _ _ _ _ _ _ _) hG
                refine lv_if_le (tgt := 224) hx hb dX7_does_217 (by decide) (fun c_19 => ?_) (fun c_19 => ?_)
                · --T
                  refine lv_iconst (v := 0) hx hb dX7_does_224 (by decide) ?_
                  exact g_zret hx hb hrt hlocks hS hG (by decide) (by unfold fX7_does_v; rw [if_neg c_1, if_neg c_6, if_neg c_11, if_pos c_15, if_neg c_16, if_pos c_17, if_pos c_18, if_pos c_19]) (mS_c rfl rfl rfl rfl (by unfold fX7_does_V; rw [if_neg c_1, if_neg c_6, if_neg c_11, if_pos c_15, if_neg c_16, if_pos c_17, if_pos c_18, if_pos c_19]) rfl rfl rfl) dX7_does_225
                · --F
                  refine lv_iconst (v := 1) hx hb dX7_does_220 (by decide) ?_
                  refine lv_goto (tgt := 225) hx hb dX7_does_221 (by decide) ?_
                  exact g_zret hx hb hrt hlocks hS hG (by decide) (by unfold fX7_does_v; rw [if_neg c_1, if_neg c_6, if_neg c_11, if_pos c_15, if_neg c_16, if_pos c_17, if_pos c_18, if_neg c_19]) (mS_c rfl rfl rfl rfl (by unfold fX7_does_V; rw [if_neg c_1, if_neg c_6, if_neg c_11, if_pos c_15, if_neg c_16, if_pos c_17, if_pos c_18, if_neg c_19]) rfl rfl rfl) dX7_does_225
        · --not 4
          by_cases c_20 : h = 5
          · --5
            refine lv_tableIn (tgt := 226) hx hb dX7_does_21 (by rw [c_20]; decide) (by rw [c_20]; decide) (by rw [c_20]; rfl) (by decide) ?_
            refine lv_iload hx hb dX7_does_226 (lv_at hl 1 rfl) ?_
            refine lv_if_eq (tgt := 254) hx hb dX7_does_228 (by decide) (fun c_21 => ?_) (fun c_21 => ?_)
            · --T
              refine lv_iconst (v := 0) hx hb dX7_does_254 (by decide) ?_
              exact g_zret hx hb hrt hlocks hS hG (by decide) (by unfold fX7_does_v; rw [if_neg c_1, if_neg c_6, if_neg c_11, if_neg c_15, if_pos c_20, if_pos c_21]) (mS_c rfl rfl rfl rfl (by unfold fX7_does_V; rw [if_neg c_1, if_neg c_6, if_neg c_11, if_neg c_15, if_pos c_20, if_pos c_21]) rfl rfl rfl) dX7_does_255
            · --F
              have q_1 := (isPl hV.1.1 (by omega) c_21).2
              refine lv_iload_n hx hb dX7_does_231 rfl (lv_at hl 5 rfl) ?_
              refine lv_i2l hx hb dX7_does_232 rfl ?_
              refine lv_lconst (v := 1) hx hb dX7_does_233 (by decide) ?_
              refine lv_iconst (v := 5) hx hb dX7_does_234 (by decide) ?_
              refine lv_aload_n hx hb dX7_does_235 rfl (lv_at hl 2 rfl) ?_
              refine gM_getr hx hb hts in_X7 hown hK hL hG 6 (by decide) rfl hL.2.2.2.2.1 k_1 (fun _ h => h) dX7_does_236 ?_
              refine lv_iload_n hx hb dX7_does_239 rfl (lv_at hl 4 rfl) ?_
              refine g_callS (As := [.int a]) (rest := [.ref (gad Γ 487), .int 5, .long 1, .long d.toInt64]) (st1 := [.int (nI (12 + 7 * a.toNatClampNeg)), .ref (gad Γ 487), .int 5, .long 1, .long d.toInt64]) hF (mX7_segmentAt _ R O a.toNatClampNeg ((isPl hV.1.1 (by omega) c_21).1)) (va_cwS 1 hts gX7_does_X7_segmentAt rfl rfl rfl (by decide +kernel) ⟨Nat.le_of_ble_eq_true rfl, Nat.le_of_ble_eq_true rfl⟩) hK hZ hG hS rfl hl.1 (Nat.le_of_ble_eq_true rfl) dX7_does_240 ⟨Nat.zero_le _, Nat.zero_le _⟩ rfl rfl (fun H locs hG hS => ?_)
              refine lv_iconst (v := 2) hx hb dX7_does_243 (by decide) ?_
              refine lv_iadd hx hb dX7_does_244 ?_
              refine g_top (show _ = nI ((12 + 7 * a.toNatClampNeg) + 2) from nI_add _ _) ?_
              refine gm_ald hx hb hK hG (hL.1 487 (by decide) (by decide)) (show gC 487 = (9, 28, 0) from rfl) (show gLen 487 = 131 from rfl) (by decide) (j := (12 + 7 * a.toNatClampNeg) + 2) rfl (by omega) (v := V ((12 + 7 * a.toNatClampNeg) + 2)) (mS_a28 _ _ _ _ _ _ _ _ _ _) dX7_does_245 ?_
              refine lv_isub hx hb dX7_does_246 ?_
              refine lv_i2l hx hb dX7_does_247 rfl ?_
              refine g_callS (As := [.long d.toInt64, .long 1, .long ((5 - (V ((12 + 7 * a.toNatClampNeg) + 2))).toInt64)]) (rest := []) (st1 := [.int (fX7_in_v d.toInt64 1 ((5 - (V ((12 + 7 * a.toNatClampNeg) + 2))).toInt64))]) hF (mX7_in _ R O d.toInt64 1 ((5 - (V ((12 + 7 * a.toNatClampNeg) + 2))).toInt64)) (va_cwS 3 hts gX7_does_X7_in rfl rfl rfl (by decide +kernel) ⟨Nat.le_of_ble_eq_true rfl, Nat.le_of_ble_eq_true rfl⟩) hK hZ hG hS rfl hl.1 (Nat.le_of_ble_eq_true rfl) dX7_does_248 ⟨Nat.zero_le _, Nat.zero_le _⟩ rfl rfl (fun H locs hG hS => ?_)
              refine lv_if_ne (tgt := 256) hx hb dX7_does_251 (by decide) (fun c_22 => ?_) (fun c_22 => ?_)
              · --T
                refine lv_aload_n hx hb dX7_does_256 rfl (lv_at hl 2 rfl) ?_
                refine gM_getr hx hb hts in_X7 hown hK hL hG 6 (by decide) rfl hL.2.2.2.2.1 k_1 (fun _ h => h) dX7_does_257 ?_
                refine lv_iload_n hx hb dX7_does_260 rfl (lv_at hl 4 rfl) ?_
                refine g_callS (As := [.int a]) (rest := [.ref (gad Γ 487)]) (st1 := [.int (nI (12 + 7 * a.toNatClampNeg)), .ref (gad Γ 487)]) hF (mX7_segmentAt _ R O a.toNatClampNeg ((isPl hV.1.1 (by omega) c_21).1)) (va_cwS 1 hts gX7_does_X7_segmentAt rfl rfl rfl (by decide +kernel) ⟨Nat.le_of_ble_eq_true rfl, Nat.le_of_ble_eq_true rfl⟩) hK hZ hG hS rfl hl.1 (Nat.le_of_ble_eq_true rfl) dX7_does_261 ⟨Nat.zero_le _, Nat.zero_le _⟩ rfl rfl (fun H locs hG hS => ?_)
                refine lv_iconst (v := 1) hx hb dX7_does_264 (by decide) ?_
                refine lv_iadd hx hb dX7_does_265 ?_
                refine g_top (show _ = nI ((12 + 7 * a.toNatClampNeg) + 1) from nI_add _ _) ?_
                refine lv_iload_n hx hb dX7_does_266 rfl (lv_at hl 5 rfl) ?_
                refine gm_ast (M2 := mS M A T D N (upd V ((12 + 7 * a.toNatClampNeg) + 1) d) I K B) hx hb hK hG hS (hL.1 487 (by decide) (by decide)) (show gC 487 = (9, 28, 0) from rfl) (show gLen 487 = 131 from rfl) (by decide) (j := (12 + 7 * a.toNatClampNeg) + 1) rfl (by omega) (mS_p28 _ _ _ _ _ _ _ _ _ _ _) dX7_does_267 (fun H locs hG hS => ?_)
                refine lv_iconst (v := 1) hx hb dX7_does_268 (by decide) ?_
                exact g_zret hx hb hrt hlocks hS hG (by decide) (by unfold fX7_does_v; rw [if_neg c_1, if_neg c_6, if_neg c_11, if_neg c_15, if_pos c_20, if_neg c_21, if_neg c_22]) (mS_c rfl rfl rfl rfl (by unfold fX7_does_V; rw [if_neg c_1, if_neg c_6, if_neg c_11, if_neg c_15, if_pos c_20, if_neg c_21, if_neg c_22]) rfl rfl rfl) dX7_does_269
              · --F
                refine lv_iconst (v := 0) hx hb dX7_does_254 (by decide) ?_
                exact g_zret hx hb hrt hlocks hS hG (by decide) (by unfold fX7_does_v; rw [if_neg c_1, if_neg c_6, if_neg c_11, if_neg c_15, if_pos c_20, if_neg c_21, if_pos c_22]) (mS_c rfl rfl rfl rfl (by unfold fX7_does_V; rw [if_neg c_1, if_neg c_6, if_neg c_11, if_neg c_15, if_pos c_20, if_neg c_21, if_pos c_22]) rfl rfl rfl) dX7_does_255
          · --not 5
            by_cases c_23 : h = 6
            · --6
              refine lv_tableIn (tgt := 270) hx hb dX7_does_21 (by rw [c_23]; decide) (by rw [c_23]; decide) (by rw [c_23]; rfl) (by decide) ?_
              refine lv_iload hx hb dX7_does_270 (lv_at hl 1 rfl) ?_
              refine lv_if_eq (tgt := 280) hx hb dX7_does_272 (by decide) (fun c_24 => ?_) (fun c_24 => ?_)
              · --T
                refine lv_iconst (v := 0) hx hb dX7_does_280 (by decide) ?_
                exact g_zret hx hb hrt hlocks hS hG (by decide) (by unfold fX7_does_v; rw [if_neg c_1, if_neg c_6, if_neg c_11, if_neg c_15, if_neg c_20, if_pos c_23, if_pos c_24]) (mS_c rfl rfl rfl rfl (by unfold fX7_does_V; rw [if_neg c_1, if_neg c_6, if_neg c_11, if_neg c_15, if_neg c_20, if_pos c_23, if_pos c_24]) rfl rfl rfl) dX7_does_281
              · --F
                refine lv_iload_n hx hb dX7_does_275 rfl (lv_at hl 5 rfl) ?_
                refine lv_iconst (v := 2) hx hb dX7_does_276 (by decide) ?_
                refine lv_icmp_le (tgt := 282) hx hb dX7_does_277 (by decide) (fun c_25 => ?_) (fun c_25 => ?_)
                · --T
                  have q_1 := (isPl hV.1.1 (by omega) c_24).2
                  refine lv_aload_n hx hb dX7_does_282 rfl (lv_at hl 2 rfl) ?_
                  refine gM_getr hx hb hts in_X7 hown hK hL hG 6 (by decide) rfl hL.2.2.2.2.1 k_1 (fun _ h => h) dX7_does_283 ?_
                  refine lv_iload_n hx hb dX7_does_286 rfl (lv_at hl 4 rfl) ?_
                  refine g_callS (As := [.int a]) (rest := [.ref (gad Γ 487)]) (st1 := [.int (nI (12 + 7 * a.toNatClampNeg)), .ref (gad Γ 487)]) hF (mX7_segmentAt _ R O a.toNatClampNeg ((isPl hV.1.1 (by omega) c_24).1)) (va_cwS 1 hts gX7_does_X7_segmentAt rfl rfl rfl (by decide +kernel) ⟨Nat.le_of_ble_eq_true rfl, Nat.le_of_ble_eq_true rfl⟩) hK hZ hG hS rfl hl.1 (Nat.le_of_ble_eq_true rfl) dX7_does_287 ⟨Nat.zero_le _, Nat.zero_le _⟩ rfl rfl (fun H locs hG hS => ?_)
                  refine lv_iload_n hx hb dX7_does_290 rfl (lv_at hl 5 rfl) ?_
                  refine gm_ast (M2 := mS M A T D N (upd V (12 + 7 * a.toNatClampNeg) d) I K B) hx hb hK hG hS (hL.1 487 (by decide) (by decide)) (show gC 487 = (9, 28, 0) from rfl) (show gLen 487 = 131 from rfl) (by decide) (j := 12 + 7 * a.toNatClampNeg) rfl (by omega) (mS_p28 _ _ _ _ _ _ _ _ _ _ _) dX7_does_291 (fun H locs hG hS => ?_)
                  refine lv_iconst (v := 1) hx hb dX7_does_292 (by decide) ?_
                  exact g_zret hx hb hrt hlocks hS hG (by decide) (by unfold fX7_does_v; rw [if_neg c_1, if_neg c_6, if_neg c_11, if_neg c_15, if_neg c_20, if_pos c_23, if_neg c_24, if_pos c_25]) (mS_c rfl rfl rfl rfl (by unfold fX7_does_V; rw [if_neg c_1, if_neg c_6, if_neg c_11, if_neg c_15, if_neg c_20, if_pos c_23, if_neg c_24, if_pos c_25]) rfl rfl rfl) dX7_does_293
                · --F
                  refine lv_iconst (v := 0) hx hb dX7_does_280 (by decide) ?_
                  exact g_zret hx hb hrt hlocks hS hG (by decide) (by unfold fX7_does_v; rw [if_neg c_1, if_neg c_6, if_neg c_11, if_neg c_15, if_neg c_20, if_pos c_23, if_neg c_24, if_neg c_25]) (mS_c rfl rfl rfl rfl (by unfold fX7_does_V; rw [if_neg c_1, if_neg c_6, if_neg c_11, if_neg c_15, if_neg c_20, if_pos c_23, if_neg c_24, if_neg c_25]) rfl rfl rfl) dX7_does_281
            · --not 6
              by_cases c_26 : h = 7
              · --7
                refine lv_tableIn (tgt := 294) hx hb dX7_does_21 (by rw [c_26]; decide) (by rw [c_26]; decide) (by rw [c_26]; rfl) (by decide) ?_
                refine lv_iload_n hx hb dX7_does_294 rfl (lv_at hl 4 rfl) ?_
                refine lv_if_ne (tgt := 306) hx hb dX7_does_295 (by decide) (fun c_27 => ?_) (fun c_27 => ?_)
                · --T
                  refine lv_iconst (v := 0) hx hb dX7_does_306 (by decide) ?_
                  exact g_zret hx hb hrt hlocks hS hG (by decide) (by unfold fX7_does_v; rw [if_neg c_1, if_neg c_6, if_neg c_11, if_neg c_15, if_neg c_20, if_neg c_23, if_pos c_26, if_neg c_27]) (mS_c rfl rfl rfl rfl (by unfold fX7_does_V; rw [if_neg c_1, if_neg c_6, if_neg c_11, if_neg c_15, if_neg c_20, if_neg c_23, if_pos c_26, if_neg c_27]) rfl rfl rfl) dX7_does_307
                · --F
                  refine lv_iconst (v := 5) hx hb dX7_does_298 (by decide) ?_
                  refine lv_iload_n hx hb dX7_does_299 rfl (lv_at hl 5 rfl) ?_
                  refine g_callS (As := [.int 5, .int d]) (rest := []) (st1 := [.int (fX7_isSetting_v 5 d)]) hF (mX7_isSetting _ R O 5 d) (va_cwS 2 hts gX7_does_X7_isSetting rfl rfl rfl (by decide +kernel) ⟨Nat.le_of_ble_eq_true rfl, Nat.le_of_ble_eq_true rfl⟩) hK hZ hG hS rfl hl.1 (Nat.le_of_ble_eq_true rfl) dX7_does_300 ⟨Nat.zero_le _, Nat.zero_le _⟩ rfl rfl (fun H locs hG hS => ?_)
                  refine lv_if_ne (tgt := 308) hx hb dX7_does_303 (by decide) (fun c_28 => ?_) (fun c_28 => ?_)
                  · --T
                    refine lv_aload_n hx hb dX7_does_308 rfl (lv_at hl 2 rfl) ?_
                    refine gM_getr hx hb hts in_X7 hown hK hL hG 6 (by decide) rfl hL.2.2.2.2.1 k_1 (fun _ h => h) dX7_does_309 ?_
                    refine lv_iconst (v := 5) hx hb dX7_does_312 (by decide) ?_
                    refine lv_iload_n hx hb dX7_does_313 rfl (lv_at hl 5 rfl) ?_
                    refine gm_ast (M2 := mS M A T D N (upd V 5 d) I K B) hx hb hK hG hS (hL.1 487 (by decide) (by decide)) (show gC 487 = (9, 28, 0) from rfl) (show gLen 487 = 131 from rfl) (by decide) (j := 5) rfl (by omega) (mS_p28 _ _ _ _ _ _ _ _ _ _ _) dX7_does_314 (fun H locs hG hS => ?_)
                    refine lv_iconst (v := 1) hx hb dX7_does_315 (by decide) ?_
                    exact g_zret hx hb hrt hlocks hS hG (by decide) (by unfold fX7_does_v; rw [if_neg c_1, if_neg c_6, if_neg c_11, if_neg c_15, if_neg c_20, if_neg c_23, if_pos c_26, if_pos c_27, if_neg c_28]) (mS_c rfl rfl rfl rfl (by unfold fX7_does_V; rw [if_neg c_1, if_neg c_6, if_neg c_11, if_neg c_15, if_neg c_20, if_neg c_23, if_pos c_26, if_pos c_27, if_neg c_28]) rfl rfl rfl) dX7_does_316
                  · --F
                    refine lv_iconst (v := 0) hx hb dX7_does_306 (by decide) ?_
                    exact g_zret hx hb hrt hlocks hS hG (by decide) (by unfold fX7_does_v; rw [if_neg c_1, if_neg c_6, if_neg c_11, if_neg c_15, if_neg c_20, if_neg c_23, if_pos c_26, if_pos c_27, if_pos c_28]) (mS_c rfl rfl rfl rfl (by unfold fX7_does_V; rw [if_neg c_1, if_neg c_6, if_neg c_11, if_neg c_15, if_neg c_20, if_neg c_23, if_pos c_26, if_pos c_27, if_pos c_28]) rfl rfl rfl) dX7_does_307
              · --not 7
                by_cases c_29 : h = 8
                · --8
                  refine lv_tableIn (tgt := 317) hx hb dX7_does_21 (by rw [c_29]; decide) (by rw [c_29]; decide) (by rw [c_29]; rfl) (by decide) ?_
                  refine lv_aload_n hx hb dX7_does_317 rfl (lv_at hl 2 rfl) ?_
                  refine gM_getr hx hb hts in_X7 hown hK hL hG 6 (by decide) rfl hL.2.2.2.2.1 k_1 (fun _ h => h) dX7_does_318 ?_
                  refine lv_iload_n hx hb dX7_does_321 rfl (lv_at hl 4 rfl) ?_
                  refine g_callS (As := [.ref (gad Γ 487), .int a]) (rest := []) (st1 := [.int (fX7_isHouse_v V a)]) hF (mX7_isHouse (mS M A T D N V I K B) R O (hL.1 487 (by decide) (by decide)) (show gC 487 = (9, 28, 0) from rfl) (show gLen 487 = 131 from rfl) V a) (va_cwS 2 hts gX7_does_X7_isHouse rfl rfl rfl (by decide +kernel) ⟨Nat.le_of_ble_eq_true rfl, Nat.le_of_ble_eq_true rfl⟩) hK hZ (g_st (show _ = va_up (mS M A T D N V I K B) 28 V from (mS_u28 _ _ _ _ _ _ _ _ _ _).symm) hG) hS rfl hl.1 (Nat.le_of_ble_eq_true rfl) dX7_does_322 ⟨Nat.zero_le _, Nat.zero_le _⟩ rfl rfl (fun H locs hG hS => ?_)
                  replace hG : GH Γ (mS M A T D N V I K B) R O H := g_st (mS_u28 _ _ _ _ _ _ _ _ _ _) hG
                  refine lv_if_eq (tgt := 347) hx hb dX7_does_325 (by decide) (fun c_30 => ?_) (fun c_30 => ?_)
                  · --T
                    refine lv_iconst (v := 0) hx hb dX7_does_347 (by decide) ?_
                    exact g_zret hx hb hrt hlocks hS hG (by decide) (by unfold fX7_does_v; rw [if_neg c_1, if_neg c_6, if_neg c_11, if_neg c_15, if_neg c_20, if_neg c_23, if_neg c_26, if_pos c_29, if_pos c_30]) (mS_c rfl rfl rfl rfl (by unfold fX7_does_V; rw [if_neg c_1, if_neg c_6, if_neg c_11, if_neg c_15, if_neg c_20, if_neg c_23, if_neg c_26, if_pos c_29, if_pos c_30]) rfl rfl rfl) dX7_does_348
                  · --F
                    have q_1 := (isPl hV.2.1.1 (by omega) c_30).2
                    refine lv_aload_n hx hb dX7_does_328 rfl (lv_at hl 2 rfl) ?_
                    refine gM_getr hx hb hts in_X7 hown hK hL hG 6 (by decide) rfl hL.2.2.2.2.1 k_1 (fun _ h => h) dX7_does_329 ?_
                    refine lv_iload_n hx hb dX7_does_332 rfl (lv_at hl 4 rfl) ?_
                    refine g_callS (As := [.int a]) (rest := [.ref (gad Γ 487)]) (st1 := [.int (nI (82 + 5 * a.toNatClampNeg)), .ref (gad Γ 487)]) hF (mX7_houseAt _ R O a.toNatClampNeg ((isPl hV.2.1.1 (by omega) c_30).1)) (va_cwS 1 hts gX7_does_X7_houseAt rfl rfl rfl (by decide +kernel) ⟨Nat.le_of_ble_eq_true rfl, Nat.le_of_ble_eq_true rfl⟩) hK hZ hG hS rfl hl.1 (Nat.le_of_ble_eq_true rfl) dX7_does_333 ⟨Nat.zero_le _, Nat.zero_le _⟩ rfl rfl (fun H locs hG hS => ?_)
                    refine lv_iconst (v := 3) hx hb dX7_does_336 (by decide) ?_
                    refine lv_iadd hx hb dX7_does_337 ?_
                    refine g_top (show _ = nI ((82 + 5 * a.toNatClampNeg) + 3) from nI_add _ _) ?_
                    refine gm_ald hx hb hK hG (hL.1 487 (by decide) (by decide)) (show gC 487 = (9, 28, 0) from rfl) (show gLen 487 = 131 from rfl) (by decide) (j := (82 + 5 * a.toNatClampNeg) + 3) rfl (by omega) (v := V ((82 + 5 * a.toNatClampNeg) + 3)) (mS_a28 _ _ _ _ _ _ _ _ _ _) dX7_does_338 ?_
                    refine lv_iload_n hx hb dX7_does_339 rfl (lv_at hl 5 rfl) ?_
                    refine lv_icmp_gt (tgt := 347) hx hb dX7_does_340 (by decide) (fun c_31 => ?_) (fun c_31 => ?_)
                    · --T
                      refine lv_iconst (v := 0) hx hb dX7_does_347 (by decide) ?_
                      exact g_zret hx hb hrt hlocks hS hG (by decide) (by unfold fX7_does_v; rw [if_neg c_1, if_neg c_6, if_neg c_11, if_neg c_15, if_neg c_20, if_neg c_23, if_neg c_26, if_pos c_29, if_neg c_30, if_pos c_31]) (mS_c rfl rfl rfl rfl (by unfold fX7_does_V; rw [if_neg c_1, if_neg c_6, if_neg c_11, if_neg c_15, if_neg c_20, if_neg c_23, if_neg c_26, if_pos c_29, if_neg c_30, if_pos c_31]) rfl rfl rfl) dX7_does_348
                    · --F
                      refine lv_iconst (v := 1) hx hb dX7_does_343 (by decide) ?_
                      refine lv_goto (tgt := 348) hx hb dX7_does_344 (by decide) ?_
                      exact g_zret hx hb hrt hlocks hS hG (by decide) (by unfold fX7_does_v; rw [if_neg c_1, if_neg c_6, if_neg c_11, if_neg c_15, if_neg c_20, if_neg c_23, if_neg c_26, if_pos c_29, if_neg c_30, if_neg c_31]) (mS_c rfl rfl rfl rfl (by unfold fX7_does_V; rw [if_neg c_1, if_neg c_6, if_neg c_11, if_neg c_15, if_neg c_20, if_neg c_23, if_neg c_26, if_pos c_29, if_neg c_30, if_neg c_31]) rfl rfl rfl) dX7_does_348
                · --not 8
                  by_cases c_32 : h = 9
                  · --9
                    refine lv_tableIn (tgt := 349) hx hb dX7_does_21 (by rw [c_32]; decide) (by rw [c_32]; decide) (by rw [c_32]; rfl) (by decide) ?_
                    refine lv_iload hx hb dX7_does_349 (lv_at hl 1 rfl) ?_
                    refine lv_if_eq (tgt := 373) hx hb dX7_does_351 (by decide) (fun c_33 => ?_) (fun c_33 => ?_)
                    · --T
                      refine lv_iconst (v := 0) hx hb dX7_does_373 (by decide) ?_
                      exact g_zret hx hb hrt hlocks hS hG (by decide) (by unfold fX7_does_v; rw [if_neg c_1, if_neg c_6, if_neg c_11, if_neg c_15, if_neg c_20, if_neg c_23, if_neg c_26, if_neg c_29, if_pos c_32, if_pos c_33]) (mS_c rfl rfl rfl rfl (by unfold fX7_does_V; rw [if_neg c_1, if_neg c_6, if_neg c_11, if_neg c_15, if_neg c_20, if_neg c_23, if_neg c_26, if_neg c_29, if_pos c_32, if_pos c_33]) rfl rfl rfl) dX7_does_374
                    · --F
                      refine lv_aload_n hx hb dX7_does_354 rfl (lv_at hl 2 rfl) ?_
                      refine gM_getr hx hb hts in_X7 hown hK hL hG 6 (by decide) rfl hL.2.2.2.2.1 k_1 (fun _ h => h) dX7_does_355 ?_
                      refine lv_iload_n hx hb dX7_does_358 rfl (lv_at hl 4 rfl) ?_
                      refine g_callS (As := [.ref (gad Γ 487), .int a]) (rest := []) (st1 := [.int (fX7_dustOf_v V a)]) hF (mX7_dustOf (mS M A T D N V I K B) R O (hL.1 487 (by decide) (by decide)) (show gC 487 = (9, 28, 0) from rfl) (show gLen 487 = 131 from rfl) V a hV) (va_cwS 2 hts gX7_does_X7_dustOf rfl rfl rfl (by decide +kernel) ⟨Nat.le_of_ble_eq_true rfl, Nat.le_of_ble_eq_true rfl⟩) hK hZ (g_st (show _ = va_up (mS M A T D N V I K B) 28 V from (mS_u28 _ _ _ _ _ _ _ _ _ _).symm) hG) hS rfl hl.1 (Nat.le_of_ble_eq_true rfl) dX7_does_359 ⟨Nat.zero_le _, Nat.zero_le _⟩ rfl rfl (fun H locs hG hS => ?_)
                      replace hG : GH Γ (mS M A T D N V I K B) R O H := g_st (mS_u28 _ _ _ _ _ _ _ _ _ _) hG
                      refine lv_bipush (v := 10) hx hb dX7_does_362 (by decide) ?_
                      refine lv_iload_n hx hb dX7_does_364 rfl (lv_at hl 5 rfl) ?_
                      refine lv_imul hx hb dX7_does_365 ?_
                      refine lv_icmp_gt (tgt := 373) hx hb dX7_does_366 (by decide) (fun c_34 => ?_) (fun c_34 => ?_)
                      · --T
                        refine lv_iconst (v := 0) hx hb dX7_does_373 (by decide) ?_
                        exact g_zret hx hb hrt hlocks hS hG (by decide) (by unfold fX7_does_v; rw [if_neg c_1, if_neg c_6, if_neg c_11, if_neg c_15, if_neg c_20, if_neg c_23, if_neg c_26, if_neg c_29, if_pos c_32, if_neg c_33, if_pos c_34]) (mS_c rfl rfl rfl rfl (by unfold fX7_does_V; rw [if_neg c_1, if_neg c_6, if_neg c_11, if_neg c_15, if_neg c_20, if_neg c_23, if_neg c_26, if_neg c_29, if_pos c_32, if_neg c_33, if_pos c_34]) rfl rfl rfl) dX7_does_374
                      · --F
                        refine lv_iconst (v := 1) hx hb dX7_does_369 (by decide) ?_
                        refine lv_goto (tgt := 374) hx hb dX7_does_370 (by decide) ?_
                        exact g_zret hx hb hrt hlocks hS hG (by decide) (by unfold fX7_does_v; rw [if_neg c_1, if_neg c_6, if_neg c_11, if_neg c_15, if_neg c_20, if_neg c_23, if_neg c_26, if_neg c_29, if_pos c_32, if_neg c_33, if_neg c_34]) (mS_c rfl rfl rfl rfl (by unfold fX7_does_V; rw [if_neg c_1, if_neg c_6, if_neg c_11, if_neg c_15, if_neg c_20, if_neg c_23, if_neg c_26, if_neg c_29, if_pos c_32, if_neg c_33, if_neg c_34]) rfl rfl rfl) dX7_does_374
                  · --not 9
                    have z_35 := lv_neT (a := 1) c_1 (by decide)
                    have z_36 := lv_neT (a := 2) c_6 (by decide)
                    have z_37 := lv_neT (a := 3) c_11 (by decide)
                    have z_38 := lv_neT (a := 4) c_15 (by decide)
                    have z_39 := lv_neT (a := 5) c_20 (by decide)
                    have z_40 := lv_neT (a := 6) c_23 (by decide)
                    have z_41 := lv_neT (a := 7) c_26 (by decide)
                    have z_42 := lv_neT (a := 8) c_29 (by decide)
                    have z_43 := lv_neT (a := 9) c_32 (by decide)
                    refine lv_tableOut (tgt := 375) hx hb dX7_does_21 (by omega) (by decide) ?_
                    refine lv_iconst (v := 0) hx hb dX7_does_375 (by decide) ?_
                    exact g_zret hx hb hrt hlocks hS hG (by decide) (by unfold fX7_does_v; rw [if_neg c_1, if_neg c_6, if_neg c_11, if_neg c_15, if_neg c_20, if_neg c_23, if_neg c_26, if_neg c_29, if_neg c_32]) (mS_c rfl rfl rfl rfl (by unfold fX7_does_V; rw [if_neg c_1, if_neg c_6, if_neg c_11, if_neg c_15, if_neg c_20, if_neg c_23, if_neg c_26, if_neg c_29, if_neg c_32]) rfl rfl rfl) dX7_does_376

