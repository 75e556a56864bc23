/-! THE REFERENCE: save slots. Laid by gen/p12.py. -/
def fX7_save_v (A T D N V I K B : Nat → Int32) (a : Int32) : Int32 := if (fX7_in_v a.toInt64 0 1) = 0 then 0 else (10 * (N 3)) + (N 4)
def fX7_save_A (A T D N V I K B : Nat → Int32) (a : Int32) : Nat → Int32 := if (fX7_in_v a.toInt64 0 1) = 0 then upd A 0 1 else upd A 0 0
def fX7_save_K (A T D N V I K B : Nat → Int32) (a : Int32) : Nat → Int32 := if (fX7_in_v a.toInt64 0 1) = 0 then K else fX7_copyPage_P N K 0 (131 * a.toNatClampNeg)
def fX7_save_B (A T D N V I K B : Nat → Int32) (a : Int32) : Nat → Int32 := if (fX7_in_v a.toInt64 0 1) = 0 then B else upd B a.toNatClampNeg 1
set_option maxHeartbeats 4000000 in
set_option maxRecDepth 100000 in
theorem mX7_save {l : Launch} {Γ : gX} (M : Nat → Nat → Int32) (R : Nat → Nat → Option Nat) (O : Int64) (hL : LM Γ R) (A T D N V I K B : Nat → Int32) (a : Int32) : gMet l Γ yX7_save wsX7_save 1 25 [.ref (gad Γ 483), .int a] (mS M A T D N V I K B) R O (some (.int (fX7_save_v A T D N V I K B a))) (mS M (fX7_save_A A T D N V I K B a) T D N V I (fX7_save_K A T D N V I K B a) (fX7_save_B A T D N V I K B a)) R O := by
  refine g_start (cc := cX7_save) (maxL := 2) (ret := (some .int)) (by decide) rfl (Nat.le_of_ble_eq_true rfl) ?_
  intro p e s m below meth c ls hx hb hml hrt hts hown hlocks hname hK hZ hG hS hl
  have hl : lv_has ls 2 [(0, .ref (gad Γ 483)), (1, .int a)] := hl
  have hown : s.vm.findClass RX7 = some m.cls := hown
  have hF : CallFix p m c cX7_save 2 s _ wsX7_save RX7 := ⟨hx, hb, hml, hown, hts⟩
  have k_1 : (Cond.fieldLink RX7 28 "RoadDustModel" "isKept" "[Z").before _ s = true := hts _ (by decide +kernel)
  have in_X7 : ∀ w ∈ wsX70, w ∈ wsX7_save := by decide +kernel
  have k_3 : (Cond.fieldLink RX7 16 "RoadDustModel" "now" "[I").before _ s = true := hts _ (by decide +kernel)
  have k_4 : (Cond.fieldLink RX7 25 "RoadDustModel" "kept" "[I").before _ s = true := hts _ (by decide +kernel)
  refine lv_aload_n hx hb dX7_save_0 rfl (lv_at hl 0 rfl) ?_
  refine lv_iload_n hx hb dX7_save_1 rfl (lv_at hl 1 rfl) ?_
  refine lv_i2l hx hb dX7_save_2 rfl ?_
  refine lv_lconst (v := 0) hx hb dX7_save_3 (by decide) ?_
  refine lv_lconst (v := 1) hx hb dX7_save_4 (by decide) ?_
  refine g_callS (As := [.long a.toInt64, .long 0, .long 1]) (rest := [.ref (gad Γ 483)]) (st1 := [.int (fX7_in_v a.toInt64 0 1), .ref (gad Γ 483)]) hF (mX7_in _ R O a.toInt64 0 1) (va_cwS 3 hts gX7_save_X7_in rfl rfl rfl (by decide +kernel) ⟨Nat.le_of_ble_eq_true rfl, Nat.le_of_ble_eq_true rfl⟩) hK hZ hG hS rfl hl.1 (Nat.le_of_ble_eq_true rfl) dX7_save_5 ⟨Nat.zero_le _, Nat.zero_le _⟩ rfl rfl (fun H locs hG hS => ?_)
  refine lv_if_eq (tgt := 15) hx hb dX7_save_8 (by decide) (fun c_1 => ?_) (fun c_1 => ?_)
  · --T
    refine lv_iconst (v := 1) hx hb dX7_save_15 (by decide) ?_
    refine g_callV (As := [.int 1]) (rest := []) (st1 := [.int 1]) hF (mX7_refused_l M R O hL A T D N V I K B 1 1 (by decide)) (cwV 1 hts gX7_save_X7_refused rfl rfl rfl (by decide +kernel) ⟨Nat.le_of_ble_eq_true rfl, Nat.le_of_ble_eq_true rfl⟩) hK hZ hG hS (hL.1 483 (by decide) (by decide)) (show gC 483 = (7, 24, 0) from rfl) (by decide) rfl rfl hl.1 (Nat.le_of_ble_eq_true rfl) dX7_save_16 ⟨Nat.zero_le _, Nat.zero_le _⟩ rfl rfl (fun H locs hG hS => ?_)
    refine lv_if_eq (tgt := 24) hx hb dX7_save_19 (by decide) (fun c_2 => absurd c_2 (by decide)) (fun c_2 => ?_)
    refine lv_iconst (v := 0) hx hb dX7_save_22 (by decide) ?_
    exact g_iret hx hb hrt hlocks hS hG (by unfold fX7_save_v; rw [if_pos c_1]) (mS_c (by unfold fX7_save_A; rw [if_pos c_1]) rfl rfl rfl rfl rfl (by unfold fX7_save_K; rw [if_pos c_1]) (by unfold fX7_save_B; rw [if_pos c_1])) dX7_save_23
  · --F
    refine lv_iconst (v := 0) hx hb dX7_save_11 (by decide) ?_
    refine lv_goto (tgt := 16) hx hb dX7_save_12 (by decide) ?_
    refine g_callV (As := [.int 0]) (rest := []) (st1 := [.int 0]) hF (mX7_refused_l M R O hL A T D N V I K B 0 0 (by decide)) (cwV 1 hts gX7_save_X7_refused rfl rfl rfl (by decide +kernel) ⟨Nat.le_of_ble_eq_true rfl, Nat.le_of_ble_eq_true rfl⟩) hK hZ hG hS (hL.1 483 (by decide) (by decide)) (show gC 483 = (7, 24, 0) from rfl) (by decide) rfl rfl hl.1 (Nat.le_of_ble_eq_true rfl) dX7_save_16 ⟨Nat.zero_le _, Nat.zero_le _⟩ rfl rfl (fun H locs hG hS => ?_)
    refine lv_if_eq (tgt := 24) hx hb dX7_save_19 (by decide) (fun c_3 => ?_) (fun c_3 => absurd (by decide) c_3)
    have q_1 := (inPl 1 c_1).2
    refine lv_aload_n hx hb dX7_save_24 rfl (lv_at hl 0 rfl) ?_
    refine gM_getr hx hb hts in_X7 hown hK hL hG 10 (by decide) rfl hL.2.2.2.2.2.2.2 k_1 (fun _ h => h) dX7_save_25 ?_
    refine lv_iload_n hx hb dX7_save_28 rfl (lv_at hl 1 rfl) ?_
    refine lv_iconst (v := 1) hx hb dX7_save_29 (by decide) ?_
    refine gm_zast (M2 := mS M (upd A 0 0) T D N V I K (upd B a.toNatClampNeg 1)) hx hb hK hG hS (hL.1 490 (by decide) (by decide)) (show gC 490 = (10, 31, 0) from rfl) (show gLen 490 = 2 from rfl) (by decide) (j := a.toNatClampNeg) (inPl 1 c_1).1 (by omega) rfl (mS_p31 _ _ _ _ _ _ _ _ _ _ _) dX7_save_30 (fun H locs hG hS => ?_)
    refine lv_aload_n hx hb dX7_save_31 rfl (lv_at hl 0 rfl) ?_
    refine gM_getr hx hb hts in_X7 hown hK hL hG 5 (by decide) rfl hL.2.2.2.1 k_3 (fun _ h => h) dX7_save_32 ?_
    refine lv_iconst (v := 0) hx hb dX7_save_35 (by decide) ?_
    refine lv_aload_n hx hb dX7_save_36 rfl (lv_at hl 0 rfl) ?_
    refine gM_getr hx hb hts in_X7 hown hK hL hG 9 (by decide) rfl hL.2.2.2.2.2.2.1 k_4 (fun _ h => h) dX7_save_37 ?_
    refine lv_sipush (v := 131) hx hb dX7_save_40 (by decide) ?_
    refine lv_iload_n hx hb dX7_save_43 rfl (lv_at hl 1 rfl) ?_
    refine lv_imul hx hb dX7_save_44 ?_
    refine g_callS (As := [.ref (gad Γ 486), .int 0, .ref (gad Γ 489), .int (131 * a)]) (rest := []) (st1 := []) hF (mX7_copyPage_q (mS M (upd A 0 0) T D N V I K (upd B a.toNatClampNeg 1)) R O (hL.1 486 (by decide) (by decide)) (show gC 486 = (9, 27, 0) from rfl) (show gLen 486 = 131 from rfl) (hL.1 489 (by decide) (by decide)) (show gC 489 = (9, 30, 0) from rfl) (show gLen 489 = 262 from rfl) (by decide) 0 (131 * a.toNatClampNeg) rfl (mul_pl (inPl 1 c_1).1) (by omega) (by omega) (by decide) (by decide) K _ (mS_b27 _ _ _ _ _ _ _ _ _)) (va_cwS 4 hts gX7_save_X7_copyPage rfl rfl rfl (by decide +kernel) ⟨Nat.le_of_ble_eq_true rfl, Nat.le_of_ble_eq_true rfl⟩) hK hZ (g_st (show _ = va_up (mS M (upd A 0 0) T D N V I K (upd B a.toNatClampNeg 1)) 30 K from (mS_u30 _ _ _ _ _ _ _ _ _ _).symm) hG) hS rfl hl.1 (Nat.le_of_ble_eq_true rfl) dX7_save_45 ⟨Nat.zero_le _, Nat.zero_le _⟩ rfl rfl (fun H locs hG hS => ?_)
    replace hG : GH Γ (mS M (upd A 0 0) T D N V I (fX7_copyPage_P N K 0 (131 * a.toNatClampNeg)) (upd B a.toNatClampNeg 1)) R O H := g_st (mS_u30 _ _ _ _ _ _ _ _ _ _) hG
    refine lv_bipush (v := 10) hx hb dX7_save_48 (by decide) ?_
    refine lv_aload_n hx hb dX7_save_50 rfl (lv_at hl 0 rfl) ?_
    refine gM_getr hx hb hts in_X7 hown hK hL hG 5 (by decide) rfl hL.2.2.2.1 k_3 (fun _ h => h) dX7_save_51 ?_
    refine lv_iconst (v := 3) hx hb dX7_save_54 (by decide) ?_
    refine gm_ald hx hb hK hG (hL.1 486 (by decide) (by decide)) (show gC 486 = (9, 27, 0) from rfl) (show gLen 486 = 131 from rfl) (by decide) (j := 3) rfl (by omega) (v := N 3) (mS_a27 _ _ _ _ _ _ _ _ _ _) dX7_save_55 ?_
    refine lv_imul hx hb dX7_save_56 ?_
    refine lv_aload_n hx hb dX7_save_57 rfl (lv_at hl 0 rfl) ?_
    refine gM_getr hx hb hts in_X7 hown hK hL hG 5 (by decide) rfl hL.2.2.2.1 k_3 (fun _ h => h) dX7_save_58 ?_
    refine lv_iconst (v := 4) hx hb dX7_save_61 (by decide) ?_
    refine gm_ald hx hb hK hG (hL.1 486 (by decide) (by decide)) (show gC 486 = (9, 27, 0) from rfl) (show gLen 486 = 131 from rfl) (by decide) (j := 4) rfl (by omega) (v := N 4) (mS_a27 _ _ _ _ _ _ _ _ _ _) dX7_save_62 ?_
    refine lv_iadd hx hb dX7_save_63 ?_
    exact g_iret hx hb hrt hlocks hS hG (by unfold fX7_save_v; rw [if_neg c_1]) (mS_c (by unfold fX7_save_A; rw [if_neg c_1]) rfl rfl rfl rfl rfl (by unfold fX7_save_K; rw [if_neg c_1]) (by unfold fX7_save_B; rw [if_neg c_1])) dX7_save_64

def fX7_restore_v (A T D N V I K B : Nat → Int32) (a : Int32) : Int32 := if (fX7_in_v a.toInt64 0 1) = 0 then 0 else if (B a.toNatClampNeg) = 0 then 0 else (10 * ((fX7_copyPage_P K N (131 * a.toNatClampNeg) 0) 3)) + ((fX7_copyPage_P K N (131 * a.toNatClampNeg) 0) 4)
def fX7_restore_A (A T D N V I K B : Nat → Int32) (a : Int32) : Nat → Int32 := if (fX7_in_v a.toInt64 0 1) = 0 then upd A 0 1 else if (B a.toNatClampNeg) = 0 then upd A 0 2 else upd (upd A 0 0) 8 0
def fX7_restore_N (A T D N V I K B : Nat → Int32) (a : Int32) : Nat → Int32 := if (fX7_in_v a.toInt64 0 1) = 0 then N else if (B a.toNatClampNeg) = 0 then N else fX7_copyPage_P K N (131 * a.toNatClampNeg) 0
set_option maxHeartbeats 4000000 in
set_option maxRecDepth 100000 in
theorem mX7_restore {l : Launch} {Γ : gX} (M : Nat → Nat → Int32) (R : Nat → Nat → Option Nat) (O : Int64) (hL : LM Γ R) (A T D N V I K B : Nat → Int32) (a : Int32) : gMet l Γ yX7_restore wsX7_restore 1 25 [.ref (gad Γ 483), .int a] (mS M A T D N V I K B) R O (some (.int (fX7_restore_v A T D N V I K B a))) (mS M (fX7_restore_A A T D N V I K B a) T D (fX7_restore_N A T D N V I K B a) V I K B) R O := by
  refine g_start (cc := cX7_restore) (maxL := 2) (ret := (some .int)) (by decide) rfl (Nat.le_of_ble_eq_true rfl) ?_
  intro p e s m below meth c ls hx hb hml hrt hts hown hlocks hname hK hZ hG hS hl
  have hl : lv_has ls 2 [(0, .ref (gad Γ 483)), (1, .int a)] := hl
  have hown : s.vm.findClass RX7 = some m.cls := hown
  have hF : CallFix p m c cX7_restore 2 s _ wsX7_restore RX7 := ⟨hx, hb, hml, hown, hts⟩
  have k_1 : (Cond.fieldLink RX7 28 "RoadDustModel" "isKept" "[Z").before _ s = true := hts _ (by decide +kernel)
  have in_X7 : ∀ w ∈ wsX70, w ∈ wsX7_restore := by decide +kernel
  have k_3 : (Cond.fieldLink RX7 25 "RoadDustModel" "kept" "[I").before _ s = true := hts _ (by decide +kernel)
  have k_4 : (Cond.fieldLink RX7 16 "RoadDustModel" "now" "[I").before _ s = true := hts _ (by decide +kernel)
  have k_5 : (Cond.fieldLink RX7 143 "RoadDustModel" "acts" "I").before _ s = true := hts _ (by decide +kernel)
  refine lv_aload_n hx hb dX7_restore_0 rfl (lv_at hl 0 rfl) ?_
  refine lv_iload_n hx hb dX7_restore_1 rfl (lv_at hl 1 rfl) ?_
  refine lv_i2l hx hb dX7_restore_2 rfl ?_
  refine lv_lconst (v := 0) hx hb dX7_restore_3 (by decide) ?_
  refine lv_lconst (v := 1) hx hb dX7_restore_4 (by decide) ?_
  refine g_callS (As := [.long a.toInt64, .long 0, .long 1]) (rest := [.ref (gad Γ 483)]) (st1 := [.int (fX7_in_v a.toInt64 0 1), .ref (gad Γ 483)]) hF (mX7_in _ R O a.toInt64 0 1) (va_cwS 3 hts gX7_restore_X7_in rfl rfl rfl (by decide +kernel) ⟨Nat.le_of_ble_eq_true rfl, Nat.le_of_ble_eq_true rfl⟩) hK hZ hG hS rfl hl.1 (Nat.le_of_ble_eq_true rfl) dX7_restore_5 ⟨Nat.zero_le _, Nat.zero_le _⟩ rfl rfl (fun H locs hG hS => ?_)
  refine lv_if_ne (tgt := 15) hx hb dX7_restore_8 (by decide) (fun c_1 => ?_) (fun c_1 => ?_)
  · --T
    have q_1 := (inPl 1 c_1).2
    refine lv_aload_n hx hb dX7_restore_15 rfl (lv_at hl 0 rfl) ?_
    refine gM_getr hx hb hts in_X7 hown hK hL hG 10 (by decide) rfl hL.2.2.2.2.2.2.2 k_1 (fun _ h => h) dX7_restore_16 ?_
    refine lv_iload_n hx hb dX7_restore_19 rfl (lv_at hl 1 rfl) ?_
    refine gm_zald hx hb hK hG (hL.1 490 (by decide) (by decide)) (show gC 490 = (10, 31, 0) from rfl) (show gLen 490 = 2 from rfl) (by decide) (j := a.toNatClampNeg) (inPl 1 c_1).1 (by omega) (v := B a.toNatClampNeg) (mS_a31 _ _ _ _ _ _ _ _ _ _) dX7_restore_20 ?_
    refine lv_if_ne (tgt := 28) hx hb dX7_restore_21 (by decide) (fun c_2 => ?_) (fun c_2 => ?_)
    · --T
      refine lv_iconst (v := 0) hx hb dX7_restore_28 (by decide) ?_
      refine g_callV (As := [.int 0]) (rest := []) (st1 := [.int 0]) hF (mX7_refused_l M R O hL A T D N V I K B 0 0 (by decide)) (cwV 1 hts gX7_restore_X7_refused rfl rfl rfl (by decide +kernel) ⟨Nat.le_of_ble_eq_true rfl, Nat.le_of_ble_eq_true rfl⟩) hK hZ hG hS (hL.1 483 (by decide) (by decide)) (show gC 483 = (7, 24, 0) from rfl) (by decide) rfl rfl hl.1 (Nat.le_of_ble_eq_true rfl) dX7_restore_29 ⟨Nat.zero_le _, Nat.zero_le _⟩ rfl rfl (fun H locs hG hS => ?_)
      refine lv_if_eq (tgt := 37) hx hb dX7_restore_32 (by decide) (fun c_3 => ?_) (fun c_3 => absurd (by decide) c_3)
      refine lv_aload_n hx hb dX7_restore_37 rfl (lv_at hl 0 rfl) ?_
      refine gM_getr hx hb hts in_X7 hown hK hL hG 9 (by decide) rfl hL.2.2.2.2.2.2.1 k_3 (fun _ h => h) dX7_restore_38 ?_
      refine lv_sipush (v := 131) hx hb dX7_restore_41 (by decide) ?_
      refine lv_iload_n hx hb dX7_restore_44 rfl (lv_at hl 1 rfl) ?_
      refine lv_imul hx hb dX7_restore_45 ?_
      refine lv_aload_n hx hb dX7_restore_46 rfl (lv_at hl 0 rfl) ?_
      refine gM_getr hx hb hts in_X7 hown hK hL hG 5 (by decide) rfl hL.2.2.2.1 k_4 (fun _ h => h) dX7_restore_47 ?_
      refine lv_iconst (v := 0) hx hb dX7_restore_50 (by decide) ?_
      refine g_callS (As := [.ref (gad Γ 489), .int (131 * a), .ref (gad Γ 486), .int 0]) (rest := []) (st1 := []) hF (mX7_copyPage_q (mS M (upd A 0 0) T D N V I K B) R O (hL.1 489 (by decide) (by decide)) (show gC 489 = (9, 30, 0) from rfl) (show gLen 489 = 262 from rfl) (hL.1 486 (by decide) (by decide)) (show gC 486 = (9, 27, 0) from rfl) (show gLen 486 = 131 from rfl) (by decide) (131 * a.toNatClampNeg) 0 (mul_pl (inPl 1 c_1).1) rfl (by omega) (by omega) (by decide) (by decide) N _ (mS_b30 _ _ _ _ _ _ _ _ _)) (va_cwS 4 hts gX7_restore_X7_copyPage rfl rfl rfl (by decide +kernel) ⟨Nat.le_of_ble_eq_true rfl, Nat.le_of_ble_eq_true rfl⟩) hK hZ (g_st (show _ = va_up (mS M (upd A 0 0) T D N V I K B) 27 N from (mS_u27 _ _ _ _ _ _ _ _ _ _).symm) hG) hS rfl hl.1 (Nat.le_of_ble_eq_true rfl) dX7_restore_51 ⟨Nat.zero_le _, Nat.zero_le _⟩ rfl rfl (fun H locs hG hS => ?_)
      replace hG : GH Γ (mS M (upd A 0 0) T D (fX7_copyPage_P K N (131 * a.toNatClampNeg) 0) V I K B) R O H := g_st (mS_u27 _ _ _ _ _ _ _ _ _ _) hG
      refine lv_aload_n hx hb dX7_restore_54 rfl (lv_at hl 0 rfl) ?_
      refine lv_iconst (v := 0) hx hb dX7_restore_55 (by decide) ?_
      refine gM_put hx hb hts in_X7 hown hK hL hG hS 8 (by decide) rfl k_5 (fun _ h => h) rfl (by decide +kernel) dX7_restore_56 (fun H locs hG hS => ?_)
      refine lv_bipush (v := 10) hx hb dX7_restore_59 (by decide) ?_
      refine lv_aload_n hx hb dX7_restore_61 rfl (lv_at hl 0 rfl) ?_
      refine gM_getr hx hb hts in_X7 hown hK hL hG 5 (by decide) rfl hL.2.2.2.1 k_4 (fun _ h => h) dX7_restore_62 ?_
      refine lv_iconst (v := 3) hx hb dX7_restore_65 (by decide) ?_
      refine gm_ald hx hb hK hG (hL.1 486 (by decide) (by decide)) (show gC 486 = (9, 27, 0) from rfl) (show gLen 486 = 131 from rfl) (by decide) (j := 3) rfl (by omega) (v := (fX7_copyPage_P K N (131 * a.toNatClampNeg) 0) 3) (mS_a27 _ _ _ _ _ _ _ _ _ _) dX7_restore_66 ?_
      refine lv_imul hx hb dX7_restore_67 ?_
      refine lv_aload_n hx hb dX7_restore_68 rfl (lv_at hl 0 rfl) ?_
      refine gM_getr hx hb hts in_X7 hown hK hL hG 5 (by decide) rfl hL.2.2.2.1 k_4 (fun _ h => h) dX7_restore_69 ?_
      refine lv_iconst (v := 4) hx hb dX7_restore_72 (by decide) ?_
      refine gm_ald hx hb hK hG (hL.1 486 (by decide) (by decide)) (show gC 486 = (9, 27, 0) from rfl) (show gLen 486 = 131 from rfl) (by decide) (j := 4) rfl (by omega) (v := (fX7_copyPage_P K N (131 * a.toNatClampNeg) 0) 4) (mS_a27 _ _ _ _ _ _ _ _ _ _) dX7_restore_73 ?_
      refine lv_iadd hx hb dX7_restore_74 ?_
      exact g_iret hx hb hrt hlocks hS hG (by unfold fX7_restore_v; rw [if_neg c_1, if_neg c_2]) (mS_c (by unfold fX7_restore_A; rw [if_neg c_1, if_neg c_2]) rfl rfl (by unfold fX7_restore_N; rw [if_neg c_1, if_neg c_2]) rfl rfl rfl rfl) dX7_restore_75
    · --F
      refine lv_iconst (v := 2) hx hb dX7_restore_24 (by decide) ?_
      refine lv_goto (tgt := 29) hx hb dX7_restore_25 (by decide) ?_
      refine g_callV (As := [.int 2]) (rest := []) (st1 := [.int 1]) hF (mX7_refused_l M R O hL A T D N V I K B 2 1 (by decide)) (cwV 1 hts gX7_restore_X7_refused rfl rfl rfl (by decide +kernel) ⟨Nat.le_of_ble_eq_true rfl, Nat.le_of_ble_eq_true rfl⟩) hK hZ hG hS (hL.1 483 (by decide) (by decide)) (show gC 483 = (7, 24, 0) from rfl) (by decide) rfl rfl hl.1 (Nat.le_of_ble_eq_true rfl) dX7_restore_29 ⟨Nat.zero_le _, Nat.zero_le _⟩ rfl rfl (fun H locs hG hS => ?_)
      refine lv_if_eq (tgt := 37) hx hb dX7_restore_32 (by decide) (fun c_4 => absurd c_4 (by decide)) (fun c_4 => ?_)
      refine lv_iconst (v := 0) hx hb dX7_restore_35 (by decide) ?_
      exact g_iret hx hb hrt hlocks hS hG (by unfold fX7_restore_v; rw [if_neg c_1, if_pos c_2]) (mS_c (by unfold fX7_restore_A; rw [if_neg c_1, if_pos c_2]) rfl rfl (by unfold fX7_restore_N; rw [if_neg c_1, if_pos c_2]) rfl rfl rfl rfl) dX7_restore_36
  · --F
    refine lv_iconst (v := 1) hx hb dX7_restore_11 (by decide) ?_
    refine lv_goto (tgt := 29) hx hb dX7_restore_12 (by decide) ?_
    refine g_callV (As := [.int 1]) (rest := []) (st1 := [.int 1]) hF (mX7_refused_l M R O hL A T D N V I K B 1 1 (by decide)) (cwV 1 hts gX7_restore_X7_refused rfl rfl rfl (by decide +kernel) ⟨Nat.le_of_ble_eq_true rfl, Nat.le_of_ble_eq_true rfl⟩) hK hZ hG hS (hL.1 483 (by decide) (by decide)) (show gC 483 = (7, 24, 0) from rfl) (by decide) rfl rfl hl.1 (Nat.le_of_ble_eq_true rfl) dX7_restore_29 ⟨Nat.zero_le _, Nat.zero_le _⟩ rfl rfl (fun H locs hG hS => ?_)
    refine lv_if_eq (tgt := 37) hx hb dX7_restore_32 (by decide) (fun c_5 => absurd c_5 (by decide)) (fun c_5 => ?_)
    refine lv_iconst (v := 0) hx hb dX7_restore_35 (by decide) ?_
    exact g_iret hx hb hrt hlocks hS hG (by unfold fX7_restore_v; rw [if_pos c_1]) (mS_c (by unfold fX7_restore_A; rw [if_pos c_1]) rfl rfl (by unfold fX7_restore_N; rw [if_pos c_1]) rfl rfl rfl rfl) dX7_restore_36

