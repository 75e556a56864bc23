/-! THE REFERENCE: searches. Laid by gen/p11.py. -/
set_option maxHeartbeats 4000000 in
set_option maxRecDepth 100000 in
theorem mX7_waterFor_n1 {l : Launch} {Γ : gX} (M : Nat → Nat → Int32) (R : Nat → Nat → Option Nat) (O : Int64) (hL : LM Γ R) (A T D N V I K B : Nat → Int32) (a : Int32) (hp : fX7_isHouse_v N a = 0) : gMet l Γ yX7_waterFor wsX7_waterFor 2 46 [.ref (gad Γ 483), .int a] (mS M A T D N V I K B) R O (some (.int 0)) (mS M (upd A 0 1) T D N V I K B) R O := by
  refine g_start (cc := cX7_waterFor) (maxL := 3) (ret := (some .int)) (by decide) rfl (Nat.le_of_ble_eq_true rfl) ?_
  intro p e s m below meth c ls hx hb hml hrt hts hown hlocks hname hK hZ hG hS hl
  have hl : lv_has ls 3 [(0, .ref (gad Γ 483)), (1, .int a)] := hl
  have hown : s.vm.findClass RX7 = some m.cls := hown
  have hF : CallFix p m c cX7_waterFor 3 s _ wsX7_waterFor RX7 := ⟨hx, hb, hml, hown, hts⟩
  have k_1 : (Cond.fieldLink RX7 16 "RoadDustModel" "now" "[I").before _ s = true := hts _ (by decide +kernel)
  have in_X7 : ∀ w ∈ wsX70, w ∈ wsX7_waterFor := by decide +kernel
  refine lv_aload_n hx hb dX7_waterFor_0 rfl (lv_at hl 0 rfl) ?_
  refine lv_aload_n hx hb dX7_waterFor_1 rfl (lv_at hl 0 rfl) ?_
  refine gM_getr hx hb hts in_X7 hown hK hL hG 5 (by decide) rfl hL.2.2.2.1 k_1 (fun _ h => h) dX7_waterFor_2 ?_
  refine lv_iload_n hx hb dX7_waterFor_5 rfl (lv_at hl 1 rfl) ?_
  refine g_callS (As := [.ref (gad Γ 486), .int a]) (rest := [.ref (gad Γ 483)]) (st1 := [.int (fX7_isHouse_v N a), .ref (gad Γ 483)]) hF (mX7_isHouse (mS M A T D N V I K B) R O (hL.1 486 (by decide) (by decide)) (show gC 486 = (9, 27, 0) from rfl) (show gLen 486 = 131 from rfl) N a) (va_cwS 2 hts gX7_waterFor_X7_isHouse rfl rfl rfl (by decide +kernel) ⟨Nat.le_of_ble_eq_true rfl, Nat.le_of_ble_eq_true rfl⟩) hK hZ (g_st (show _ = va_up (mS M A T D N V I K B) 27 N from (mS_u27 _ _ _ _ _ _ _ _ _ _).symm) hG) hS rfl hl.1 (Nat.le_of_ble_eq_true rfl) dX7_waterFor_6 ⟨Nat.zero_le _, Nat.zero_le _⟩ rfl rfl (fun H locs hG hS => ?_)
  replace hG : GH Γ (mS M A T D N V I K B) R O H := g_st (mS_u27 _ _ _ _ _ _ _ _ _ _) hG
  refine lv_if_eq (tgt := 16) hx hb dX7_waterFor_9 (by decide) (fun c_1 => ?_) (fun c_1 => absurd hp c_1)
  refine lv_iconst (v := 1) hx hb dX7_waterFor_16 (by decide) ?_
  refine g_callV (As := [.int 1]) (rest := []) (st1 := [.int 1]) hF (mX7_refused_l M R O hL A T D N V I K B 1 1 (by decide)) (cwV 1 hts gX7_waterFor_X7_refused rfl rfl rfl (by decide +kernel) ⟨Nat.le_of_ble_eq_true rfl, Nat.le_of_ble_eq_true rfl⟩) hK hZ hG hS (hL.1 483 (by decide) (by decide)) (show gC 483 = (7, 24, 0) from rfl) (by decide) rfl rfl hl.1 (Nat.le_of_ble_eq_true rfl) dX7_waterFor_17 ⟨Nat.zero_le _, Nat.zero_le _⟩ rfl rfl (fun H locs hG hS => ?_)
  refine lv_if_eq (tgt := 25) hx hb dX7_waterFor_20 (by decide) (fun c_2 => absurd c_2 (by decide)) (fun c_2 => ?_)
  refine lv_iconst (v := 0) hx hb dX7_waterFor_23 (by decide) ?_
  exact g_iret hx hb hrt hlocks hS hG rfl rfl dX7_waterFor_24

def fX7_waterFor_S (N : Nat → Int32) (a : Int32) (Pk : Nat → Int32) (k : Nat) : Nat → Int32 := fX7_hourOn_P (fX7_wet_P (fX7_copyPage_P N Pk 0 0) ((N (82 + 5 * a.toNatClampNeg)).toNatClampNeg) (nI k))
def fX7_waterFor_L (N : Nat → Int32) (a : Int32) (P : Nat → Int32) : Nat → Nat → Int32
  | 0 => P
  | k + 1 => fX7_waterFor_S N a (fX7_waterFor_L N a P k) k
def fX7_waterFor_C (N : Nat → Int32) (a : Int32) (Pk : Nat → Int32) (k : Nat) : Prop := ¬ (N 7) ≤ (fX7_hourOn_P (fX7_wet_P (fX7_copyPage_P N Pk 0 0) ((N (82 + 5 * a.toNatClampNeg)).toNatClampNeg) (nI k)) (82 + 5 * a.toNatClampNeg + 4))
set_option maxHeartbeats 4000000 in
set_option maxRecDepth 100000 in
theorem mX7_waterFor_y {l : Launch} {Γ : gX} (M : Nat → Nat → Int32) (R : Nat → Nat → Option Nat) (O : Int64) (hL : LM Γ R) (A T D N V I K B : Nat → Int32) (a : Int32) (hN : WS N) (hp : ¬ fX7_isHouse_v N a = 0) (kx : Nat) (hxN : kx ≤ 10) (hno : ∀ j, j < kx → ¬ fX7_waterFor_C N a (fX7_waterFor_L N a V j) j) (hyes : kx < 10 → fX7_waterFor_C N a (fX7_waterFor_L N a V kx) kx) : gMet l Γ yX7_waterFor wsX7_waterFor 6 132 [.ref (gad Γ 483), .int a] (mS M A T D N V I K B) R O (some (.int (if kx < 10 then nI kx else -9))) (mS M (upd A 0 0) T D N (fX7_waterFor_L N a V (if kx < 10 then kx + 1 else 10)) I K B) R O := by
  refine g_start (cc := cX7_waterFor) (maxL := 3) (ret := (some .int)) (by decide) rfl (Nat.le_of_ble_eq_true rfl) ?_
  intro p e s m below meth c ls hx hb hml hrt hts hown hlocks hname hK hZ hG hS hl
  have hl : lv_has ls 3 [(0, .ref (gad Γ 483)), (1, .int a)] := hl
  have hown : s.vm.findClass RX7 = some m.cls := hown
  have hF : CallFix p m c cX7_waterFor 3 s _ wsX7_waterFor RX7 := ⟨hx, hb, hml, hown, hts⟩
  have k_1 : (Cond.fieldLink RX7 16 "RoadDustModel" "now" "[I").before _ s = true := hts _ (by decide +kernel)
  have in_X7 : ∀ w ∈ wsX70, w ∈ wsX7_waterFor := by decide +kernel
  have k_3 : (Cond.fieldLink RX7 19 "RoadDustModel" "trial" "[I").before _ s = true := hts _ (by decide +kernel)
  have n0 := hN.1.2
  have n1 := hN.2.1.2
  have n2 := hN.2.2.1.2
  have q_1 := (isPl hN.2.1.1 (by omega) hp).2
  have q_2 := (hN.2.2.2.1 a.toNatClampNeg (by omega)).2.1
  refine lv_aload_n hx hb dX7_waterFor_0 rfl (lv_at hl 0 rfl) ?_
  refine lv_aload_n hx hb dX7_waterFor_1 rfl (lv_at hl 0 rfl) ?_
  refine gM_getr hx hb hts in_X7 hown hK hL hG 5 (by decide) rfl hL.2.2.2.1 k_1 (fun _ h => h) dX7_waterFor_2 ?_
  refine lv_iload_n hx hb dX7_waterFor_5 rfl (lv_at hl 1 rfl) ?_
  refine g_callS (As := [.ref (gad Γ 486), .int a]) (rest := [.ref (gad Γ 483)]) (st1 := [.int (fX7_isHouse_v N a), .ref (gad Γ 483)]) hF (mX7_isHouse (mS M A T D N V I K B) R O (hL.1 486 (by decide) (by decide)) (show gC 486 = (9, 27, 0) from rfl) (show gLen 486 = 131 from rfl) N a) (va_cwS 2 hts gX7_waterFor_X7_isHouse rfl rfl rfl (by decide +kernel) ⟨Nat.le_of_ble_eq_true rfl, Nat.le_of_ble_eq_true rfl⟩) hK hZ (g_st (show _ = va_up (mS M A T D N V I K B) 27 N from (mS_u27 _ _ _ _ _ _ _ _ _ _).symm) hG) hS rfl hl.1 (Nat.le_of_ble_eq_true rfl) dX7_waterFor_6 ⟨Nat.zero_le _, Nat.zero_le _⟩ rfl rfl (fun H locs hG hS => ?_)
  replace hG : GH Γ (mS M A T D N V I K B) R O H := g_st (mS_u27 _ _ _ _ _ _ _ _ _ _) hG
  refine lv_if_eq (tgt := 16) hx hb dX7_waterFor_9 (by decide) (fun c_1 => absurd c_1 hp) (fun c_1 => ?_)
  refine lv_iconst (v := 0) hx hb dX7_waterFor_12 (by decide) ?_
  refine lv_goto (tgt := 17) hx hb dX7_waterFor_13 (by decide) ?_
  refine g_callV (As := [.int 0]) (rest := []) (st1 := [.int 0]) hF (mX7_refused_l M R O hL A T D N V I K B 0 0 (by decide)) (cwV 1 hts gX7_waterFor_X7_refused rfl rfl rfl (by decide +kernel) ⟨Nat.le_of_ble_eq_true rfl, Nat.le_of_ble_eq_true rfl⟩) hK hZ hG hS (hL.1 483 (by decide) (by decide)) (show gC 483 = (7, 24, 0) from rfl) (by decide) rfl rfl hl.1 (Nat.le_of_ble_eq_true rfl) dX7_waterFor_17 ⟨Nat.zero_le _, Nat.zero_le _⟩ rfl rfl (fun H locs hG hS => ?_)
  refine lv_if_eq (tgt := 25) hx hb dX7_waterFor_20 (by decide) (fun c_2 => ?_) (fun c_2 => absurd (by decide) c_2)
  refine lv_iconst (v := 0) hx hb dX7_waterFor_25 (by decide) ?_
  refine lv_istore_n (lv' := [(2, .int 0), (0, .ref (gad Γ 483)), (1, .int a)]) hx hb dX7_waterFor_26 rfl hl (by decide) rfl (fun ls hl => ?_)
  refine g_loop (N := 10) (fun k H locs ls => k ≤ kx ∧ GH Γ (mS M (upd A 0 0) T D N (fX7_waterFor_L N a V k) I K B) R O H ∧ va_S (gA Γ) s.heap H locs ∧ lv_has ls 3 [(0, .ref (gad Γ 483)), (1, .int a), (2, .int (nI k))]) ?_ ?_ 0 (Nat.zero_le _) _ _ _ ⟨Nat.zero_le _, hG, hS, lv_sub hl [1, 2, 0] rfl⟩
  · rintro H locs ls ⟨hle_x, hG, hS, hl⟩
    have ex : kx = 10 := Nat.le_antisymm hxN hle_x
    refine lv_iload_n hx hb dX7_waterFor_27 rfl (lv_at hl 2 rfl) ?_
    refine lv_bipush (v := 9) hx hb dX7_waterFor_28 (by decide) ?_
    refine lv_icmp_gt (tgt := 86) hx hb dX7_waterFor_30 (by decide) (fun c_3 => ?_) (fun c_3 => absurd (nI_lt (a := 9) (b := 10) (by decide) (by decide)) c_3)
    refine lv_bipush (v := (-9)) hx hb dX7_waterFor_86 (by decide) ?_
    exact g_iret hx hb hrt hlocks hS hG (by rw [if_neg (by omega)]) (mS_c rfl rfl rfl rfl (by rw [if_neg (by omega)]) rfl rfl rfl) dX7_waterFor_88
  · rintro k hk_k ih_k H locs ls ⟨hle_k, hG, hS, hl⟩
    refine lv_iload_n hx hb dX7_waterFor_27 rfl (lv_at hl 2 rfl) ?_
    refine lv_bipush (v := 9) hx hb dX7_waterFor_28 (by decide) ?_
    refine lv_icmp_gt (tgt := 86) hx hb dX7_waterFor_30 (by decide) (fun c_4 => absurd c_4 (nI_nlt (a := 9) (by omega) (by decide))) (fun c_4 => ?_)
    refine lv_aload_n hx hb dX7_waterFor_33 rfl (lv_at hl 0 rfl) ?_
    refine gM_getr hx hb hts in_X7 hown hK hL hG 5 (by decide) rfl hL.2.2.2.1 k_1 (fun _ h => h) dX7_waterFor_34 ?_
    refine lv_iconst (v := 0) hx hb dX7_waterFor_37 (by decide) ?_
    refine lv_aload_n hx hb dX7_waterFor_38 rfl (lv_at hl 0 rfl) ?_
    refine gM_getr hx hb hts in_X7 hown hK hL hG 6 (by decide) rfl hL.2.2.2.2.1 k_3 (fun _ h => h) dX7_waterFor_39 ?_
    refine lv_iconst (v := 0) hx hb dX7_waterFor_42 (by decide) ?_
    refine g_callS (As := [.ref (gad Γ 486), .int 0, .ref (gad Γ 487), .int 0]) (rest := []) (st1 := []) hF (mX7_copyPage_q (mS M (upd A 0 0) T D N (fX7_waterFor_L N a V k) I K B) R O (hL.1 486 (by decide) (by decide)) (show gC 486 = (9, 27, 0) from rfl) (show gLen 486 = 131 from rfl) (hL.1 487 (by decide) (by decide)) (show gC 487 = (9, 28, 0) from rfl) (show gLen 487 = 131 from rfl) (by decide) 0 0 rfl rfl (by omega) (by omega) (by decide) (by decide) (fX7_waterFor_L N a V k) _ (mS_b27 _ _ _ _ _ _ _ _ _)) (va_cwS 4 hts gX7_waterFor_X7_copyPage rfl rfl rfl (by decide +kernel) ⟨Nat.le_of_ble_eq_true rfl, Nat.le_of_ble_eq_true rfl⟩) hK hZ (g_st (show _ = va_up (mS M (upd A 0 0) T D N (fX7_waterFor_L N a V k) I K B) 28 (fX7_waterFor_L N a V k) from (mS_u28 _ _ _ _ _ _ _ _ _ _).symm) hG) hS rfl hl.1 (Nat.le_of_ble_eq_true rfl) dX7_waterFor_43 ⟨Nat.zero_le _, Nat.zero_le _⟩ rfl rfl (fun H locs hG hS => ?_)
    replace hG : GH Γ (mS M (upd A 0 0) T D N (fX7_copyPage_P N (fX7_waterFor_L N a V k) 0 0) I K B) R O H := g_st (mS_u28 _ _ _ _ _ _ _ _ _ _) hG
    refine lv_aload_n hx hb dX7_waterFor_46 rfl (lv_at hl 0 rfl) ?_
    refine gM_getr hx hb hts in_X7 hown hK hL hG 6 (by decide) rfl hL.2.2.2.2.1 k_3 (fun _ h => h) dX7_waterFor_47 ?_
    refine lv_aload_n hx hb dX7_waterFor_50 rfl (lv_at hl 0 rfl) ?_
    refine gM_getr hx hb hts in_X7 hown hK hL hG 5 (by decide) rfl hL.2.2.2.1 k_1 (fun _ h => h) dX7_waterFor_51 ?_
    refine lv_iload_n hx hb dX7_waterFor_54 rfl (lv_at hl 1 rfl) ?_
    refine g_callS (As := [.int a]) (rest := [.ref (gad Γ 486), .ref (gad Γ 487)]) (st1 := [.int (nI (82 + 5 * a.toNatClampNeg)), .ref (gad Γ 486), .ref (gad Γ 487)]) hF (mX7_houseAt _ R O a.toNatClampNeg ((isPl hN.2.1.1 (by omega) hp).1)) (va_cwS 1 hts gX7_waterFor_X7_houseAt rfl rfl rfl (by decide +kernel) ⟨Nat.le_of_ble_eq_true rfl, Nat.le_of_ble_eq_true rfl⟩) hK hZ hG hS rfl hl.1 (Nat.le_of_ble_eq_true rfl) dX7_waterFor_55 ⟨Nat.zero_le _, Nat.zero_le _⟩ rfl rfl (fun H locs hG hS => ?_)
    refine gm_ald hx hb hK hG (hL.1 486 (by decide) (by decide)) (show gC 486 = (9, 27, 0) from rfl) (show gLen 486 = 131 from rfl) (by decide) (j := 82 + 5 * a.toNatClampNeg) rfl (by omega) (v := N (82 + 5 * a.toNatClampNeg)) (mS_a27 _ _ _ _ _ _ _ _ _ _) dX7_waterFor_58 ?_
    refine lv_iload_n hx hb dX7_waterFor_59 rfl (lv_at hl 2 rfl) ?_
    refine g_callS (As := [.ref (gad Γ 487), .int (N (82 + 5 * a.toNatClampNeg)), .int (nI k)]) (rest := []) (st1 := []) hF (mX7_wet (mS M (upd A 0 0) T D N (fX7_copyPage_P N (fX7_waterFor_L N a V k) 0 0) I K B) R O (hL.1 487 (by decide) (by decide)) (show gC 487 = (9, 28, 0) from rfl) (show gLen 487 = 131 from rfl) (fX7_copyPage_P N (fX7_waterFor_L N a V k) 0 0) ((N (82 + 5 * a.toNatClampNeg)).toNatClampNeg) ((hN.2.2.2.1 a.toNatClampNeg (by omega)).1) (hN.2.2.2.1 a.toNatClampNeg (by omega)).2.1 (nI k) (WS_cp hN)) (va_cwS 3 hts gX7_waterFor_X7_wet rfl rfl rfl (by decide +kernel) ⟨Nat.le_of_ble_eq_true rfl, Nat.le_of_ble_eq_true rfl⟩) hK hZ (g_st (show _ = va_up (mS M (upd A 0 0) T D N (fX7_copyPage_P N (fX7_waterFor_L N a V k) 0 0) I K B) 28 (fX7_copyPage_P N (fX7_waterFor_L N a V k) 0 0) from (mS_u28 _ _ _ _ _ _ _ _ _ _).symm) hG) hS rfl hl.1 (Nat.le_of_ble_eq_true rfl) dX7_waterFor_60 ⟨Nat.zero_le _, Nat.zero_le _⟩ rfl rfl (fun H locs hG hS => ?_)
    replace hG : GH Γ (mS M (upd A 0 0) T D N (fX7_wet_P (fX7_copyPage_P N (fX7_waterFor_L N a V k) 0 0) ((N (82 + 5 * a.toNatClampNeg)).toNatClampNeg) (nI k)) I K B) R O H := g_st (mS_u28 _ _ _ _ _ _ _ _ _ _) hG
    refine lv_aload_n hx hb dX7_waterFor_63 rfl (lv_at hl 0 rfl) ?_
    refine lv_iload_n hx hb dX7_waterFor_64 rfl (lv_at hl 1 rfl) ?_
    refine g_callV (As := [.int a]) (rest := []) (st1 := [.int (fX7_hourOn_P (fX7_wet_P (fX7_copyPage_P N (fX7_waterFor_L N a V k) 0 0) ((N (82 + 5 * a.toNatClampNeg)).toNatClampNeg) (nI k)) (82 + 5 * a.toNatClampNeg + 4))]) hF (mX7_nextFor M R O hL (upd A 0 0) T D N (fX7_wet_P (fX7_copyPage_P N (fX7_waterFor_L N a V k) 0 0) ((N (82 + 5 * a.toNatClampNeg)).toNatClampNeg) (nI k)) I K B a.toNatClampNeg (isPl hN.2.1.1 (by omega) hp).1 (by omega) (WS_wet (by omega) (WS_cp hN))) (cwV 1 hts gX7_waterFor_X7_nextFor rfl rfl rfl (by decide +kernel) ⟨Nat.le_of_ble_eq_true rfl, Nat.le_of_ble_eq_true rfl⟩) hK hZ hG hS (hL.1 483 (by decide) (by decide)) (show gC 483 = (7, 24, 0) from rfl) (by decide) rfl rfl hl.1 (Nat.le_of_ble_eq_true rfl) dX7_waterFor_65 ⟨Nat.zero_le _, Nat.zero_le _⟩ rfl rfl (fun H locs hG hS => ?_)
    replace hG : GH Γ (mS M (upd A 0 0) T D N (fX7_hourOn_P (fX7_wet_P (fX7_copyPage_P N (fX7_waterFor_L N a V k) 0 0) ((N (82 + 5 * a.toNatClampNeg)).toNatClampNeg) (nI k))) I K B) R O H := hG
    refine lv_aload_n hx hb dX7_waterFor_68 rfl (lv_at hl 0 rfl) ?_
    refine gM_getr hx hb hts in_X7 hown hK hL hG 5 (by decide) rfl hL.2.2.2.1 k_1 (fun _ h => h) dX7_waterFor_69 ?_
    refine lv_bipush (v := 7) hx hb dX7_waterFor_72 (by decide) ?_
    refine gm_ald hx hb hK hG (hL.1 486 (by decide) (by decide)) (show gC 486 = (9, 27, 0) from rfl) (show gLen 486 = 131 from rfl) (by decide) (j := 7) rfl (by omega) (v := N 7) (mS_a27 _ _ _ _ _ _ _ _ _ _) dX7_waterFor_74 ?_
    refine lv_icmp_ge (tgt := 80) hx hb dX7_waterFor_75 (by decide) (fun c_5 => ?_) (fun c_5 => ?_)
    · --T
      refine lv_iinc (v := nI (k + 1)) (lv' := [(2, .int (nI (k + 1))), (0, .ref (gad Γ 483)), (1, .int a)]) hx hb dX7_waterFor_80 hl (k := 2) rfl (nI_1 _) (by decide) rfl (fun ls hl => ?_)
      refine lv_goto (tgt := 27) hx hb dX7_waterFor_83 (by decide) ?_
      exact ih_k _ _ _ ⟨Nat.lt_of_le_of_ne hle_k (fun e => by subst e; exact (hyes hk_k) c_5), hG, hS, lv_sub hl [1, 2, 0] rfl⟩
    · --F
      have ex : k = kx := Nat.le_antisymm hle_k (Nat.le_of_not_lt (fun q => hno _ q c_5))
      subst ex
      refine lv_iload_n hx hb dX7_waterFor_78 rfl (lv_at hl 2 rfl) ?_
      exact g_iret hx hb hrt hlocks hS hG (by rw [if_pos hk_k]) (mS_c rfl rfl rfl rfl (by rw [if_pos hk_k] <;> rfl) rfl rfl rfl) dX7_waterFor_79

