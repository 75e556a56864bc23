/-! THE REFERENCE: searches. Laid by gen/p11.py. -/
theorem dec_pl {l0 k : Nat} (h : k < l0) : nI (l0 - k) + (-1) = nI (l0 - (k + 1)) := by
  rw [show l0 - k = (l0 - (k + 1)) + 1 by omega]
  exact pk_m1 _
set_option maxHeartbeats 4000000 in
set_option maxRecDepth 100000 in
theorem mX7_limitFor_n1 {l : Launch} {Γ : gX} (M : Nat → Nat → Int32) (R : Nat → Nat → Option Nat) (O : Int64) (hL : LM Γ R) (A T D N V I K B : Nat → Int32) (a : Int32) (hp : fX7_isHouse_v N a = 0) : gMet l Γ yX7_limitFor wsX7_limitFor 2 46 [.ref (gad Γ 483), .int a] (mS M A T D N V I K B) R O (some (.int 0)) (mS M (upd A 0 1) T D N V I K B) R O := by
  refine g_start (cc := cX7_limitFor) (maxL := 4) (ret := (some .int)) (by decide) rfl (Nat.le_of_ble_eq_true rfl) ?_
  intro p e s m below meth c ls hx hb hml hrt hts hown hlocks hname hK hZ hG hS hl
  have hl : lv_has ls 4 [(0, .ref (gad Γ 483)), (1, .int a)] := hl
  have hown : s.vm.findClass RX7 = some m.cls := hown
  have hF : CallFix p m c cX7_limitFor 4 s _ wsX7_limitFor RX7 := ⟨hx, hb, hml, hown, hts⟩
  have k_1 : (Cond.fieldLink RX7 16 "RoadDustModel" "now" "[I").before _ s = true := hts _ (by decide +kernel)
  have in_X7 : ∀ w ∈ wsX70, w ∈ wsX7_limitFor := by decide +kernel
  refine lv_aload_n hx hb dX7_limitFor_0 rfl (lv_at hl 0 rfl) ?_
  refine lv_aload_n hx hb dX7_limitFor_1 rfl (lv_at hl 0 rfl) ?_
  refine gM_getr hx hb hts in_X7 hown hK hL hG 5 (by decide) rfl hL.2.2.2.1 k_1 (fun _ h => h) dX7_limitFor_2 ?_
  refine lv_iload_n hx hb dX7_limitFor_5 rfl (lv_at hl 1 rfl) ?_
  refine g_callS (As := [.ref (gad Γ 486), .int a]) (rest := [.ref (gad Γ 483)]) (st1 := [.int (fX7_isHouse_v N a), .ref (gad Γ 483)]) hF (mX7_isHouse (mS M A T D N V I K B) R O (hL.1 486 (by decide) (by decide)) (show gC 486 = (9, 27, 0) from rfl) (show gLen 486 = 131 from rfl) N a) (va_cwS 2 hts gX7_limitFor_X7_isHouse rfl rfl rfl (by decide +kernel) ⟨Nat.le_of_ble_eq_true rfl, Nat.le_of_ble_eq_true rfl⟩) hK hZ (g_st (show _ = va_up (mS M A T D N V I K B) 27 N from (mS_u27 _ _ _ _ _ _ _ _ _ _).symm) hG) hS rfl hl.1 (Nat.le_of_ble_eq_true rfl) dX7_limitFor_6 ⟨Nat.zero_le _, Nat.zero_le _⟩ rfl rfl (fun H locs hG hS => ?_)
  replace hG : GH Γ (mS M A T D N V I K B) R O H := g_st (mS_u27 _ _ _ _ _ _ _ _ _ _) hG
  refine lv_if_eq (tgt := 16) hx hb dX7_limitFor_9 (by decide) (fun c_1 => ?_) (fun c_1 => absurd hp c_1)
  refine lv_iconst (v := 1) hx hb dX7_limitFor_16 (by decide) ?_
  refine g_callV (As := [.int 1]) (rest := []) (st1 := [.int 1]) hF (mX7_refused_l M R O hL A T D N V I K B 1 1 (by decide)) (cwV 1 hts gX7_limitFor_X7_refused rfl rfl rfl (by decide +kernel) ⟨Nat.le_of_ble_eq_true rfl, Nat.le_of_ble_eq_true rfl⟩) hK hZ hG hS (hL.1 483 (by decide) (by decide)) (show gC 483 = (7, 24, 0) from rfl) (by decide) rfl rfl hl.1 (Nat.le_of_ble_eq_true rfl) dX7_limitFor_17 ⟨Nat.zero_le _, Nat.zero_le _⟩ rfl rfl (fun H locs hG hS => ?_)
  refine lv_if_eq (tgt := 25) hx hb dX7_limitFor_20 (by decide) (fun c_2 => absurd c_2 (by decide)) (fun c_2 => ?_)
  refine lv_iconst (v := 0) hx hb dX7_limitFor_23 (by decide) ?_
  exact g_iret hx hb hrt hlocks hS hG rfl rfl dX7_limitFor_24

def fX7_limitFor_S (N : Nat → Int32) (a : Int32) (l0 : Nat) (Pk : Nat → Int32) (k : Nat) : Nat → Int32 := fX7_hourOn_P (upd (fX7_copyPage_P N Pk 0 0) ((12 + 7 * (N (82 + 5 * a.toNatClampNeg)).toNatClampNeg) + 1) (nI (l0 - k)))
def fX7_limitFor_L (N : Nat → Int32) (a : Int32) (l0 : Nat) (P : Nat → Int32) : Nat → Nat → Int32
  | 0 => P
  | k + 1 => fX7_limitFor_S N a l0 (fX7_limitFor_L N a l0 P k) k
def fX7_limitFor_C (N : Nat → Int32) (a : Int32) (l0 : Nat) (Pk : Nat → Int32) (k : Nat) : Prop := ¬ (N 7) ≤ (fX7_hourOn_P (upd (fX7_copyPage_P N Pk 0 0) ((12 + 7 * (N (82 + 5 * a.toNatClampNeg)).toNatClampNeg) + 1) (nI (l0 - k))) (82 + 5 * a.toNatClampNeg + 4))
set_option maxHeartbeats 4000000 in
set_option maxRecDepth 100000 in
theorem mX7_limitFor_y {l : Launch} {Γ : gX} (M : Nat → Nat → Int32) (R : Nat → Nat → Option Nat) (O : Int64) (hL : LM Γ R) (A T D N V I K B : Nat → Int32) (a : Int32) (hN : WS N) (l0 : Nat) (hl5 : l0 ≤ 5) (hl0 : 5 - N (12 + 7 * (N (82 + 5 * a.toNatClampNeg)).toNatClampNeg + 2) = nI l0) (hp : ¬ fX7_isHouse_v N a = 0) (kx : Nat) (hxN : kx ≤ l0) (hno : ∀ j, j < kx → ¬ fX7_limitFor_C N a l0 (fX7_limitFor_L N a l0 V j) j) (hyes : kx < l0 → fX7_limitFor_C N a l0 (fX7_limitFor_L N a l0 V kx) kx) : gMet l Γ yX7_limitFor wsX7_limitFor 6 132 [.ref (gad Γ 483), .int a] (mS M A T D N V I K B) R O (some (.int (if kx < l0 then nI (l0 - kx) else -9))) (mS M (upd A 0 0) T D N (fX7_limitFor_L N a l0 V (if kx < l0 then kx + 1 else l0)) I K B) R O := by
  refine g_start (cc := cX7_limitFor) (maxL := 4) (ret := (some .int)) (by decide) rfl (Nat.le_of_ble_eq_true rfl) ?_
  intro p e s m below meth c ls hx hb hml hrt hts hown hlocks hname hK hZ hG hS hl
  have hl : lv_has ls 4 [(0, .ref (gad Γ 483)), (1, .int a)] := hl
  have hown : s.vm.findClass RX7 = some m.cls := hown
  have hF : CallFix p m c cX7_limitFor 4 s _ wsX7_limitFor RX7 := ⟨hx, hb, hml, hown, hts⟩
  have k_1 : (Cond.fieldLink RX7 16 "RoadDustModel" "now" "[I").before _ s = true := hts _ (by decide +kernel)
  have in_X7 : ∀ w ∈ wsX70, w ∈ wsX7_limitFor := by decide +kernel
  have k_3 : (Cond.fieldLink RX7 19 "RoadDustModel" "trial" "[I").before _ s = true := hts _ (by decide +kernel)
  have n0 := hN.1.2
  have n1 := hN.2.1.2
  have n2 := hN.2.2.1.2
  have q_1 := (isPl hN.2.1.1 (by omega) hp).2
  have q_2 := (hN.2.2.2.1 a.toNatClampNeg (by omega)).2.1
  refine lv_aload_n hx hb dX7_limitFor_0 rfl (lv_at hl 0 rfl) ?_
  refine lv_aload_n hx hb dX7_limitFor_1 rfl (lv_at hl 0 rfl) ?_
  refine gM_getr hx hb hts in_X7 hown hK hL hG 5 (by decide) rfl hL.2.2.2.1 k_1 (fun _ h => h) dX7_limitFor_2 ?_
  refine lv_iload_n hx hb dX7_limitFor_5 rfl (lv_at hl 1 rfl) ?_
  refine g_callS (As := [.ref (gad Γ 486), .int a]) (rest := [.ref (gad Γ 483)]) (st1 := [.int (fX7_isHouse_v N a), .ref (gad Γ 483)]) hF (mX7_isHouse (mS M A T D N V I K B) R O (hL.1 486 (by decide) (by decide)) (show gC 486 = (9, 27, 0) from rfl) (show gLen 486 = 131 from rfl) N a) (va_cwS 2 hts gX7_limitFor_X7_isHouse rfl rfl rfl (by decide +kernel) ⟨Nat.le_of_ble_eq_true rfl, Nat.le_of_ble_eq_true rfl⟩) hK hZ (g_st (show _ = va_up (mS M A T D N V I K B) 27 N from (mS_u27 _ _ _ _ _ _ _ _ _ _).symm) hG) hS rfl hl.1 (Nat.le_of_ble_eq_true rfl) dX7_limitFor_6 ⟨Nat.zero_le _, Nat.zero_le _⟩ rfl rfl (fun H locs hG hS => ?_)
  replace hG : GH Γ (mS M A T D N V I K B) R O H := g_st (mS_u27 _ _ _ _ _ _ _ _ _ _) hG
  refine lv_if_eq (tgt := 16) hx hb dX7_limitFor_9 (by decide) (fun c_1 => absurd c_1 hp) (fun c_1 => ?_)
  refine lv_iconst (v := 0) hx hb dX7_limitFor_12 (by decide) ?_
  refine lv_goto (tgt := 17) hx hb dX7_limitFor_13 (by decide) ?_
  refine g_callV (As := [.int 0]) (rest := []) (st1 := [.int 0]) hF (mX7_refused_l M R O hL A T D N V I K B 0 0 (by decide)) (cwV 1 hts gX7_limitFor_X7_refused rfl rfl rfl (by decide +kernel) ⟨Nat.le_of_ble_eq_true rfl, Nat.le_of_ble_eq_true rfl⟩) hK hZ hG hS (hL.1 483 (by decide) (by decide)) (show gC 483 = (7, 24, 0) from rfl) (by decide) rfl rfl hl.1 (Nat.le_of_ble_eq_true rfl) dX7_limitFor_17 ⟨Nat.zero_le _, Nat.zero_le _⟩ rfl rfl (fun H locs hG hS => ?_)
  refine lv_if_eq (tgt := 25) hx hb dX7_limitFor_20 (by decide) (fun c_2 => ?_) (fun c_2 => absurd (by decide) c_2)
  refine lv_aload_n hx hb dX7_limitFor_25 rfl (lv_at hl 0 rfl) ?_
  refine gM_getr hx hb hts in_X7 hown hK hL hG 5 (by decide) rfl hL.2.2.2.1 k_1 (fun _ h => h) dX7_limitFor_26 ?_
  refine lv_iload_n hx hb dX7_limitFor_29 rfl (lv_at hl 1 rfl) ?_
  refine g_callS (As := [.int a]) (rest := [.ref (gad Γ 486)]) (st1 := [.int (nI (82 + 5 * a.toNatClampNeg)), .ref (gad Γ 486)]) hF (mX7_houseAt _ R O a.toNatClampNeg ((isPl hN.2.1.1 (by omega) hp).1)) (va_cwS 1 hts gX7_limitFor_X7_houseAt rfl rfl rfl (by decide +kernel) ⟨Nat.le_of_ble_eq_true rfl, Nat.le_of_ble_eq_true rfl⟩) hK hZ hG hS rfl hl.1 (Nat.le_of_ble_eq_true rfl) dX7_limitFor_30 ⟨Nat.zero_le _, Nat.zero_le _⟩ rfl rfl (fun H locs hG hS => ?_)
  refine gm_ald hx hb hK hG (hL.1 486 (by decide) (by decide)) (show gC 486 = (9, 27, 0) from rfl) (show gLen 486 = 131 from rfl) (by decide) (j := 82 + 5 * a.toNatClampNeg) rfl (by omega) (v := N (82 + 5 * a.toNatClampNeg)) (mS_a27 _ _ _ _ _ _ _ _ _ _) dX7_limitFor_33 ?_
  refine g_callS (As := [.int (N (82 + 5 * a.toNatClampNeg))]) (rest := []) (st1 := [.int (nI (12 + 7 * ((N (82 + 5 * a.toNatClampNeg)).toNatClampNeg)))]) hF (mX7_segmentAt _ R O ((N (82 + 5 * a.toNatClampNeg)).toNatClampNeg) ((hN.2.2.2.1 a.toNatClampNeg (by omega)).1)) (va_cwS 1 hts gX7_limitFor_X7_segmentAt rfl rfl rfl (by decide +kernel) ⟨Nat.le_of_ble_eq_true rfl, Nat.le_of_ble_eq_true rfl⟩) hK hZ hG hS rfl hl.1 (Nat.le_of_ble_eq_true rfl) dX7_limitFor_34 ⟨Nat.zero_le _, Nat.zero_le _⟩ rfl rfl (fun H locs hG hS => ?_)
  refine lv_istore_n (lv' := [(2, .int (nI (12 + 7 * ((N (82 + 5 * a.toNatClampNeg)).toNatClampNeg)))), (0, .ref (gad Γ 483)), (1, .int a)]) hx hb dX7_limitFor_37 rfl hl (by decide) rfl (fun ls hl => ?_)
  refine lv_iconst (v := 5) hx hb dX7_limitFor_38 (by decide) ?_
  refine lv_aload_n hx hb dX7_limitFor_39 rfl (lv_at hl 1 rfl) ?_
  refine gM_getr hx hb hts in_X7 hown hK hL hG 5 (by decide) rfl hL.2.2.2.1 k_1 (fun _ h => h) dX7_limitFor_40 ?_
  refine lv_iload_n hx hb dX7_limitFor_43 rfl (lv_at hl 0 rfl) ?_
  refine lv_iconst (v := 2) hx hb dX7_limitFor_44 (by decide) ?_
  refine lv_iadd hx hb dX7_limitFor_45 ?_
  refine g_top (show _ = nI ((12 + 7 * ((N (82 + 5 * a.toNatClampNeg)).toNatClampNeg)) + 2) from nI_add _ _) ?_
  refine gm_ald hx hb hK hG (hL.1 486 (by decide) (by decide)) (show gC 486 = (9, 27, 0) from rfl) (show gLen 486 = 131 from rfl) (by decide) (j := (12 + 7 * ((N (82 + 5 * a.toNatClampNeg)).toNatClampNeg)) + 2) rfl (by omega) (v := N ((12 + 7 * ((N (82 + 5 * a.toNatClampNeg)).toNatClampNeg)) + 2)) (mS_a27 _ _ _ _ _ _ _ _ _ _) dX7_limitFor_46 ?_
  refine lv_isub hx hb dX7_limitFor_47 ?_
  refine g_top (show _ = nI (l0 - 0) from hl0) ?_
  refine lv_istore_n (lv' := [(3, .int (nI (l0 - 0))), (2, .int (nI (12 + 7 * ((N (82 + 5 * a.toNatClampNeg)).toNatClampNeg)))), (0, .ref (gad Γ 483)), (1, .int a)]) hx hb dX7_limitFor_48 rfl hl (by decide) rfl (fun ls hl => ?_)
  refine g_loop (N := l0) (fun k H locs ls => k ≤ kx ∧ GH Γ (mS M (upd A 0 0) T D N (fX7_limitFor_L N a l0 V k) I K B) R O H ∧ va_S (gA Γ) s.heap H locs ∧ lv_has ls 4 [(0, .ref (gad Γ 483)), (1, .int a), (2, .int (nI (12 + 7 * (N (82 + 5 * a.toNatClampNeg)).toNatClampNeg))), (3, .int (nI (l0 - k)))]) ?_ ?_ 0 (Nat.zero_le _) _ _ _ ⟨Nat.zero_le _, hG, hS, lv_sub hl [2, 3, 1, 0] rfl⟩
  · rintro H locs ls ⟨hle_x, hG, hS, hl⟩
    have ex : kx = l0 := Nat.le_antisymm hxN hle_x
    refine lv_iload_n hx hb dX7_limitFor_49 rfl (lv_at hl 3 rfl) ?_
    refine lv_iconst (v := 1) hx hb dX7_limitFor_50 (by decide) ?_
    refine lv_icmp_lt (tgt := 99) hx hb dX7_limitFor_51 (by decide) (fun c_3 => ?_) (fun c_3 => absurd (by rw [Nat.sub_self]; decide) c_3)
    refine lv_bipush (v := (-9)) hx hb dX7_limitFor_99 (by decide) ?_
    exact g_iret hx hb hrt hlocks hS hG (by rw [if_neg (by omega)]) (mS_c rfl rfl rfl rfl (by rw [if_neg (by omega)]) rfl rfl rfl) dX7_limitFor_101
  · rintro k hk_k ih_k H locs ls ⟨hle_k, hG, hS, hl⟩
    refine lv_iload_n hx hb dX7_limitFor_49 rfl (lv_at hl 3 rfl) ?_
    refine lv_iconst (v := 1) hx hb dX7_limitFor_50 (by decide) ?_
    refine lv_icmp_lt (tgt := 99) hx hb dX7_limitFor_51 (by decide) (fun c_4 => absurd c_4 (nI_nlt (b := 1) (by omega) (by omega))) (fun c_4 => ?_)
    refine lv_aload_n hx hb dX7_limitFor_54 rfl (lv_at hl 0 rfl) ?_
    refine gM_getr hx hb hts in_X7 hown hK hL hG 5 (by decide) rfl hL.2.2.2.1 k_1 (fun _ h => h) dX7_limitFor_55 ?_
    refine lv_iconst (v := 0) hx hb dX7_limitFor_58 (by decide) ?_
    refine lv_aload_n hx hb dX7_limitFor_59 rfl (lv_at hl 0 rfl) ?_
    refine gM_getr hx hb hts in_X7 hown hK hL hG 6 (by decide) rfl hL.2.2.2.2.1 k_3 (fun _ h => h) dX7_limitFor_60 ?_
    refine lv_iconst (v := 0) hx hb dX7_limitFor_63 (by decide) ?_
    refine g_callS (As := [.ref (gad Γ 486), .int 0, .ref (gad Γ 487), .int 0]) (rest := []) (st1 := []) hF (mX7_copyPage_q (mS M (upd A 0 0) T D N (fX7_limitFor_L N a l0 V k) I K B) R O (hL.1 486 (by decide) (by decide)) (show gC 486 = (9, 27, 0) from rfl) (show gLen 486 = 131 from rfl) (hL.1 487 (by decide) (by decide)) (show gC 487 = (9, 28, 0) from rfl) (show gLen 487 = 131 from rfl) (by decide) 0 0 rfl rfl (by omega) (by omega) (by decide) (by decide) (fX7_limitFor_L N a l0 V k) _ (mS_b27 _ _ _ _ _ _ _ _ _)) (va_cwS 4 hts gX7_limitFor_X7_copyPage rfl rfl rfl (by decide +kernel) ⟨Nat.le_of_ble_eq_true rfl, Nat.le_of_ble_eq_true rfl⟩) hK hZ (g_st (show _ = va_up (mS M (upd A 0 0) T D N (fX7_limitFor_L N a l0 V k) I K B) 28 (fX7_limitFor_L N a l0 V k) from (mS_u28 _ _ _ _ _ _ _ _ _ _).symm) hG) hS rfl hl.1 (Nat.le_of_ble_eq_true rfl) dX7_limitFor_64 ⟨Nat.zero_le _, Nat.zero_le _⟩ rfl rfl (fun H locs hG hS => ?_)
    replace hG : GH Γ (mS M (upd A 0 0) T D N (fX7_copyPage_P N (fX7_limitFor_L N a l0 V k) 0 0) I K B) R O H := g_st (mS_u28 _ _ _ _ _ _ _ _ _ _) hG
    refine lv_aload_n hx hb dX7_limitFor_67 rfl (lv_at hl 0 rfl) ?_
    refine gM_getr hx hb hts in_X7 hown hK hL hG 6 (by decide) rfl hL.2.2.2.2.1 k_3 (fun _ h => h) dX7_limitFor_68 ?_
    refine lv_iload_n hx hb dX7_limitFor_71 rfl (lv_at hl 2 rfl) ?_
    refine lv_iconst (v := 1) hx hb dX7_limitFor_72 (by decide) ?_
    refine lv_iadd hx hb dX7_limitFor_73 ?_
    refine g_top (show _ = nI ((12 + 7 * (N (82 + 5 * a.toNatClampNeg)).toNatClampNeg) + 1) from nI_add _ _) ?_
    refine lv_iload_n hx hb dX7_limitFor_74 rfl (lv_at hl 3 rfl) ?_
    refine gm_ast (M2 := mS M (upd A 0 0) T D N (upd (fX7_copyPage_P N (fX7_limitFor_L N a l0 V k) 0 0) ((12 + 7 * (N (82 + 5 * a.toNatClampNeg)).toNatClampNeg) + 1) (nI (l0 - k))) I K B) hx hb hK hG hS (hL.1 487 (by decide) (by decide)) (show gC 487 = (9, 28, 0) from rfl) (show gLen 487 = 131 from rfl) (by decide) (j := (12 + 7 * (N (82 + 5 * a.toNatClampNeg)).toNatClampNeg) + 1) rfl (by omega) (mS_p28 _ _ _ _ _ _ _ _ _ _ _) dX7_limitFor_75 (fun H locs hG hS => ?_)
    refine lv_aload_n hx hb dX7_limitFor_76 rfl (lv_at hl 0 rfl) ?_
    refine lv_iload_n hx hb dX7_limitFor_77 rfl (lv_at hl 1 rfl) ?_
    refine g_callV (As := [.int a]) (rest := []) (st1 := [.int (fX7_hourOn_P (upd (fX7_copyPage_P N (fX7_limitFor_L N a l0 V k) 0 0) ((12 + 7 * (N (82 + 5 * a.toNatClampNeg)).toNatClampNeg) + 1) (nI (l0 - k))) (82 + 5 * a.toNatClampNeg + 4))]) hF (mX7_nextFor M R O hL (upd A 0 0) T D N (upd (fX7_copyPage_P N (fX7_limitFor_L N a l0 V k) 0 0) ((12 + 7 * (N (82 + 5 * a.toNatClampNeg)).toNatClampNeg) + 1) (nI (l0 - k))) I K B a.toNatClampNeg (isPl hN.2.1.1 (by omega) hp).1 (by omega) (WS.up (by unfold kw; omega) (WS_cp hN))) (cwV 1 hts gX7_limitFor_X7_nextFor rfl rfl rfl (by decide +kernel) ⟨Nat.le_of_ble_eq_true rfl, Nat.le_of_ble_eq_true rfl⟩) hK hZ hG hS (hL.1 483 (by decide) (by decide)) (show gC 483 = (7, 24, 0) from rfl) (by decide) rfl rfl hl.1 (Nat.le_of_ble_eq_true rfl) dX7_limitFor_78 ⟨Nat.zero_le _, Nat.zero_le _⟩ rfl rfl (fun H locs hG hS => ?_)
    replace hG : GH Γ (mS M (upd A 0 0) T D N (fX7_hourOn_P (upd (fX7_copyPage_P N (fX7_limitFor_L N a l0 V k) 0 0) ((12 + 7 * (N (82 + 5 * a.toNatClampNeg)).toNatClampNeg) + 1) (nI (l0 - k)))) I K B) R O H := hG
    refine lv_aload_n hx hb dX7_limitFor_81 rfl (lv_at hl 0 rfl) ?_
    refine gM_getr hx hb hts in_X7 hown hK hL hG 5 (by decide) rfl hL.2.2.2.1 k_1 (fun _ h => h) dX7_limitFor_82 ?_
    refine lv_bipush (v := 7) hx hb dX7_limitFor_85 (by decide) ?_
    refine gm_ald hx hb hK hG (hL.1 486 (by decide) (by decide)) (show gC 486 = (9, 27, 0) from rfl) (show gLen 486 = 131 from rfl) (by decide) (j := 7) rfl (by omega) (v := N 7) (mS_a27 _ _ _ _ _ _ _ _ _ _) dX7_limitFor_87 ?_
    refine lv_icmp_ge (tgt := 93) hx hb dX7_limitFor_88 (by decide) (fun c_5 => ?_) (fun c_5 => ?_)
    · --T
      refine lv_iinc (v := nI (l0 - (k + 1))) (lv' := [(3, .int (nI (l0 - (k + 1)))), (0, .ref (gad Γ 483)), (1, .int a), (2, .int (nI (12 + 7 * (N (82 + 5 * a.toNatClampNeg)).toNatClampNeg)))]) hx hb dX7_limitFor_93 hl (k := 3) rfl (dec_pl hk_k) (by decide) rfl (fun ls hl => ?_)
      refine lv_goto (tgt := 49) hx hb dX7_limitFor_96 (by decide) ?_
      exact ih_k _ _ _ ⟨Nat.lt_of_le_of_ne hle_k (fun e => by subst e; exact (hyes hk_k) c_5), hG, hS, lv_sub hl [1, 2, 3, 0] rfl⟩
    · --F
      have ex : k = kx := Nat.le_antisymm hle_k (Nat.le_of_not_lt (fun q => hno _ q c_5))
      subst ex
      refine lv_iload_n hx hb dX7_limitFor_91 rfl (lv_at hl 3 rfl) ?_
      exact g_iret hx hb hrt hlocks hS hG (by rw [if_pos hk_k]) (mS_c rfl rfl rfl rfl (by rw [if_pos hk_k] <;> rfl) rfl rfl rfl) dX7_limitFor_92

set_option maxHeartbeats 4000000 in
set_option maxRecDepth 100000 in
theorem mX7_complainsIn_n1 {l : Launch} {Γ : gX} (M : Nat → Nat → Int32) (R : Nat → Nat → Option Nat) (O : Int64) (hL : LM Γ R) (A T D N V I K B : Nat → Int32) (a : Int32) (hp : fX7_isHouse_v N a = 0) : gMet l Γ yX7_complainsIn wsX7_complainsIn 2 46 [.ref (gad Γ 483), .int a] (mS M A T D N V I K B) R O (some (.int 0)) (mS M (upd A 0 1) T D N V I K B) R O := by
  refine g_start (cc := cX7_complainsIn) (maxL := 3) (ret := (some .int)) (by decide) rfl (Nat.le_of_ble_eq_true rfl) ?_
  intro p e s m below meth c ls hx hb hml hrt hts hown hlocks hname hK hZ hG hS hl
  have hl : lv_has ls 3 [(0, .ref (gad Γ 483)), (1, .int a)] := hl
  have hown : s.vm.findClass RX7 = some m.cls := hown
  have hF : CallFix p m c cX7_complainsIn 3 s _ wsX7_complainsIn RX7 := ⟨hx, hb, hml, hown, hts⟩
  have k_1 : (Cond.fieldLink RX7 16 "RoadDustModel" "now" "[I").before _ s = true := hts _ (by decide +kernel)
  have in_X7 : ∀ w ∈ wsX70, w ∈ wsX7_complainsIn := by decide +kernel
  refine lv_aload_n hx hb dX7_complainsIn_0 rfl (lv_at hl 0 rfl) ?_
  refine lv_aload_n hx hb dX7_complainsIn_1 rfl (lv_at hl 0 rfl) ?_
  refine gM_getr hx hb hts in_X7 hown hK hL hG 5 (by decide) rfl hL.2.2.2.1 k_1 (fun _ h => h) dX7_complainsIn_2 ?_
  refine lv_iload_n hx hb dX7_complainsIn_5 rfl (lv_at hl 1 rfl) ?_
  refine g_callS (As := [.ref (gad Γ 486), .int a]) (rest := [.ref (gad Γ 483)]) (st1 := [.int (fX7_isHouse_v N a), .ref (gad Γ 483)]) hF (mX7_isHouse (mS M A T D N V I K B) R O (hL.1 486 (by decide) (by decide)) (show gC 486 = (9, 27, 0) from rfl) (show gLen 486 = 131 from rfl) N a) (va_cwS 2 hts gX7_complainsIn_X7_isHouse rfl rfl rfl (by decide +kernel) ⟨Nat.le_of_ble_eq_true rfl, Nat.le_of_ble_eq_true rfl⟩) hK hZ (g_st (show _ = va_up (mS M A T D N V I K B) 27 N from (mS_u27 _ _ _ _ _ _ _ _ _ _).symm) hG) hS rfl hl.1 (Nat.le_of_ble_eq_true rfl) dX7_complainsIn_6 ⟨Nat.zero_le _, Nat.zero_le _⟩ rfl rfl (fun H locs hG hS => ?_)
  replace hG : GH Γ (mS M A T D N V I K B) R O H := g_st (mS_u27 _ _ _ _ _ _ _ _ _ _) hG
  refine lv_if_eq (tgt := 16) hx hb dX7_complainsIn_9 (by decide) (fun c_1 => ?_) (fun c_1 => absurd hp c_1)
  refine lv_iconst (v := 1) hx hb dX7_complainsIn_16 (by decide) ?_
  refine g_callV (As := [.int 1]) (rest := []) (st1 := [.int 1]) hF (mX7_refused_l M R O hL A T D N V I K B 1 1 (by decide)) (cwV 1 hts gX7_complainsIn_X7_refused rfl rfl rfl (by decide +kernel) ⟨Nat.le_of_ble_eq_true rfl, Nat.le_of_ble_eq_true rfl⟩) hK hZ hG hS (hL.1 483 (by decide) (by decide)) (show gC 483 = (7, 24, 0) from rfl) (by decide) rfl rfl hl.1 (Nat.le_of_ble_eq_true rfl) dX7_complainsIn_17 ⟨Nat.zero_le _, Nat.zero_le _⟩ rfl rfl (fun H locs hG hS => ?_)
  refine lv_if_eq (tgt := 25) hx hb dX7_complainsIn_20 (by decide) (fun c_2 => absurd c_2 (by decide)) (fun c_2 => ?_)
  refine lv_iconst (v := 0) hx hb dX7_complainsIn_23 (by decide) ?_
  exact g_iret hx hb hrt hlocks hS hG rfl rfl dX7_complainsIn_24

def fX7_complainsIn_S (N : Nat → Int32) (a : Int32) (Pk : Nat → Int32) (k : Nat) : Nat → Int32 := fX7_hourOn_P Pk
def fX7_complainsIn_L (N : Nat → Int32) (a : Int32) (P : Nat → Int32) : Nat → Nat → Int32
  | 0 => P
  | k + 1 => fX7_complainsIn_S N a (fX7_complainsIn_L N a P k) k
def fX7_complainsIn_C (N : Nat → Int32) (a : Int32) (Pk : Nat → Int32) (k : Nat) : Prop := ¬ (fX7_hourOn_P Pk (82 + 5 * a.toNatClampNeg + 4)) < (N 7)
theorem fX7_complainsIn_WS {P : Nat → Int32} (a : Int32) (N : Nat → Int32) (hW : WS P) : ∀ k, WS (fX7_complainsIn_L N a P k)
  | 0 => hW
  | k + 1 => by
    have h := fX7_complainsIn_WS a N hW k
    show WS (fX7_complainsIn_S N a (fX7_complainsIn_L N a P k) k)
    unfold fX7_complainsIn_S
    exact fX7_hourOn_kw h
set_option maxHeartbeats 4000000 in
set_option maxRecDepth 100000 in
theorem mX7_complainsIn_y {l : Launch} {Γ : gX} (M : Nat → Nat → Int32) (R : Nat → Nat → Option Nat) (O : Int64) (hL : LM Γ R) (A T D N V I K B : Nat → Int32) (a : Int32) (hN : WS N) (hp : ¬ fX7_isHouse_v N a = 0) (kx : Nat) (hxN : kx ≤ 50) (hno : ∀ j, j < kx → ¬ fX7_complainsIn_C N a (fX7_complainsIn_L N a (fX7_copyPage_P N V 0 0) j) j) (hyes : kx < 50 → fX7_complainsIn_C N a (fX7_complainsIn_L N a (fX7_copyPage_P N V 0 0) kx) kx) : gMet l Γ yX7_complainsIn wsX7_complainsIn 6 132 [.ref (gad Γ 483), .int a] (mS M A T D N V I K B) R O (some (.int (if kx < 50 then nI (kx + 1) else -9))) (mS M (upd A 0 0) T D N (fX7_complainsIn_L N a (fX7_copyPage_P N V 0 0) (if kx < 50 then kx + 1 else 50)) I K B) R O := by
  refine g_start (cc := cX7_complainsIn) (maxL := 3) (ret := (some .int)) (by decide) rfl (Nat.le_of_ble_eq_true rfl) ?_
  intro p e s m below meth c ls hx hb hml hrt hts hown hlocks hname hK hZ hG hS hl
  have hl : lv_has ls 3 [(0, .ref (gad Γ 483)), (1, .int a)] := hl
  have hown : s.vm.findClass RX7 = some m.cls := hown
  have hF : CallFix p m c cX7_complainsIn 3 s _ wsX7_complainsIn RX7 := ⟨hx, hb, hml, hown, hts⟩
  have k_1 : (Cond.fieldLink RX7 16 "RoadDustModel" "now" "[I").before _ s = true := hts _ (by decide +kernel)
  have in_X7 : ∀ w ∈ wsX70, w ∈ wsX7_complainsIn := by decide +kernel
  have k_3 : (Cond.fieldLink RX7 19 "RoadDustModel" "trial" "[I").before _ s = true := hts _ (by decide +kernel)
  have n0 := hN.1.2
  have n1 := hN.2.1.2
  have n2 := hN.2.2.1.2
  have q_1 := (isPl hN.2.1.1 (by omega) hp).2
  have q_2 := (hN.2.2.2.1 a.toNatClampNeg (by omega)).2.1
  refine lv_aload_n hx hb dX7_complainsIn_0 rfl (lv_at hl 0 rfl) ?_
  refine lv_aload_n hx hb dX7_complainsIn_1 rfl (lv_at hl 0 rfl) ?_
  refine gM_getr hx hb hts in_X7 hown hK hL hG 5 (by decide) rfl hL.2.2.2.1 k_1 (fun _ h => h) dX7_complainsIn_2 ?_
  refine lv_iload_n hx hb dX7_complainsIn_5 rfl (lv_at hl 1 rfl) ?_
  refine g_callS (As := [.ref (gad Γ 486), .int a]) (rest := [.ref (gad Γ 483)]) (st1 := [.int (fX7_isHouse_v N a), .ref (gad Γ 483)]) hF (mX7_isHouse (mS M A T D N V I K B) R O (hL.1 486 (by decide) (by decide)) (show gC 486 = (9, 27, 0) from rfl) (show gLen 486 = 131 from rfl) N a) (va_cwS 2 hts gX7_complainsIn_X7_isHouse rfl rfl rfl (by decide +kernel) ⟨Nat.le_of_ble_eq_true rfl, Nat.le_of_ble_eq_true rfl⟩) hK hZ (g_st (show _ = va_up (mS M A T D N V I K B) 27 N from (mS_u27 _ _ _ _ _ _ _ _ _ _).symm) hG) hS rfl hl.1 (Nat.le_of_ble_eq_true rfl) dX7_complainsIn_6 ⟨Nat.zero_le _, Nat.zero_le _⟩ rfl rfl (fun H locs hG hS => ?_)
  replace hG : GH Γ (mS M A T D N V I K B) R O H := g_st (mS_u27 _ _ _ _ _ _ _ _ _ _) hG
  refine lv_if_eq (tgt := 16) hx hb dX7_complainsIn_9 (by decide) (fun c_1 => absurd c_1 hp) (fun c_1 => ?_)
  refine lv_iconst (v := 0) hx hb dX7_complainsIn_12 (by decide) ?_
  refine lv_goto (tgt := 17) hx hb dX7_complainsIn_13 (by decide) ?_
  refine g_callV (As := [.int 0]) (rest := []) (st1 := [.int 0]) hF (mX7_refused_l M R O hL A T D N V I K B 0 0 (by decide)) (cwV 1 hts gX7_complainsIn_X7_refused rfl rfl rfl (by decide +kernel) ⟨Nat.le_of_ble_eq_true rfl, Nat.le_of_ble_eq_true rfl⟩) hK hZ hG hS (hL.1 483 (by decide) (by decide)) (show gC 483 = (7, 24, 0) from rfl) (by decide) rfl rfl hl.1 (Nat.le_of_ble_eq_true rfl) dX7_complainsIn_17 ⟨Nat.zero_le _, Nat.zero_le _⟩ rfl rfl (fun H locs hG hS => ?_)
  refine lv_if_eq (tgt := 25) hx hb dX7_complainsIn_20 (by decide) (fun c_2 => ?_) (fun c_2 => absurd (by decide) c_2)
  refine lv_aload_n hx hb dX7_complainsIn_25 rfl (lv_at hl 0 rfl) ?_
  refine gM_getr hx hb hts in_X7 hown hK hL hG 5 (by decide) rfl hL.2.2.2.1 k_1 (fun _ h => h) dX7_complainsIn_26 ?_
  refine lv_iconst (v := 0) hx hb dX7_complainsIn_29 (by decide) ?_
  refine lv_aload_n hx hb dX7_complainsIn_30 rfl (lv_at hl 0 rfl) ?_
  refine gM_getr hx hb hts in_X7 hown hK hL hG 6 (by decide) rfl hL.2.2.2.2.1 k_3 (fun _ h => h) dX7_complainsIn_31 ?_
  refine lv_iconst (v := 0) hx hb dX7_complainsIn_34 (by decide) ?_
  refine g_callS (As := [.ref (gad Γ 486), .int 0, .ref (gad Γ 487), .int 0]) (rest := []) (st1 := []) hF (mX7_copyPage_q (mS M (upd A 0 0) T D N V I K B) R O (hL.1 486 (by decide) (by decide)) (show gC 486 = (9, 27, 0) from rfl) (show gLen 486 = 131 from rfl) (hL.1 487 (by decide) (by decide)) (show gC 487 = (9, 28, 0) from rfl) (show gLen 487 = 131 from rfl) (by decide) 0 0 rfl rfl (by omega) (by omega) (by decide) (by decide) V _ (mS_b27 _ _ _ _ _ _ _ _ _)) (va_cwS 4 hts gX7_complainsIn_X7_copyPage rfl rfl rfl (by decide +kernel) ⟨Nat.le_of_ble_eq_true rfl, Nat.le_of_ble_eq_true rfl⟩) hK hZ (g_st (show _ = va_up (mS M (upd A 0 0) T D N V I K B) 28 V from (mS_u28 _ _ _ _ _ _ _ _ _ _).symm) hG) hS rfl hl.1 (Nat.le_of_ble_eq_true rfl) dX7_complainsIn_35 ⟨Nat.zero_le _, Nat.zero_le _⟩ rfl rfl (fun H locs hG hS => ?_)
  replace hG : GH Γ (mS M (upd A 0 0) T D N (fX7_copyPage_P N V 0 0) I K B) R O H := g_st (mS_u28 _ _ _ _ _ _ _ _ _ _) hG
  refine lv_iconst (v := 1) hx hb dX7_complainsIn_38 (by decide) ?_
  refine lv_istore_n (lv' := [(2, .int 1), (0, .ref (gad Γ 483)), (1, .int a)]) hx hb dX7_complainsIn_39 rfl hl (by decide) rfl (fun ls hl => ?_)
  refine g_loop (N := 50) (fun k H locs ls => k ≤ kx ∧ GH Γ (mS M (upd A 0 0) T D N (fX7_complainsIn_L N a (fX7_copyPage_P N V 0 0) k) I K B) R O H ∧ va_S (gA Γ) s.heap H locs ∧ lv_has ls 3 [(0, .ref (gad Γ 483)), (1, .int a), (2, .int (nI (k + 1)))]) ?_ ?_ 0 (Nat.zero_le _) _ _ _ ⟨Nat.zero_le _, hG, hS, lv_sub hl [1, 2, 0] rfl⟩
  · rintro H locs ls ⟨hle_x, hG, hS, hl⟩
    have ex : kx = 50 := Nat.le_antisymm hxN hle_x
    refine lv_iload_n hx hb dX7_complainsIn_40 rfl (lv_at hl 2 rfl) ?_
    refine lv_bipush (v := 50) hx hb dX7_complainsIn_41 (by decide) ?_
    refine lv_icmp_gt (tgt := 69) hx hb dX7_complainsIn_43 (by decide) (fun c_3 => ?_) (fun c_3 => absurd (nI_lt (a := 50) (b := 51) (by decide) (by decide)) c_3)
    refine lv_bipush (v := (-9)) hx hb dX7_complainsIn_69 (by decide) ?_
    exact g_iret hx hb hrt hlocks hS hG (by rw [if_neg (by omega)]) (mS_c rfl rfl rfl rfl (by rw [if_neg (by omega)]) rfl rfl rfl) dX7_complainsIn_71
  · rintro k hk_k ih_k H locs ls ⟨hle_k, hG, hS, hl⟩
    refine lv_iload_n hx hb dX7_complainsIn_40 rfl (lv_at hl 2 rfl) ?_
    refine lv_bipush (v := 50) hx hb dX7_complainsIn_41 (by decide) ?_
    refine lv_icmp_gt (tgt := 69) hx hb dX7_complainsIn_43 (by decide) (fun c_4 => absurd c_4 (nI_nlt (a := 50) (by omega) (by decide))) (fun c_4 => ?_)
    refine lv_aload_n hx hb dX7_complainsIn_46 rfl (lv_at hl 0 rfl) ?_
    refine lv_iload_n hx hb dX7_complainsIn_47 rfl (lv_at hl 1 rfl) ?_
    refine g_callV (As := [.int a]) (rest := []) (st1 := [.int (fX7_hourOn_P (fX7_complainsIn_L N a (fX7_copyPage_P N V 0 0) k) (82 + 5 * a.toNatClampNeg + 4))]) hF (mX7_nextFor M R O hL (upd A 0 0) T D N (fX7_complainsIn_L N a (fX7_copyPage_P N V 0 0) k) I K B a.toNatClampNeg (isPl hN.2.1.1 (by omega) hp).1 (by omega) (fX7_complainsIn_WS a N (WS_cp hN) k)) (cwV 1 hts gX7_complainsIn_X7_nextFor rfl rfl rfl (by decide +kernel) ⟨Nat.le_of_ble_eq_true rfl, Nat.le_of_ble_eq_true rfl⟩) hK hZ hG hS (hL.1 483 (by decide) (by decide)) (show gC 483 = (7, 24, 0) from rfl) (by decide) rfl rfl hl.1 (Nat.le_of_ble_eq_true rfl) dX7_complainsIn_48 ⟨Nat.zero_le _, Nat.zero_le _⟩ rfl rfl (fun H locs hG hS => ?_)
    replace hG : GH Γ (mS M (upd A 0 0) T D N (fX7_hourOn_P (fX7_complainsIn_L N a (fX7_copyPage_P N V 0 0) k)) I K B) R O H := hG
    refine lv_aload_n hx hb dX7_complainsIn_51 rfl (lv_at hl 0 rfl) ?_
    refine gM_getr hx hb hts in_X7 hown hK hL hG 5 (by decide) rfl hL.2.2.2.1 k_1 (fun _ h => h) dX7_complainsIn_52 ?_
    refine lv_bipush (v := 7) hx hb dX7_complainsIn_55 (by decide) ?_
    refine gm_ald hx hb hK hG (hL.1 486 (by decide) (by decide)) (show gC 486 = (9, 27, 0) from rfl) (show gLen 486 = 131 from rfl) (by decide) (j := 7) rfl (by omega) (v := N 7) (mS_a27 _ _ _ _ _ _ _ _ _ _) dX7_complainsIn_57 ?_
    refine lv_icmp_lt (tgt := 63) hx hb dX7_complainsIn_58 (by decide) (fun c_5 => ?_) (fun c_5 => ?_)
    · --T
      refine lv_iinc (v := nI (k + 1 + 1)) (lv' := [(2, .int (nI (k + 1 + 1))), (0, .ref (gad Γ 483)), (1, .int a)]) hx hb dX7_complainsIn_63 hl (k := 2) rfl (nI_1 _) (by decide) rfl (fun ls hl => ?_)
      refine lv_goto (tgt := 40) hx hb dX7_complainsIn_66 (by decide) ?_
      exact ih_k _ _ _ ⟨Nat.lt_of_le_of_ne hle_k (fun e => by subst e; exact (hyes hk_k) c_5), hG, hS, lv_sub hl [1, 2, 0] rfl⟩
    · --F
      have ex : k = kx := Nat.le_antisymm hle_k (Nat.le_of_not_lt (fun q => hno _ q c_5))
      subst ex
      refine lv_iload_n hx hb dX7_complainsIn_61 rfl (lv_at hl 2 rfl) ?_
      exact g_iret hx hb hrt hlocks hS hG (by rw [if_pos hk_k]) (mS_c rfl rfl rfl rfl (by rw [if_pos hk_k] <;> rfl) rfl rfl rfl) dX7_complainsIn_62

