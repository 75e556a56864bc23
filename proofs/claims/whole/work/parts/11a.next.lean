/-! THE REFERENCE: the next hour. Laid by gen/p11.py. -/
theorem mS_a24 (M : Nat → Nat → Int32) (A T D N V I K B : Nat → Int32) (j : Nat) : mS M A T D N V I K B 24 j = A j := rfl
theorem mS_b24 (M : Nat → Nat → Int32) (A T D N V I K B : Nat → Int32) : mS M A T D N V I K B 24 = A := rfl
theorem mS_a25 (M : Nat → Nat → Int32) (A T D N V I K B : Nat → Int32) (j : Nat) : mS M A T D N V I K B 25 j = T j := rfl
theorem mS_b25 (M : Nat → Nat → Int32) (A T D N V I K B : Nat → Int32) : mS M A T D N V I K B 25 = T := rfl
theorem mS_a26 (M : Nat → Nat → Int32) (A T D N V I K B : Nat → Int32) (j : Nat) : mS M A T D N V I K B 26 j = D j := rfl
theorem mS_b26 (M : Nat → Nat → Int32) (A T D N V I K B : Nat → Int32) : mS M A T D N V I K B 26 = D := rfl
theorem mS_a27 (M : Nat → Nat → Int32) (A T D N V I K B : Nat → Int32) (j : Nat) : mS M A T D N V I K B 27 j = N j := rfl
theorem mS_b27 (M : Nat → Nat → Int32) (A T D N V I K B : Nat → Int32) : mS M A T D N V I K B 27 = N := rfl
theorem mS_a28 (M : Nat → Nat → Int32) (A T D N V I K B : Nat → Int32) (j : Nat) : mS M A T D N V I K B 28 j = V j := rfl
theorem mS_b28 (M : Nat → Nat → Int32) (A T D N V I K B : Nat → Int32) : mS M A T D N V I K B 28 = V := rfl
theorem mS_a29 (M : Nat → Nat → Int32) (A T D N V I K B : Nat → Int32) (j : Nat) : mS M A T D N V I K B 29 j = I j := rfl
theorem mS_b29 (M : Nat → Nat → Int32) (A T D N V I K B : Nat → Int32) : mS M A T D N V I K B 29 = I := rfl
theorem mS_a30 (M : Nat → Nat → Int32) (A T D N V I K B : Nat → Int32) (j : Nat) : mS M A T D N V I K B 30 j = K j := rfl
theorem mS_b30 (M : Nat → Nat → Int32) (A T D N V I K B : Nat → Int32) : mS M A T D N V I K B 30 = K := rfl
theorem mS_a31 (M : Nat → Nat → Int32) (A T D N V I K B : Nat → Int32) (j : Nat) : mS M A T D N V I K B 31 j = B j := rfl
theorem mS_b31 (M : Nat → Nat → Int32) (A T D N V I K B : Nat → Int32) : mS M A T D N V I K B 31 = B := rfl
theorem fX7_cp_L1 (Q : Nat → Int32) (fa ta : Nat) (P : Nat → Int32) : ∀ k j, fX7_cp_L Q fa ta P k j = if ta ≤ j ∧ j < ta + k then Q (fa + (j - ta)) else P j
  | 0, j => by rw [if_neg (by omega)]; rfl
  | k + 1, j => by
    have h := fX7_cp_L1 Q fa ta P k j
    show fX7_cp_S Q fa ta (fX7_cp_L Q fa ta P k) k j = _
    unfold fX7_cp_S
    by_cases e : j = ta + k
    · subst e
      rw [upd_eq, if_pos (by omega), show ta + k - ta = k by omega]
    · rw [upd_nw _ _ e, h]
      by_cases q : ta ≤ j ∧ j < ta + k
      · rw [if_pos q, if_pos (by omega)]
      · rw [if_neg q, if_neg (by omega)]
theorem cp_at (Q P : Nat → Int32) (fa ta j : Nat) : fX7_copyPage_P Q P fa ta j = if ta ≤ j ∧ j < ta + 131 then Q (fa + (j - ta)) else P j := by
  unfold fX7_copyPage_P
  exact fX7_cp_L1 Q fa ta P 131 j
theorem WS_cp {Q P : Nat → Int32} (h : WS Q) : WS (fX7_copyPage_P Q P 0 0) := h.of (fun j hj => by
  rw [cp_at, if_pos (by unfold kw at hj; omega)]
  congr 1
  omega)
theorem WS_far {P : Nat → Int32} (hW : WS P) (k : Nat) (hk : k < 3) (s : Int32) (hs : s = nI s.toNatClampNeg) (hs2 : s.toNatClampNeg < 10) : WS (upd P (122 + 3 * k) s) := by
  refine ⟨?_, ?_, ?_, fun i hi => ?_, fun i hi => ?_⟩
  · rw [upd_nw _ _ (by omega)]; exact hW.1
  · rw [upd_nw _ _ (by omega)]; exact hW.2.1
  · rw [upd_nw _ _ (by omega)]; exact hW.2.2.1
  · rw [upd_nw _ _ (by omega), upd_nw _ _ (by omega)]; exact hW.2.2.2.1 i hi
  · by_cases e : i = k
    · subst e; rw [upd_eq]; exact ⟨hs, hs2⟩
    · rw [upd_nw _ _ (by omega)]; exact hW.2.2.2.2 i hi
theorem WS_drive {P : Nat → Int32} (hW : WS P) {k : Nat} (hk : k < 3) {s : Int32} (hs : s = nI s.toNatClampNeg) (hs2 : s.toNatClampNeg < 10) : WS (fX7_driveOn_P P k s) := by
  unfold fX7_driveOn_P
  split
  · exact WS_far (WS.up (by unfold kw; omega) hW) k hk s hs hs2
  · exact hW
theorem WS_fill {P : Nat → Int32} (hW : WS P) {k : Nat} (hk : k < 3) : WS (fX7_fillOn_P P k) := by
  unfold fX7_fillOn_P
  exact WS.up (by unfold kw; omega) (WS.up (by unfold kw; omega) (WS.up (by unfold kw; omega) hW))
theorem mX7_copyPage_q {l : Launch} {Γ : gX} (M : Nat → Nat → Int32) (R : Nat → Nat → Option Nat) (O : Int64) {c0 b n0 c1 b1 n1 : Nat} (hc1 : c1 ∈ gcs Γ) (hC1 : gC c1 = (9, b1, 0)) (hn1 : gLen c1 = n1) (hc : c0 ∈ gcs Γ) (hC : gC c0 = (9, b, 0)) (hn : gLen c0 = n0) (hne : b1 ≠ b) (fa ta : Nat) {t1 t2 : Int32} (h1 : t1 = nI fa) (h2 : t2 = nI ta) (hb1 : fa + 131 ≤ n1) (hb0 : ta + 131 ≤ n0) (hs1 : n1 ≤ 10000) (hs0 : n0 ≤ 10000) (P Q : Nat → Int32) (hQ : M b1 = Q) : gMet l Γ yX7_copyPage wsX7_copyPage 0 0 [.ref (gad Γ c1), .int t1, .ref (gad Γ c0), .int t2] (va_up M b P) R O none (va_up M b (fX7_copyPage_P Q P fa ta)) R O := by
  subst hQ
  exact mX7_copyPage M R O hc1 hC1 hn1 hc hC hn hne fa ta h1 h2 hb1 hb0 hs1 hs0 P
def fX7_ahead_S  (Pk : Nat → Int32) (k : Nat) : Nat → Int32 := fX7_hourOn_P Pk
def fX7_ahead_L  (P : Nat → Int32) : Nat → Nat → Int32
  | 0 => P
  | k + 1 => fX7_ahead_S  (fX7_ahead_L  P k) k
theorem fX7_ahead_WS {P : Nat → Int32} (hW : WS P) : ∀ k, WS (fX7_ahead_L P k)
  | 0 => hW
  | k + 1 => by
    have h := fX7_ahead_WS hW k
    show WS (fX7_ahead_S (fX7_ahead_L P k) k)
    unfold fX7_ahead_S
    exact fX7_hourOn_kw h
def fX7_ahead_v (A T D N V I K B : Nat → Int32) (a d : Int32) : Int32 := if (fX7_isHouse_v N a) = 0 then 0 else if (fX7_in_v d.toInt64 1 20) = 0 then 0 else (fX7_ahead_L  (fX7_copyPage_P N V 0 0) d.toNatClampNeg) ((82 + 5 * a.toNatClampNeg) + 4)
def fX7_ahead_A (A T D N V I K B : Nat → Int32) (a d : Int32) : Nat → Int32 := if (fX7_isHouse_v N a) = 0 then upd A 0 1 else if (fX7_in_v d.toInt64 1 20) = 0 then upd A 0 2 else upd A 0 0
def fX7_ahead_V (A T D N V I K B : Nat → Int32) (a d : Int32) : Nat → Int32 := if (fX7_isHouse_v N a) = 0 then V else if (fX7_in_v d.toInt64 1 20) = 0 then V else fX7_ahead_L  (fX7_copyPage_P N V 0 0) d.toNatClampNeg
set_option maxHeartbeats 4000000 in
set_option maxRecDepth 100000 in
theorem mX7_ahead {l : Launch} {Γ : gX} (M : Nat → Nat → Int32) (R : Nat → Nat → Option Nat) (O : Int64) (hL : LM Γ R) (A T D N V I K B : Nat → Int32) (a d : Int32) (hN : WS N) : gMet l Γ yX7_ahead wsX7_ahead 5 111 [.ref (gad Γ 483), .int a, .int d] (mS M A T D N V I K B) R O (some (.int (fX7_ahead_v A T D N V I K B a d))) (mS M (fX7_ahead_A A T D N V I K B a d) T D N (fX7_ahead_V A T D N V I K B a d) I K B) R O := by
  refine g_start (cc := cX7_ahead) (maxL := 4) (ret := (some .int)) (by decide) rfl (Nat.le_of_ble_eq_true rfl) ?_
  intro p e s m below meth c ls hx hb hml hrt hts hown hlocks hname hK hZ hG hS hl
  have hl : lv_has ls 4 [(0, .ref (gad Γ 483)), (1, .int a), (2, .int d)] := hl
  have hown : s.vm.findClass RX7 = some m.cls := hown
  have hF : CallFix p m c cX7_ahead 4 s _ wsX7_ahead RX7 := ⟨hx, hb, hml, hown, hts⟩
  have k_1 : (Cond.fieldLink RX7 16 "RoadDustModel" "now" "[I").before _ s = true := hts _ (by decide +kernel)
  have in_X7 : ∀ w ∈ wsX70, w ∈ wsX7_ahead := by decide +kernel
  have k_3 : (Cond.constantLong RX7 165 (20)).before _ s = true := hts _ (by decide +kernel)
  have k_4 : (Cond.fieldLink RX7 19 "RoadDustModel" "trial" "[I").before _ s = true := hts _ (by decide +kernel)
  have n0 := hN.1.2
  have n1 := hN.2.1.2
  have n2 := hN.2.2.1.2
  refine lv_aload_n hx hb dX7_ahead_0 rfl (lv_at hl 0 rfl) ?_
  refine lv_aload_n hx hb dX7_ahead_1 rfl (lv_at hl 0 rfl) ?_
  refine gM_getr hx hb hts in_X7 hown hK hL hG 5 (by decide) rfl hL.2.2.2.1 k_1 (fun _ h => h) dX7_ahead_2 ?_
  refine lv_iload_n hx hb dX7_ahead_5 rfl (lv_at hl 1 rfl) ?_
  refine g_callS (As := [.ref (gad Γ 486), .int a]) (rest := [.ref (gad Γ 483)]) (st1 := [.int (fX7_isHouse_v N a), .ref (gad Γ 483)]) hF (mX7_isHouse (mS M A T D N V I K B) R O (hL.1 486 (by decide) (by decide)) (show gC 486 = (9, 27, 0) from rfl) (show gLen 486 = 131 from rfl) N a) (va_cwS 2 hts gX7_ahead_X7_isHouse rfl rfl rfl (by decide +kernel) ⟨Nat.le_of_ble_eq_true rfl, Nat.le_of_ble_eq_true rfl⟩) hK hZ (g_st (show _ = va_up (mS M A T D N V I K B) 27 N from (mS_u27 _ _ _ _ _ _ _ _ _ _).symm) hG) hS rfl hl.1 (Nat.le_of_ble_eq_true rfl) dX7_ahead_6 ⟨Nat.zero_le _, Nat.zero_le _⟩ rfl rfl (fun H locs hG hS => ?_)
  replace hG : GH Γ (mS M A T D N V I K B) R O H := g_st (mS_u27 _ _ _ _ _ _ _ _ _ _) hG
  refine lv_if_ne (tgt := 16) hx hb dX7_ahead_9 (by decide) (fun c_1 => ?_) (fun c_1 => ?_)
  · --T
    refine lv_iload_n hx hb dX7_ahead_16 rfl (lv_at hl 2 rfl) ?_
    refine lv_i2l hx hb dX7_ahead_17 rfl ?_
    refine lv_lconst (v := 1) hx hb dX7_ahead_18 (by decide) ?_
    refine lv_ldc2 hx hb hown k_3 dX7_ahead_19 ?_
    refine g_callS (As := [.long d.toInt64, .long 1, .long 20]) (rest := [.ref (gad Γ 483)]) (st1 := [.int (fX7_in_v d.toInt64 1 20), .ref (gad Γ 483)]) hF (mX7_in _ R O d.toInt64 1 20) (va_cwS 3 hts gX7_ahead_X7_in rfl rfl rfl (by decide +kernel) ⟨Nat.le_of_ble_eq_true rfl, Nat.le_of_ble_eq_true rfl⟩) hK hZ hG hS rfl hl.1 (Nat.le_of_ble_eq_true rfl) dX7_ahead_22 ⟨Nat.zero_le _, Nat.zero_le _⟩ rfl rfl (fun H locs hG hS => ?_)
    refine lv_if_ne (tgt := 32) hx hb dX7_ahead_25 (by decide) (fun c_2 => ?_) (fun c_2 => ?_)
    · --T
      refine lv_iconst (v := 0) hx hb dX7_ahead_32 (by decide) ?_
      refine g_callV (As := [.int 0]) (rest := []) (st1 := [.int 0]) hF (mX7_refused_l M R O hL A T D N V I K B 0 0 (by decide)) (cwV 1 hts gX7_ahead_X7_refused rfl rfl rfl (by decide +kernel) ⟨Nat.le_of_ble_eq_true rfl, Nat.le_of_ble_eq_true rfl⟩) hK hZ hG hS (hL.1 483 (by decide) (by decide)) (show gC 483 = (7, 24, 0) from rfl) (by decide) rfl rfl hl.1 (Nat.le_of_ble_eq_true rfl) dX7_ahead_33 ⟨Nat.zero_le _, Nat.zero_le _⟩ rfl rfl (fun H locs hG hS => ?_)
      refine lv_if_eq (tgt := 41) hx hb dX7_ahead_36 (by decide) (fun c_3 => ?_) (fun c_3 => absurd (by decide) c_3)
      have q_1 := (isPl hN.2.1.1 (by omega) c_1).2
      refine lv_aload_n hx hb dX7_ahead_41 rfl (lv_at hl 0 rfl) ?_
      refine gM_getr hx hb hts in_X7 hown hK hL hG 5 (by decide) rfl hL.2.2.2.1 k_1 (fun _ h => h) dX7_ahead_42 ?_
      refine lv_iconst (v := 0) hx hb dX7_ahead_45 (by decide) ?_
      refine lv_aload_n hx hb dX7_ahead_46 rfl (lv_at hl 0 rfl) ?_
      refine gM_getr hx hb hts in_X7 hown hK hL hG 6 (by decide) rfl hL.2.2.2.2.1 k_4 (fun _ h => h) dX7_ahead_47 ?_
      refine lv_iconst (v := 0) hx hb dX7_ahead_50 (by decide) ?_
      refine g_callS (As := [.ref (gad Γ 486), .int 0, .ref (gad Γ 487), .int 0]) (rest := []) (st1 := []) hF (mX7_copyPage_q (mS M (upd A 0 0) T D N V I K B) R O (hL.1 486 (by decide) (by decide)) (show gC 486 = (9, 27, 0) from rfl) (show gLen 486 = 131 from rfl) (hL.1 487 (by decide) (by decide)) (show gC 487 = (9, 28, 0) from rfl) (show gLen 487 = 131 from rfl) (by decide) 0 0 rfl rfl (by omega) (by omega) (by decide) (by decide) V _ (mS_b27 _ _ _ _ _ _ _ _ _)) (va_cwS 4 hts gX7_ahead_X7_copyPage rfl rfl rfl (by decide +kernel) ⟨Nat.le_of_ble_eq_true rfl, Nat.le_of_ble_eq_true rfl⟩) hK hZ (g_st (show _ = va_up (mS M (upd A 0 0) T D N V I K B) 28 V from (mS_u28 _ _ _ _ _ _ _ _ _ _).symm) hG) hS rfl hl.1 (Nat.le_of_ble_eq_true rfl) dX7_ahead_51 ⟨Nat.zero_le _, Nat.zero_le _⟩ rfl rfl (fun H locs hG hS => ?_)
      replace hG : GH Γ (mS M (upd A 0 0) T D N (fX7_copyPage_P N V 0 0) I K B) R O H := g_st (mS_u28 _ _ _ _ _ _ _ _ _ _) hG
      refine lv_iconst (v := 0) hx hb dX7_ahead_54 (by decide) ?_
      refine lv_istore_n (lv' := [(3, .int 0), (0, .ref (gad Γ 483)), (1, .int a), (2, .int d)]) hx hb dX7_ahead_55 rfl hl (by decide) rfl (fun ls hl => ?_)
      refine g_loop (N := d.toNatClampNeg) (fun k H locs ls => GH Γ (mS M (upd A 0 0) T D N (fX7_ahead_L  (fX7_copyPage_P N V 0 0) k) I K B) R O H ∧ va_S (gA Γ) s.heap H locs ∧ lv_has ls 4 [(0, .ref (gad Γ 483)), (1, .int a), (2, .int d), (3, .int (nI k))]) ?_ ?_ 0 (Nat.zero_le _) _ _ _ ⟨hG, hS, lv_sub hl [1, 2, 3, 0] rfl⟩
      · rintro H locs ls ⟨hG, hS, hl⟩
        refine lv_iload_n hx hb dX7_ahead_56 rfl (lv_at hl 3 rfl) ?_
        refine lv_iload_n hx hb dX7_ahead_57 rfl (lv_at hl 2 rfl) ?_
        refine lv_icmp_ge (tgt := 74) hx hb dX7_ahead_58 (by decide) (fun c_4 => ?_) (fun c_4 => absurd (cl_le _) c_4)
        refine lv_aload_n hx hb dX7_ahead_74 rfl (lv_at hl 0 rfl) ?_
        refine gM_getr hx hb hts in_X7 hown hK hL hG 6 (by decide) rfl hL.2.2.2.2.1 k_4 (fun _ h => h) dX7_ahead_75 ?_
        refine lv_iload_n hx hb dX7_ahead_78 rfl (lv_at hl 1 rfl) ?_
        refine g_callS (As := [.int a]) (rest := [.ref (gad Γ 487)]) (st1 := [.int (nI (82 + 5 * a.toNatClampNeg)), .ref (gad Γ 487)]) hF (mX7_houseAt _ R O a.toNatClampNeg ((isPl hN.2.1.1 (by omega) c_1).1)) (va_cwS 1 hts gX7_ahead_X7_houseAt rfl rfl rfl (by decide +kernel) ⟨Nat.le_of_ble_eq_true rfl, Nat.le_of_ble_eq_true rfl⟩) hK hZ hG hS rfl hl.1 (Nat.le_of_ble_eq_true rfl) dX7_ahead_79 ⟨Nat.zero_le _, Nat.zero_le _⟩ rfl rfl (fun H locs hG hS => ?_)
        refine lv_iconst (v := 4) hx hb dX7_ahead_82 (by decide) ?_
        refine lv_iadd hx hb dX7_ahead_83 ?_
        refine g_top (show _ = nI ((82 + 5 * a.toNatClampNeg) + 4) from nI_add _ _) ?_
        refine gm_ald hx hb hK hG (hL.1 487 (by decide) (by decide)) (show gC 487 = (9, 28, 0) from rfl) (show gLen 487 = 131 from rfl) (by decide) (j := (82 + 5 * a.toNatClampNeg) + 4) rfl (by omega) (v := (fX7_ahead_L  (fX7_copyPage_P N V 0 0) d.toNatClampNeg) ((82 + 5 * a.toNatClampNeg) + 4)) (mS_a28 _ _ _ _ _ _ _ _ _ _) dX7_ahead_84 ?_
        exact g_iret hx hb hrt hlocks hS hG (by unfold fX7_ahead_v; rw [if_neg c_1, if_neg c_2]) (mS_c (by unfold fX7_ahead_A; rw [if_neg c_1, if_neg c_2]) rfl rfl rfl (by unfold fX7_ahead_V; rw [if_neg c_1, if_neg c_2]) rfl rfl rfl) dX7_ahead_85
      · rintro k hk_k ih_k H locs ls ⟨hG, hS, hl⟩
        refine lv_iload_n hx hb dX7_ahead_56 rfl (lv_at hl 3 rfl) ?_
        refine lv_iload_n hx hb dX7_ahead_57 rfl (lv_at hl 2 rfl) ?_
        refine lv_icmp_ge (tgt := 74) hx hb dX7_ahead_58 (by decide) (fun c_5 => absurd c_5 (cl_ge hk_k)) (fun c_5 => ?_)
        refine lv_aload_n hx hb dX7_ahead_61 rfl (lv_at hl 0 rfl) ?_
        refine gM_getr hx hb hts in_X7 hown hK hL hG 6 (by decide) rfl hL.2.2.2.2.1 k_4 (fun _ h => h) dX7_ahead_62 ?_
        refine g_callS (As := [.ref (gad Γ 487)]) (rest := []) (st1 := []) hF (mX7_hourOn (mS M (upd A 0 0) T D N (fX7_ahead_L  (fX7_copyPage_P N V 0 0) k) I K B) R O (hL.1 487 (by decide) (by decide)) (show gC 487 = (9, 28, 0) from rfl) (show gLen 487 = 131 from rfl) (fX7_ahead_L  (fX7_copyPage_P N V 0 0) k) (fX7_ahead_WS (WS_cp hN) k)) (va_cwS 1 hts gX7_ahead_X7_hourOn rfl rfl rfl (by decide +kernel) ⟨Nat.le_of_ble_eq_true rfl, Nat.le_of_ble_eq_true rfl⟩) hK hZ (g_st (show _ = va_up (mS M (upd A 0 0) T D N (fX7_ahead_L  (fX7_copyPage_P N V 0 0) k) I K B) 28 (fX7_ahead_L  (fX7_copyPage_P N V 0 0) k) from (mS_u28 _ _ _ _ _ _ _ _ _ _).symm) hG) hS rfl hl.1 (Nat.le_of_ble_eq_true rfl) dX7_ahead_65 ⟨Nat.zero_le _, Nat.zero_le _⟩ rfl rfl (fun H locs hG hS => ?_)
        replace hG : GH Γ (mS M (upd A 0 0) T D N (fX7_hourOn_P (fX7_ahead_L  (fX7_copyPage_P N V 0 0) k)) I K B) R O H := g_st (mS_u28 _ _ _ _ _ _ _ _ _ _) hG
        refine lv_iinc (v := nI (k + 1)) (lv' := [(3, .int (nI (k + 1))), (0, .ref (gad Γ 483)), (1, .int a), (2, .int d)]) hx hb dX7_ahead_68 hl (k := 3) rfl (nI_1 _) (by decide) rfl (fun ls hl => ?_)
        refine lv_goto (tgt := 56) hx hb dX7_ahead_71 (by decide) ?_
        exact ih_k _ _ _ ⟨hG, hS, lv_sub hl [1, 2, 3, 0] rfl⟩
    · --F
      refine lv_iconst (v := 2) hx hb dX7_ahead_28 (by decide) ?_
      refine lv_goto (tgt := 33) hx hb dX7_ahead_29 (by decide) ?_
      refine g_callV (As := [.int 2]) (rest := []) (st1 := [.int 1]) hF (mX7_refused_l M R O hL A T D N V I K B 2 1 (by decide)) (cwV 1 hts gX7_ahead_X7_refused rfl rfl rfl (by decide +kernel) ⟨Nat.le_of_ble_eq_true rfl, Nat.le_of_ble_eq_true rfl⟩) hK hZ hG hS (hL.1 483 (by decide) (by decide)) (show gC 483 = (7, 24, 0) from rfl) (by decide) rfl rfl hl.1 (Nat.le_of_ble_eq_true rfl) dX7_ahead_33 ⟨Nat.zero_le _, Nat.zero_le _⟩ rfl rfl (fun H locs hG hS => ?_)
      refine lv_if_eq (tgt := 41) hx hb dX7_ahead_36 (by decide) (fun c_6 => absurd c_6 (by decide)) (fun c_6 => ?_)
      refine lv_iconst (v := 0) hx hb dX7_ahead_39 (by decide) ?_
      exact g_iret hx hb hrt hlocks hS hG (by unfold fX7_ahead_v; rw [if_neg c_1, if_pos c_2]) (mS_c (by unfold fX7_ahead_A; rw [if_neg c_1, if_pos c_2]) rfl rfl rfl (by unfold fX7_ahead_V; rw [if_neg c_1, if_pos c_2]) rfl rfl rfl) dX7_ahead_40
  · --F
    refine lv_iconst (v := 1) hx hb dX7_ahead_12 (by decide) ?_
    refine lv_goto (tgt := 33) hx hb dX7_ahead_13 (by decide) ?_
    refine g_callV (As := [.int 1]) (rest := []) (st1 := [.int 1]) hF (mX7_refused_l M R O hL A T D N V I K B 1 1 (by decide)) (cwV 1 hts gX7_ahead_X7_refused rfl rfl rfl (by decide +kernel) ⟨Nat.le_of_ble_eq_true rfl, Nat.le_of_ble_eq_true rfl⟩) hK hZ hG hS (hL.1 483 (by decide) (by decide)) (show gC 483 = (7, 24, 0) from rfl) (by decide) rfl rfl hl.1 (Nat.le_of_ble_eq_true rfl) dX7_ahead_33 ⟨Nat.zero_le _, Nat.zero_le _⟩ rfl rfl (fun H locs hG hS => ?_)
    refine lv_if_eq (tgt := 41) hx hb dX7_ahead_36 (by decide) (fun c_7 => absurd c_7 (by decide)) (fun c_7 => ?_)
    refine lv_iconst (v := 0) hx hb dX7_ahead_39 (by decide) ?_
    exact g_iret hx hb hrt hlocks hS hG (by unfold fX7_ahead_v; rw [if_pos c_1]) (mS_c (by unfold fX7_ahead_A; rw [if_pos c_1]) rfl rfl rfl (by unfold fX7_ahead_V; rw [if_pos c_1]) rfl rfl rfl) dX7_ahead_40

def fX7_nextFor_v (A T D N V I K B : Nat → Int32) (k : Nat) : Int32 := (fX7_hourOn_P V) ((82 + 5 * k) + 4)
def fX7_nextFor_V (A T D N V I K B : Nat → Int32) (k : Nat) : Nat → Int32 := fX7_hourOn_P V
set_option maxHeartbeats 4000000 in
set_option maxRecDepth 100000 in
theorem mX7_nextFor {l : Launch} {Γ : gX} (M : Nat → Nat → Int32) (R : Nat → Nat → Option Nat) (O : Int64) (hL : LM Γ R) (A T D N V I K B : Nat → Int32) (k : Nat) {t : Int32} (ht : t = nI k) (hk : k < 8) (hV : WS V) : gMet l Γ yX7_nextFor wsX7_nextFor 5 111 [.ref (gad Γ 483), .int t] (mS M A T D N V I K B) R O (some (.int (fX7_nextFor_v A T D N V I K B k))) (mS M A T D N (fX7_nextFor_V A T D N V I K B k) I K B) R O := by
  subst ht
  refine g_start (cc := cX7_nextFor) (maxL := 2) (ret := (some .int)) (by decide) rfl (Nat.le_of_ble_eq_true rfl) ?_
  intro p e s m below meth c ls hx hb hml hrt hts hown hlocks hname hK hZ hG hS hl
  have hl : lv_has ls 2 [(0, .ref (gad Γ 483)), (1, .int (nI k))] := hl
  have hown : s.vm.findClass RX7 = some m.cls := hown
  have hF : CallFix p m c cX7_nextFor 2 s _ wsX7_nextFor RX7 := ⟨hx, hb, hml, hown, hts⟩
  have k_1 : (Cond.fieldLink RX7 19 "RoadDustModel" "trial" "[I").before _ s = true := hts _ (by decide +kernel)
  have in_X7 : ∀ w ∈ wsX70, w ∈ wsX7_nextFor := by decide +kernel
  refine lv_aload_n hx hb dX7_nextFor_0 rfl (lv_at hl 0 rfl) ?_
  refine gM_getr hx hb hts in_X7 hown hK hL hG 6 (by decide) rfl hL.2.2.2.2.1 k_1 (fun _ h => h) dX7_nextFor_1 ?_
  refine g_callS (As := [.ref (gad Γ 487)]) (rest := []) (st1 := []) hF (mX7_hourOn (mS M A T D N V I K B) R O (hL.1 487 (by decide) (by decide)) (show gC 487 = (9, 28, 0) from rfl) (show gLen 487 = 131 from rfl) V hV) (va_cwS 1 hts gX7_nextFor_X7_hourOn rfl rfl rfl (by decide +kernel) ⟨Nat.le_of_ble_eq_true rfl, Nat.le_of_ble_eq_true rfl⟩) hK hZ (g_st (show _ = va_up (mS M A T D N V I K B) 28 V from (mS_u28 _ _ _ _ _ _ _ _ _ _).symm) hG) hS rfl hl.1 (Nat.le_of_ble_eq_true rfl) dX7_nextFor_4 ⟨Nat.zero_le _, Nat.zero_le _⟩ rfl rfl (fun H locs hG hS => ?_)
  replace hG : GH Γ (mS M A T D N (fX7_hourOn_P V) I K B) R O H := g_st (mS_u28 _ _ _ _ _ _ _ _ _ _) hG
  refine lv_aload_n hx hb dX7_nextFor_7 rfl (lv_at hl 0 rfl) ?_
  refine gM_getr hx hb hts in_X7 hown hK hL hG 6 (by decide) rfl hL.2.2.2.2.1 k_1 (fun _ h => h) dX7_nextFor_8 ?_
  refine lv_iload_n hx hb dX7_nextFor_11 rfl (lv_at hl 1 rfl) ?_
  refine g_callS (As := [.int (nI k)]) (rest := [.ref (gad Γ 487)]) (st1 := [.int (nI (82 + 5 * k)), .ref (gad Γ 487)]) hF (mX7_houseAt _ R O k rfl) (va_cwS 1 hts gX7_nextFor_X7_houseAt rfl rfl rfl (by decide +kernel) ⟨Nat.le_of_ble_eq_true rfl, Nat.le_of_ble_eq_true rfl⟩) hK hZ hG hS rfl hl.1 (Nat.le_of_ble_eq_true rfl) dX7_nextFor_12 ⟨Nat.zero_le _, Nat.zero_le _⟩ rfl rfl (fun H locs hG hS => ?_)
  refine lv_iconst (v := 4) hx hb dX7_nextFor_15 (by decide) ?_
  refine lv_iadd hx hb dX7_nextFor_16 ?_
  refine g_top (show _ = nI ((82 + 5 * k) + 4) from nI_add _ _) ?_
  refine gm_ald hx hb hK hG (hL.1 487 (by decide) (by decide)) (show gC 487 = (9, 28, 0) from rfl) (show gLen 487 = 131 from rfl) (by decide) (j := (82 + 5 * k) + 4) rfl (by omega) (v := (fX7_hourOn_P V) ((82 + 5 * k) + 4)) (mS_a28 _ _ _ _ _ _ _ _ _ _) dX7_nextFor_17 ?_
  exact g_iret hx hb hrt hlocks hS hG (by unfold fX7_nextFor_v; rfl) (mS_c rfl rfl rfl rfl rfl rfl rfl rfl) dX7_nextFor_18

def fX7_nextForAll_T1  (P : Nat → Int32) (k : Nat) (a1 : Int32) : Int32 := a1 + (P ((82 + 5 * k) + 4))
def fX7_nextForAll_A1  (P : Nat → Int32) : Nat → Int32
  | 0 => 0
  | k + 1 => fX7_nextForAll_T1  P k (fX7_nextForAll_A1  P k)
def fX7_nextForAll_v (A T D N V I K B : Nat → Int32)  : Int32 := fX7_nextForAll_A1  (fX7_hourOn_P V) (((fX7_hourOn_P V) 1).toNatClampNeg)
def fX7_nextForAll_V (A T D N V I K B : Nat → Int32)  : Nat → Int32 := fX7_hourOn_P V
set_option maxHeartbeats 4000000 in
set_option maxRecDepth 100000 in
theorem mX7_nextForAll {l : Launch} {Γ : gX} (M : Nat → Nat → Int32) (R : Nat → Nat → Option Nat) (O : Int64) (hL : LM Γ R) (A T D N V I K B : Nat → Int32) (hV : WS V) : gMet l Γ yX7_nextForAll wsX7_nextForAll 5 111 [.ref (gad Γ 483)] (mS M A T D N V I K B) R O (some (.int (fX7_nextForAll_v A T D N V I K B ))) (mS M A T D N (fX7_nextForAll_V A T D N V I K B ) I K B) R O := by
  refine g_start (cc := cX7_nextForAll) (maxL := 3) (ret := (some .int)) (by decide) rfl (Nat.le_of_ble_eq_true rfl) ?_
  intro p e s m below meth c ls hx hb hml hrt hts hown hlocks hname hK hZ hG hS hl
  have hl : lv_has ls 3 [(0, .ref (gad Γ 483))] := hl
  have hown : s.vm.findClass RX7 = some m.cls := hown
  have hF : CallFix p m c cX7_nextForAll 3 s _ wsX7_nextForAll RX7 := ⟨hx, hb, hml, hown, hts⟩
  have k_1 : (Cond.fieldLink RX7 19 "RoadDustModel" "trial" "[I").before _ s = true := hts _ (by decide +kernel)
  have in_X7 : ∀ w ∈ wsX70, w ∈ wsX7_nextForAll := by decide +kernel
  have v1 := (fX7_hourOn_kw hV).2.1.2
  refine lv_aload_n hx hb dX7_nextForAll_0 rfl (lv_at hl 0 rfl) ?_
  refine gM_getr hx hb hts in_X7 hown hK hL hG 6 (by decide) rfl hL.2.2.2.2.1 k_1 (fun _ h => h) dX7_nextForAll_1 ?_
  refine g_callS (As := [.ref (gad Γ 487)]) (rest := []) (st1 := []) hF (mX7_hourOn (mS M A T D N V I K B) R O (hL.1 487 (by decide) (by decide)) (show gC 487 = (9, 28, 0) from rfl) (show gLen 487 = 131 from rfl) V hV) (va_cwS 1 hts gX7_nextForAll_X7_hourOn rfl rfl rfl (by decide +kernel) ⟨Nat.le_of_ble_eq_true rfl, Nat.le_of_ble_eq_true rfl⟩) hK hZ (g_st (show _ = va_up (mS M A T D N V I K B) 28 V from (mS_u28 _ _ _ _ _ _ _ _ _ _).symm) hG) hS rfl hl.1 (Nat.le_of_ble_eq_true rfl) dX7_nextForAll_4 ⟨Nat.zero_le _, Nat.zero_le _⟩ rfl rfl (fun H locs hG hS => ?_)
  replace hG : GH Γ (mS M A T D N (fX7_hourOn_P V) I K B) R O H := g_st (mS_u28 _ _ _ _ _ _ _ _ _ _) hG
  refine lv_iconst (v := 0) hx hb dX7_nextForAll_7 (by decide) ?_
  refine lv_istore_n (lv' := [(1, .int 0), (0, .ref (gad Γ 483))]) hx hb dX7_nextForAll_8 rfl hl (by decide) rfl (fun ls hl => ?_)
  refine lv_iconst (v := 0) hx hb dX7_nextForAll_9 (by decide) ?_
  refine lv_istore_n (lv' := [(2, .int 0), (1, .int 0), (0, .ref (gad Γ 483))]) hx hb dX7_nextForAll_10 rfl hl (by decide) rfl (fun ls hl => ?_)
  refine g_loop (N := ((fX7_hourOn_P V) 1).toNatClampNeg) (fun k H locs ls => GH Γ (mS M A T D N (fX7_hourOn_P V) I K B) R O H ∧ va_S (gA Γ) s.heap H locs ∧ lv_has ls 3 [(0, .ref (gad Γ 483)), (1, .int (fX7_nextForAll_A1  (fX7_hourOn_P V) k)), (2, .int (nI k))]) ?_ ?_ 0 (Nat.zero_le _) _ _ _ ⟨hG, hS, lv_sub hl [2, 1, 0] rfl⟩
  · rintro H locs ls ⟨hG, hS, hl⟩
    refine lv_iload_n hx hb dX7_nextForAll_11 rfl (lv_at hl 2 rfl) ?_
    refine lv_aload_n hx hb dX7_nextForAll_12 rfl (lv_at hl 0 rfl) ?_
    refine gM_getr hx hb hts in_X7 hown hK hL hG 6 (by decide) rfl hL.2.2.2.2.1 k_1 (fun _ h => h) dX7_nextForAll_13 ?_
    refine lv_iconst (v := 1) hx hb dX7_nextForAll_16 (by decide) ?_
    refine gm_ald hx hb hK hG (hL.1 487 (by decide) (by decide)) (show gC 487 = (9, 28, 0) from rfl) (show gLen 487 = 131 from rfl) (by decide) (j := 1) rfl (by omega) (v := (fX7_hourOn_P V) 1) (mS_a28 _ _ _ _ _ _ _ _ _ _) dX7_nextForAll_17 ?_
    refine lv_icmp_ge (tgt := 41) hx hb dX7_nextForAll_18 (by decide) (fun c_1 => ?_) (fun c_1 => absurd (cl_le _) c_1)
    refine lv_iload_n hx hb dX7_nextForAll_41 rfl (lv_at hl 1 rfl) ?_
    exact g_iret hx hb hrt hlocks hS hG (by unfold fX7_nextForAll_v; rfl) (mS_c rfl rfl rfl rfl rfl rfl rfl rfl) dX7_nextForAll_42
  · rintro k hk_k ih_k H locs ls ⟨hG, hS, hl⟩
    refine lv_iload_n hx hb dX7_nextForAll_11 rfl (lv_at hl 2 rfl) ?_
    refine lv_aload_n hx hb dX7_nextForAll_12 rfl (lv_at hl 0 rfl) ?_
    refine gM_getr hx hb hts in_X7 hown hK hL hG 6 (by decide) rfl hL.2.2.2.2.1 k_1 (fun _ h => h) dX7_nextForAll_13 ?_
    refine lv_iconst (v := 1) hx hb dX7_nextForAll_16 (by decide) ?_
    refine gm_ald hx hb hK hG (hL.1 487 (by decide) (by decide)) (show gC 487 = (9, 28, 0) from rfl) (show gLen 487 = 131 from rfl) (by decide) (j := 1) rfl (by omega) (v := (fX7_hourOn_P V) 1) (mS_a28 _ _ _ _ _ _ _ _ _ _) dX7_nextForAll_17 ?_
    refine lv_icmp_ge (tgt := 41) hx hb dX7_nextForAll_18 (by decide) (fun c_2 => absurd c_2 (cl_ge hk_k)) (fun c_2 => ?_)
    refine lv_iload_n hx hb dX7_nextForAll_21 rfl (lv_at hl 1 rfl) ?_
    refine lv_aload_n hx hb dX7_nextForAll_22 rfl (lv_at hl 0 rfl) ?_
    refine gM_getr hx hb hts in_X7 hown hK hL hG 6 (by decide) rfl hL.2.2.2.2.1 k_1 (fun _ h => h) dX7_nextForAll_23 ?_
    refine lv_iload_n hx hb dX7_nextForAll_26 rfl (lv_at hl 2 rfl) ?_
    refine g_callS (As := [.int (nI k)]) (rest := [.ref (gad Γ 487), .int (fX7_nextForAll_A1  (fX7_hourOn_P V) k)]) (st1 := [.int (nI (82 + 5 * k)), .ref (gad Γ 487), .int (fX7_nextForAll_A1  (fX7_hourOn_P V) k)]) hF (mX7_houseAt _ R O k rfl) (va_cwS 1 hts gX7_nextForAll_X7_houseAt rfl rfl rfl (by decide +kernel) ⟨Nat.le_of_ble_eq_true rfl, Nat.le_of_ble_eq_true rfl⟩) hK hZ hG hS rfl hl.1 (Nat.le_of_ble_eq_true rfl) dX7_nextForAll_27 ⟨Nat.zero_le _, Nat.zero_le _⟩ rfl rfl (fun H locs hG hS => ?_)
    refine lv_iconst (v := 4) hx hb dX7_nextForAll_30 (by decide) ?_
    refine lv_iadd hx hb dX7_nextForAll_31 ?_
    refine g_top (show _ = nI ((82 + 5 * k) + 4) from nI_add _ _) ?_
    refine gm_ald hx hb hK hG (hL.1 487 (by decide) (by decide)) (show gC 487 = (9, 28, 0) from rfl) (show gLen 487 = 131 from rfl) (by decide) (j := (82 + 5 * k) + 4) rfl (by omega) (v := (fX7_hourOn_P V) ((82 + 5 * k) + 4)) (mS_a28 _ _ _ _ _ _ _ _ _ _) dX7_nextForAll_32 ?_
    refine lv_iadd hx hb dX7_nextForAll_33 ?_
    refine lv_istore_n (lv' := [(1, .int ((fX7_nextForAll_A1  (fX7_hourOn_P V) k) + ((fX7_hourOn_P V) ((82 + 5 * k) + 4)))), (0, .ref (gad Γ 483)), (2, .int (nI k))]) hx hb dX7_nextForAll_34 rfl hl (by decide) rfl (fun ls hl => ?_)
    refine lv_iinc (v := nI (k + 1)) (lv' := [(2, .int (nI (k + 1))), (1, .int ((fX7_nextForAll_A1  (fX7_hourOn_P V) k) + ((fX7_hourOn_P V) ((82 + 5 * k) + 4)))), (0, .ref (gad Γ 483))]) hx hb dX7_nextForAll_35 hl (k := 2) rfl (nI_1 _) (by decide) rfl (fun ls hl => ?_)
    refine lv_goto (tgt := 11) hx hb dX7_nextForAll_38 (by decide) ?_
    exact ih_k _ _ _ ⟨hG, hS, lv_sub hl [2, 1, 0] rfl⟩

