/-! THE REFERENCE: bestSpray. Laid by gen/p12.py. -/
theorem pl_nI {k : Nat} (h : k < 10) : nI k = nI (nI k).toNatClampNeg ∧ (nI k).toNatClampNeg < 10 := by
  rw [nI_clamp (by omega)]
  exact ⟨rfl, h⟩
def fX7_best_S (N : Nat → Int32) (a d : Int32) (Pk : Nat → Int32) (k : Nat) : Nat → Int32 := if (fX7_driveOn_v (fX7_copyPage_P N Pk 0 0) a.toNatClampNeg (nI k)) = 0 then fX7_driveOn_P (fX7_copyPage_P N Pk 0 0) a.toNatClampNeg (nI k) else if (fX7_sprayOn_v (fX7_driveOn_P (fX7_copyPage_P N Pk 0 0) a.toNatClampNeg (nI k)) a.toNatClampNeg d) = 0 then fX7_sprayOn_P (fX7_driveOn_P (fX7_copyPage_P N Pk 0 0) a.toNatClampNeg (nI k)) a.toNatClampNeg d else fX7_hourOn_P (fX7_sprayOn_P (fX7_driveOn_P (fX7_copyPage_P N Pk 0 0) a.toNatClampNeg (nI k)) a.toNatClampNeg d)
def fX7_best_L (N : Nat → Int32) (a d : Int32) (P : Nat → Int32) : Nat → Nat → Int32
  | 0 => P
  | k + 1 => fX7_best_S N a d (fX7_best_L N a d P k) k
def fX7_best_T3 (N : Nat → Int32) (a d : Int32) (Pk : Nat → Int32) (k : Nat) (a3 : Int32) (a4 : Int32) : Int32 := if (fX7_driveOn_v (fX7_copyPage_P N Pk 0 0) a.toNatClampNeg (nI k)) = 0 then a3 else if (fX7_sprayOn_v (fX7_driveOn_P (fX7_copyPage_P N Pk 0 0) a.toNatClampNeg (nI k)) a.toNatClampNeg d) = 0 then a3 else if a3 = (-9) then nI k else if (fX7_nextForAll_A1  (fX7_hourOn_P (fX7_sprayOn_P (fX7_driveOn_P (fX7_copyPage_P N Pk 0 0) a.toNatClampNeg (nI k)) a.toNatClampNeg d)) ((fX7_hourOn_P (fX7_sprayOn_P (fX7_driveOn_P (fX7_copyPage_P N Pk 0 0) a.toNatClampNeg (nI k)) a.toNatClampNeg d)) 1).toNatClampNeg) < a4 then nI k else if (fX7_nextForAll_A1  (fX7_hourOn_P (fX7_sprayOn_P (fX7_driveOn_P (fX7_copyPage_P N Pk 0 0) a.toNatClampNeg (nI k)) a.toNatClampNeg d)) ((fX7_hourOn_P (fX7_sprayOn_P (fX7_driveOn_P (fX7_copyPage_P N Pk 0 0) a.toNatClampNeg (nI k)) a.toNatClampNeg d)) 1).toNatClampNeg) = a4 then if (fX7_far_v N a.toNatClampNeg a3) ≤ (fX7_far_v N a.toNatClampNeg (nI k)) then a3 else nI k else a3
def fX7_best_T4 (N : Nat → Int32) (a d : Int32) (Pk : Nat → Int32) (k : Nat) (a3 : Int32) (a4 : Int32) : Int32 := if (fX7_driveOn_v (fX7_copyPage_P N Pk 0 0) a.toNatClampNeg (nI k)) = 0 then a4 else if (fX7_sprayOn_v (fX7_driveOn_P (fX7_copyPage_P N Pk 0 0) a.toNatClampNeg (nI k)) a.toNatClampNeg d) = 0 then a4 else if a3 = (-9) then fX7_nextForAll_A1  (fX7_hourOn_P (fX7_sprayOn_P (fX7_driveOn_P (fX7_copyPage_P N Pk 0 0) a.toNatClampNeg (nI k)) a.toNatClampNeg d)) ((fX7_hourOn_P (fX7_sprayOn_P (fX7_driveOn_P (fX7_copyPage_P N Pk 0 0) a.toNatClampNeg (nI k)) a.toNatClampNeg d)) 1).toNatClampNeg else if (fX7_nextForAll_A1  (fX7_hourOn_P (fX7_sprayOn_P (fX7_driveOn_P (fX7_copyPage_P N Pk 0 0) a.toNatClampNeg (nI k)) a.toNatClampNeg d)) ((fX7_hourOn_P (fX7_sprayOn_P (fX7_driveOn_P (fX7_copyPage_P N Pk 0 0) a.toNatClampNeg (nI k)) a.toNatClampNeg d)) 1).toNatClampNeg) < a4 then fX7_nextForAll_A1  (fX7_hourOn_P (fX7_sprayOn_P (fX7_driveOn_P (fX7_copyPage_P N Pk 0 0) a.toNatClampNeg (nI k)) a.toNatClampNeg d)) ((fX7_hourOn_P (fX7_sprayOn_P (fX7_driveOn_P (fX7_copyPage_P N Pk 0 0) a.toNatClampNeg (nI k)) a.toNatClampNeg d)) 1).toNatClampNeg else if (fX7_nextForAll_A1  (fX7_hourOn_P (fX7_sprayOn_P (fX7_driveOn_P (fX7_copyPage_P N Pk 0 0) a.toNatClampNeg (nI k)) a.toNatClampNeg d)) ((fX7_hourOn_P (fX7_sprayOn_P (fX7_driveOn_P (fX7_copyPage_P N Pk 0 0) a.toNatClampNeg (nI k)) a.toNatClampNeg d)) 1).toNatClampNeg) = a4 then if (fX7_far_v N a.toNatClampNeg a3) ≤ (fX7_far_v N a.toNatClampNeg (nI k)) then a4 else fX7_nextForAll_A1  (fX7_hourOn_P (fX7_sprayOn_P (fX7_driveOn_P (fX7_copyPage_P N Pk 0 0) a.toNatClampNeg (nI k)) a.toNatClampNeg d)) ((fX7_hourOn_P (fX7_sprayOn_P (fX7_driveOn_P (fX7_copyPage_P N Pk 0 0) a.toNatClampNeg (nI k)) a.toNatClampNeg d)) 1).toNatClampNeg else a4
def fX7_best_A (N : Nat → Int32) (a d : Int32) (P : Nat → Int32) : Nat → Int32 × Int32
  | 0 => ((-9), 0)
  | k + 1 => (fX7_best_T3 N a d (fX7_best_L N a d P k) k (fX7_best_A N a d P k).1 (fX7_best_A N a d P k).2, fX7_best_T4 N a d (fX7_best_L N a d P k) k (fX7_best_A N a d P k).1 (fX7_best_A N a d P k).2)
def fX7_bestSpray_v (A T D N V I K B : Nat → Int32) (a d : Int32) : Int32 := if (fX7_isWagon_v N a) = 0 then 0 else if (fX7_in_v d.toInt64 1 9) = 0 then 0 else (fX7_best_A N a d V ((N 0).toNatClampNeg)).1
def fX7_bestSpray_A (A T D N V I K B : Nat → Int32) (a d : Int32) : Nat → Int32 := if (fX7_isWagon_v N a) = 0 then upd A 0 1 else if (fX7_in_v d.toInt64 1 9) = 0 then upd A 0 2 else upd A 0 0
def fX7_bestSpray_V (A T D N V I K B : Nat → Int32) (a d : Int32) : Nat → Int32 := if (fX7_isWagon_v N a) = 0 then V else if (fX7_in_v d.toInt64 1 9) = 0 then V else fX7_best_L N a d V ((N 0).toNatClampNeg)
set_option maxHeartbeats 4000000 in
set_option maxRecDepth 100000 in
theorem mX7_bestSpray {l : Launch} {Γ : gX} (M : Nat → Nat → Int32) (R : Nat → Nat → Option Nat) (O : Int64) (hL : LM Γ R) (A T D N V I K B : Nat → Int32) (a d : Int32) (hN : WS N) : gMet l Γ yX7_bestSpray wsX7_bestSpray 6 133 [.ref (gad Γ 483), .int a, .int d] (mS M A T D N V I K B) R O (some (.int (fX7_bestSpray_v A T D N V I K B a d))) (mS M (fX7_bestSpray_A A T D N V I K B a d) T D N (fX7_bestSpray_V A T D N V I K B a d) I K B) R O := by
  refine g_start (cc := cX7_bestSpray) (maxL := 7) (ret := (some .int)) (by decide) rfl (Nat.le_of_ble_eq_true rfl) ?_
  intro p e s m below meth c ls hx hb hml hrt hts hown hlocks hname hK hZ hG hS hl
  have hl : lv_has ls 7 [(0, .ref (gad Γ 483)), (1, .int a), (2, .int d)] := hl
  have hown : s.vm.findClass RX7 = some m.cls := hown
  have hF : CallFix p m c cX7_bestSpray 7 s _ wsX7_bestSpray RX7 := ⟨hx, hb, hml, hown, hts⟩
  have k_1 : (Cond.fieldLink RX7 16 "RoadDustModel" "now" "[I").before _ s = true := hts _ (by decide +kernel)
  have in_X7 : ∀ w ∈ wsX70, w ∈ wsX7_bestSpray := by decide +kernel
  have k_3 : (Cond.constantLong RX7 102 (9)).before _ s = true := hts _ (by decide +kernel)
  have k_4 : (Cond.fieldLink RX7 19 "RoadDustModel" "trial" "[I").before _ s = true := hts _ (by decide +kernel)
  have n0 := hN.1.2
  have n1 := hN.2.1.2
  have n2 := hN.2.2.1.2
  refine lv_aload_n hx hb dX7_bestSpray_0 rfl (lv_at hl 0 rfl) ?_
  refine lv_aload_n hx hb dX7_bestSpray_1 rfl (lv_at hl 0 rfl) ?_
  refine gM_getr hx hb hts in_X7 hown hK hL hG 5 (by decide) rfl hL.2.2.2.1 k_1 (fun _ h => h) dX7_bestSpray_2 ?_
  refine lv_iload_n hx hb dX7_bestSpray_5 rfl (lv_at hl 1 rfl) ?_
  refine g_callS (As := [.ref (gad Γ 486), .int a]) (rest := [.ref (gad Γ 483)]) (st1 := [.int (fX7_isWagon_v N a), .ref (gad Γ 483)]) hF (mX7_isWagon (mS M A T D N V I K B) R O (hL.1 486 (by decide) (by decide)) (show gC 486 = (9, 27, 0) from rfl) (show gLen 486 = 131 from rfl) N a) (va_cwS 2 hts gX7_bestSpray_X7_isWagon rfl rfl rfl (by decide +kernel) ⟨Nat.le_of_ble_eq_true rfl, Nat.le_of_ble_eq_true rfl⟩) hK hZ (g_st (show _ = va_up (mS M A T D N V I K B) 27 N from (mS_u27 _ _ _ _ _ _ _ _ _ _).symm) hG) hS rfl hl.1 (Nat.le_of_ble_eq_true rfl) dX7_bestSpray_6 ⟨Nat.zero_le _, Nat.zero_le _⟩ rfl rfl (fun H locs hG hS => ?_)
  replace hG : GH Γ (mS M A T D N V I K B) R O H := g_st (mS_u27 _ _ _ _ _ _ _ _ _ _) hG
  refine lv_if_ne (tgt := 16) hx hb dX7_bestSpray_9 (by decide) (fun c_1 => ?_) (fun c_1 => ?_)
  · --T
    refine lv_iload_n hx hb dX7_bestSpray_16 rfl (lv_at hl 2 rfl) ?_
    refine lv_i2l hx hb dX7_bestSpray_17 rfl ?_
    refine lv_lconst (v := 1) hx hb dX7_bestSpray_18 (by decide) ?_
    refine lv_ldc2 hx hb hown k_3 dX7_bestSpray_19 ?_
    refine g_callS (As := [.long d.toInt64, .long 1, .long 9]) (rest := [.ref (gad Γ 483)]) (st1 := [.int (fX7_in_v d.toInt64 1 9), .ref (gad Γ 483)]) hF (mX7_in _ R O d.toInt64 1 9) (va_cwS 3 hts gX7_bestSpray_X7_in rfl rfl rfl (by decide +kernel) ⟨Nat.le_of_ble_eq_true rfl, Nat.le_of_ble_eq_true rfl⟩) hK hZ hG hS rfl hl.1 (Nat.le_of_ble_eq_true rfl) dX7_bestSpray_22 ⟨Nat.zero_le _, Nat.zero_le _⟩ rfl rfl (fun H locs hG hS => ?_)
    refine lv_if_ne (tgt := 32) hx hb dX7_bestSpray_25 (by decide) (fun c_2 => ?_) (fun c_2 => ?_)
    · --T
      refine lv_iconst (v := 0) hx hb dX7_bestSpray_32 (by decide) ?_
      refine g_callV (As := [.int 0]) (rest := []) (st1 := [.int 0]) hF (mX7_refused_l M R O hL A T D N V I K B 0 0 (by decide)) (cwV 1 hts gX7_bestSpray_X7_refused rfl rfl rfl (by decide +kernel) ⟨Nat.le_of_ble_eq_true rfl, Nat.le_of_ble_eq_true rfl⟩) hK hZ hG hS (hL.1 483 (by decide) (by decide)) (show gC 483 = (7, 24, 0) from rfl) (by decide) rfl rfl hl.1 (Nat.le_of_ble_eq_true rfl) dX7_bestSpray_33 ⟨Nat.zero_le _, Nat.zero_le _⟩ rfl rfl (fun H locs hG hS => ?_)
      refine lv_if_eq (tgt := 41) hx hb dX7_bestSpray_36 (by decide) (fun c_3 => ?_) (fun c_3 => absurd (by decide) c_3)
      have q_1 := (isPl hN.2.2.1.1 (by omega) c_1).2
      refine lv_bipush (v := (-9)) hx hb dX7_bestSpray_41 (by decide) ?_
      refine lv_istore_n (lv' := [(3, .int (-9)), (0, .ref (gad Γ 483)), (1, .int a), (2, .int d)]) hx hb dX7_bestSpray_43 rfl hl (by decide) rfl (fun ls hl => ?_)
      refine lv_iconst (v := 0) hx hb dX7_bestSpray_44 (by decide) ?_
      refine lv_istore (lv' := [(4, .int 0), (3, .int (-9)), (0, .ref (gad Γ 483)), (1, .int a), (2, .int d)]) hx hb dX7_bestSpray_45 hl (by decide) rfl (fun ls hl => ?_)
      refine lv_iconst (v := 0) hx hb dX7_bestSpray_47 (by decide) ?_
      refine lv_istore (lv' := [(5, .int 0), (4, .int 0), (3, .int (-9)), (0, .ref (gad Γ 483)), (1, .int a), (2, .int d)]) hx hb dX7_bestSpray_48 hl (by decide) rfl (fun ls hl => ?_)
      refine g_loop (N := (N 0).toNatClampNeg) (fun k H locs ls => GH Γ (mS M (upd A 0 0) T D N (fX7_best_L N a d V k) I K B) R O H ∧ va_S (gA Γ) s.heap H locs ∧ lv_has ls 7 [(0, .ref (gad Γ 483)), (1, .int a), (2, .int d), (3, .int ((fX7_best_A N a d V k).1)), (4, .int ((fX7_best_A N a d V k).2)), (5, .int (nI k))]) ?_ ?_ 0 (Nat.zero_le _) _ _ _ ⟨hG, hS, lv_sub hl [3, 4, 5, 2, 1, 0] rfl⟩
      · rintro H locs ls ⟨hG, hS, hl⟩
        refine lv_iload hx hb dX7_bestSpray_50 (lv_at hl 5 rfl) ?_
        refine lv_aload_n hx hb dX7_bestSpray_52 rfl (lv_at hl 0 rfl) ?_
        refine gM_getr hx hb hts in_X7 hown hK hL hG 5 (by decide) rfl hL.2.2.2.1 k_1 (fun _ h => h) dX7_bestSpray_53 ?_
        refine lv_iconst (v := 0) hx hb dX7_bestSpray_56 (by decide) ?_
        refine gm_ald hx hb hK hG (hL.1 486 (by decide) (by decide)) (show gC 486 = (9, 27, 0) from rfl) (show gLen 486 = 131 from rfl) (by decide) (j := 0) rfl (by omega) (v := N 0) (mS_a27 _ _ _ _ _ _ _ _ _ _) dX7_bestSpray_57 ?_
        refine lv_icmp_ge (tgt := 160) hx hb dX7_bestSpray_58 (by decide) (fun c_4 => ?_) (fun c_4 => absurd (cl_le _) c_4)
        refine lv_iload_n hx hb dX7_bestSpray_160 rfl (lv_at hl 3 rfl) ?_
        exact g_iret hx hb hrt hlocks hS hG (by unfold fX7_bestSpray_v; rw [if_neg c_1, if_neg c_2]) (mS_c (by unfold fX7_bestSpray_A; rw [if_neg c_1, if_neg c_2]) rfl rfl rfl (by unfold fX7_bestSpray_V; rw [if_neg c_1, if_neg c_2]) rfl rfl rfl) dX7_bestSpray_161
      · rintro k hk_k ih_k H locs ls ⟨hG, hS, hl⟩
        refine lv_iload hx hb dX7_bestSpray_50 (lv_at hl 5 rfl) ?_
        refine lv_aload_n hx hb dX7_bestSpray_52 rfl (lv_at hl 0 rfl) ?_
        refine gM_getr hx hb hts in_X7 hown hK hL hG 5 (by decide) rfl hL.2.2.2.1 k_1 (fun _ h => h) dX7_bestSpray_53 ?_
        refine lv_iconst (v := 0) hx hb dX7_bestSpray_56 (by decide) ?_
        refine gm_ald hx hb hK hG (hL.1 486 (by decide) (by decide)) (show gC 486 = (9, 27, 0) from rfl) (show gLen 486 = 131 from rfl) (by decide) (j := 0) rfl (by omega) (v := N 0) (mS_a27 _ _ _ _ _ _ _ _ _ _) dX7_bestSpray_57 ?_
        refine lv_icmp_ge (tgt := 160) hx hb dX7_bestSpray_58 (by decide) (fun c_5 => absurd c_5 (cl_ge hk_k)) (fun c_5 => ?_)
        refine lv_aload_n hx hb dX7_bestSpray_61 rfl (lv_at hl 0 rfl) ?_
        refine gM_getr hx hb hts in_X7 hown hK hL hG 5 (by decide) rfl hL.2.2.2.1 k_1 (fun _ h => h) dX7_bestSpray_62 ?_
        refine lv_iconst (v := 0) hx hb dX7_bestSpray_65 (by decide) ?_
        refine lv_aload_n hx hb dX7_bestSpray_66 rfl (lv_at hl 0 rfl) ?_
        refine gM_getr hx hb hts in_X7 hown hK hL hG 6 (by decide) rfl hL.2.2.2.2.1 k_4 (fun _ h => h) dX7_bestSpray_67 ?_
        refine lv_iconst (v := 0) hx hb dX7_bestSpray_70 (by decide) ?_
        refine g_callS (As := [.ref (gad Γ 486), .int 0, .ref (gad Γ 487), .int 0]) (rest := []) (st1 := []) hF (mX7_copyPage_q (mS M (upd A 0 0) T D N (fX7_best_L N a d V k) I K B) R O (hL.1 486 (by decide) (by decide)) (show gC 486 = (9, 27, 0) from rfl) (show gLen 486 = 131 from rfl) (hL.1 487 (by decide) (by decide)) (show gC 487 = (9, 28, 0) from rfl) (show gLen 487 = 131 from rfl) (by decide) 0 0 rfl rfl (by omega) (by omega) (by decide) (by decide) (fX7_best_L N a d V k) _ (mS_b27 _ _ _ _ _ _ _ _ _)) (va_cwS 4 hts gX7_bestSpray_X7_copyPage rfl rfl rfl (by decide +kernel) ⟨Nat.le_of_ble_eq_true rfl, Nat.le_of_ble_eq_true rfl⟩) hK hZ (g_st (show _ = va_up (mS M (upd A 0 0) T D N (fX7_best_L N a d V k) I K B) 28 (fX7_best_L N a d V k) from (mS_u28 _ _ _ _ _ _ _ _ _ _).symm) hG) hS rfl hl.1 (Nat.le_of_ble_eq_true rfl) dX7_bestSpray_71 ⟨Nat.zero_le _, Nat.zero_le _⟩ rfl rfl (fun H locs hG hS => ?_)
        replace hG : GH Γ (mS M (upd A 0 0) T D N (fX7_copyPage_P N (fX7_best_L N a d V k) 0 0) I K B) R O H := g_st (mS_u28 _ _ _ _ _ _ _ _ _ _) hG
        refine lv_aload_n hx hb dX7_bestSpray_74 rfl (lv_at hl 0 rfl) ?_
        refine gM_getr hx hb hts in_X7 hown hK hL hG 6 (by decide) rfl hL.2.2.2.2.1 k_4 (fun _ h => h) dX7_bestSpray_75 ?_
        refine lv_iload_n hx hb dX7_bestSpray_78 rfl (lv_at hl 1 rfl) ?_
        refine lv_iload hx hb dX7_bestSpray_79 (lv_at hl 5 rfl) ?_
        refine g_callS (As := [.ref (gad Γ 487), .int a, .int (nI k)]) (rest := []) (st1 := [.int (fX7_driveOn_v (fX7_copyPage_P N (fX7_best_L N a d V k) 0 0) a.toNatClampNeg (nI k))]) hF (mX7_driveOn (mS M (upd A 0 0) T D N (fX7_copyPage_P N (fX7_best_L N a d V k) 0 0) I K B) R O (hL.1 487 (by decide) (by decide)) (show gC 487 = (9, 28, 0) from rfl) (show gLen 487 = 131 from rfl) (fX7_copyPage_P N (fX7_best_L N a d V k) 0 0) a.toNatClampNeg ((isPl hN.2.2.1.1 (by omega) c_1).1) (by omega) (nI k) (WS_cp hN)) (va_cwS 3 hts gX7_bestSpray_X7_driveOn rfl rfl rfl (by decide +kernel) ⟨Nat.le_of_ble_eq_true rfl, Nat.le_of_ble_eq_true rfl⟩) hK hZ (g_st (show _ = va_up (mS M (upd A 0 0) T D N (fX7_copyPage_P N (fX7_best_L N a d V k) 0 0) I K B) 28 (fX7_copyPage_P N (fX7_best_L N a d V k) 0 0) from (mS_u28 _ _ _ _ _ _ _ _ _ _).symm) hG) hS rfl hl.1 (Nat.le_of_ble_eq_true rfl) dX7_bestSpray_81 ⟨Nat.zero_le _, Nat.zero_le _⟩ rfl rfl (fun H locs hG hS => ?_)
        replace hG : GH Γ (mS M (upd A 0 0) T D N (fX7_driveOn_P (fX7_copyPage_P N (fX7_best_L N a d V k) 0 0) a.toNatClampNeg (nI k)) I K B) R O H := g_st (mS_u28 _ _ _ _ _ _ _ _ _ _) hG
        refine lv_if_eq (tgt := 154) hx hb dX7_bestSpray_84 (by decide) (fun c_6 => ?_) (fun c_6 => ?_)
        · --T
          refine lv_iinc (v := nI (k + 1)) (lv' := [(5, .int (nI (k + 1))), (0, .ref (gad Γ 483)), (1, .int a), (2, .int d), (3, .int ((fX7_best_A N a d V k).1)), (4, .int ((fX7_best_A N a d V k).2))]) hx hb dX7_bestSpray_154 hl (k := 5) rfl (nI_1 _) (by decide) rfl (fun ls hl => ?_)
          refine lv_goto (tgt := 50) hx hb dX7_bestSpray_157 (by decide) ?_
          have e_3 : (fX7_best_A N a d V (k + 1)).1 = (fX7_best_A N a d V k).1 := by
            show fX7_best_T3 N a d (fX7_best_L N a d V k) k ((fX7_best_A N a d V k).1) ((fX7_best_A N a d V k).2) = _
            unfold fX7_best_T3
            rw [if_pos c_6]
          have e_4 : (fX7_best_A N a d V (k + 1)).2 = (fX7_best_A N a d V k).2 := by
            show fX7_best_T4 N a d (fX7_best_L N a d V k) k ((fX7_best_A N a d V k).1) ((fX7_best_A N a d V k).2) = _
            unfold fX7_best_T4
            rw [if_pos c_6]
          have hl9 : lv_has ls 7 [(0, .ref (gad Γ 483)), (1, .int a), (2, .int d), (3, .int ((fX7_best_A N a d V k).1)), (4, .int ((fX7_best_A N a d V k).2)), (5, .int (nI (k + 1)))] := lv_sub hl [1, 2, 3, 4, 5, 0] rfl
          exact ih_k _ _ _ ⟨g_st (mS_c rfl rfl rfl rfl (by show _ = fX7_best_S N a d (fX7_best_L N a d V k) k; unfold fX7_best_S; rw [if_pos c_6]) rfl rfl rfl) hG, hS, (by rw [e_3, e_4]; exact hl9)⟩
        · --F
          refine lv_aload_n hx hb dX7_bestSpray_87 rfl (lv_at hl 0 rfl) ?_
          refine gM_getr hx hb hts in_X7 hown hK hL hG 6 (by decide) rfl hL.2.2.2.2.1 k_4 (fun _ h => h) dX7_bestSpray_88 ?_
          refine lv_iload_n hx hb dX7_bestSpray_91 rfl (lv_at hl 1 rfl) ?_
          refine lv_iload_n hx hb dX7_bestSpray_92 rfl (lv_at hl 2 rfl) ?_
          refine g_callS (As := [.ref (gad Γ 487), .int a, .int d]) (rest := []) (st1 := [.int (fX7_sprayOn_v (fX7_driveOn_P (fX7_copyPage_P N (fX7_best_L N a d V k) 0 0) a.toNatClampNeg (nI k)) a.toNatClampNeg d)]) hF (mX7_sprayOn (mS M (upd A 0 0) T D N (fX7_driveOn_P (fX7_copyPage_P N (fX7_best_L N a d V k) 0 0) a.toNatClampNeg (nI k)) I K B) R O (hL.1 487 (by decide) (by decide)) (show gC 487 = (9, 28, 0) from rfl) (show gLen 487 = 131 from rfl) (fX7_driveOn_P (fX7_copyPage_P N (fX7_best_L N a d V k) 0 0) a.toNatClampNeg (nI k)) a.toNatClampNeg ((isPl hN.2.2.1.1 (by omega) c_1).1) (by omega) d (WS_drive (WS_cp hN) (by omega) (pl_nI (by omega)).1 (pl_nI (by omega)).2)) (va_cwS 3 hts gX7_bestSpray_X7_sprayOn rfl rfl rfl (by decide +kernel) ⟨Nat.le_of_ble_eq_true rfl, Nat.le_of_ble_eq_true rfl⟩) hK hZ (g_st (show _ = va_up (mS M (upd A 0 0) T D N (fX7_driveOn_P (fX7_copyPage_P N (fX7_best_L N a d V k) 0 0) a.toNatClampNeg (nI k)) I K B) 28 (fX7_driveOn_P (fX7_copyPage_P N (fX7_best_L N a d V k) 0 0) a.toNatClampNeg (nI k)) from (mS_u28 _ _ _ _ _ _ _ _ _ _).symm) hG) hS rfl hl.1 (Nat.le_of_ble_eq_true rfl) dX7_bestSpray_93 ⟨Nat.zero_le _, Nat.zero_le _⟩ rfl rfl (fun H locs hG hS => ?_)
          replace hG : GH Γ (mS M (upd A 0 0) T D N (fX7_sprayOn_P (fX7_driveOn_P (fX7_copyPage_P N (fX7_best_L N a d V k) 0 0) a.toNatClampNeg (nI k)) a.toNatClampNeg d) I K B) R O H := g_st (mS_u28 _ _ _ _ _ _ _ _ _ _) hG
          refine lv_if_eq (tgt := 154) hx hb dX7_bestSpray_96 (by decide) (fun c_7 => ?_) (fun c_7 => ?_)
          · --T
            refine lv_iinc (v := nI (k + 1)) (lv' := [(5, .int (nI (k + 1))), (0, .ref (gad Γ 483)), (1, .int a), (2, .int d), (3, .int ((fX7_best_A N a d V k).1)), (4, .int ((fX7_best_A N a d V k).2))]) hx hb dX7_bestSpray_154 hl (k := 5) rfl (nI_1 _) (by decide) rfl (fun ls hl => ?_)
            refine lv_goto (tgt := 50) hx hb dX7_bestSpray_157 (by decide) ?_
            have e_3 : (fX7_best_A N a d V (k + 1)).1 = (fX7_best_A N a d V k).1 := by
              show fX7_best_T3 N a d (fX7_best_L N a d V k) k ((fX7_best_A N a d V k).1) ((fX7_best_A N a d V k).2) = _
              unfold fX7_best_T3
              rw [if_neg c_6, if_pos c_7]
            have e_4 : (fX7_best_A N a d V (k + 1)).2 = (fX7_best_A N a d V k).2 := by
              show fX7_best_T4 N a d (fX7_best_L N a d V k) k ((fX7_best_A N a d V k).1) ((fX7_best_A N a d V k).2) = _
              unfold fX7_best_T4
              rw [if_neg c_6, if_pos c_7]
            have hl9 : lv_has ls 7 [(0, .ref (gad Γ 483)), (1, .int a), (2, .int d), (3, .int ((fX7_best_A N a d V k).1)), (4, .int ((fX7_best_A N a d V k).2)), (5, .int (nI (k + 1)))] := lv_sub hl [1, 2, 3, 4, 5, 0] rfl
            exact ih_k _ _ _ ⟨g_st (mS_c rfl rfl rfl rfl (by show _ = fX7_best_S N a d (fX7_best_L N a d V k) k; unfold fX7_best_S; rw [if_neg c_6, if_pos c_7]) rfl rfl rfl) hG, hS, (by rw [e_3, e_4]; exact hl9)⟩
          · --F
            refine lv_aload_n hx hb dX7_bestSpray_99 rfl (lv_at hl 0 rfl) ?_
            refine g_callV (As := []) (rest := []) (st1 := [.int (fX7_nextForAll_A1  (fX7_hourOn_P (fX7_sprayOn_P (fX7_driveOn_P (fX7_copyPage_P N (fX7_best_L N a d V k) 0 0) a.toNatClampNeg (nI k)) a.toNatClampNeg d)) ((fX7_hourOn_P (fX7_sprayOn_P (fX7_driveOn_P (fX7_copyPage_P N (fX7_best_L N a d V k) 0 0) a.toNatClampNeg (nI k)) a.toNatClampNeg d)) 1).toNatClampNeg)]) hF (mX7_nextForAll M R O hL (upd A 0 0) T D N (fX7_sprayOn_P (fX7_driveOn_P (fX7_copyPage_P N (fX7_best_L N a d V k) 0 0) a.toNatClampNeg (nI k)) a.toNatClampNeg d) I K B (WS_spray (by omega) (WS_drive (WS_cp hN) (by omega) (pl_nI (by omega)).1 (pl_nI (by omega)).2))) (cwV 0 hts gX7_bestSpray_X7_nextForAll rfl rfl rfl (by decide +kernel) ⟨Nat.le_of_ble_eq_true rfl, Nat.le_of_ble_eq_true rfl⟩) hK hZ hG hS (hL.1 483 (by decide) (by decide)) (show gC 483 = (7, 24, 0) from rfl) (by decide) rfl rfl hl.1 (Nat.le_of_ble_eq_true rfl) dX7_bestSpray_100 ⟨Nat.zero_le _, Nat.zero_le _⟩ rfl rfl (fun H locs hG hS => ?_)
            replace hG : GH Γ (mS M (upd A 0 0) T D N (fX7_hourOn_P (fX7_sprayOn_P (fX7_driveOn_P (fX7_copyPage_P N (fX7_best_L N a d V k) 0 0) a.toNatClampNeg (nI k)) a.toNatClampNeg d)) I K B) R O H := hG
            refine lv_istore (lv' := [(6, .int (fX7_nextForAll_A1  (fX7_hourOn_P (fX7_sprayOn_P (fX7_driveOn_P (fX7_copyPage_P N (fX7_best_L N a d V k) 0 0) a.toNatClampNeg (nI k)) a.toNatClampNeg d)) ((fX7_hourOn_P (fX7_sprayOn_P (fX7_driveOn_P (fX7_copyPage_P N (fX7_best_L N a d V k) 0 0) a.toNatClampNeg (nI k)) a.toNatClampNeg d)) 1).toNatClampNeg)), (0, .ref (gad Γ 483)), (1, .int a), (2, .int d), (3, .int ((fX7_best_A N a d V k).1)), (4, .int ((fX7_best_A N a d V k).2)), (5, .int (nI k))]) hx hb dX7_bestSpray_103 hl (by decide) rfl (fun ls hl => ?_)
            refine lv_iload_n hx hb dX7_bestSpray_105 rfl (lv_at hl 4 rfl) ?_
            refine lv_bipush (v := (-9)) hx hb dX7_bestSpray_106 (by decide) ?_
            refine lv_icmp_eq (tgt := 147) hx hb dX7_bestSpray_108 (by decide) (fun c_8 => ?_) (fun c_8 => ?_)
            · --T
              refine lv_iload hx hb dX7_bestSpray_147 (lv_at hl 6 rfl) ?_
              refine lv_istore_n (lv' := [(3, .int (nI k)), (6, .int (fX7_nextForAll_A1  (fX7_hourOn_P (fX7_sprayOn_P (fX7_driveOn_P (fX7_copyPage_P N (fX7_best_L N a d V k) 0 0) a.toNatClampNeg (nI k)) a.toNatClampNeg d)) ((fX7_hourOn_P (fX7_sprayOn_P (fX7_driveOn_P (fX7_copyPage_P N (fX7_best_L N a d V k) 0 0) a.toNatClampNeg (nI k)) a.toNatClampNeg d)) 1).toNatClampNeg)), (0, .ref (gad Γ 483)), (1, .int a), (2, .int d), (4, .int ((fX7_best_A N a d V k).2)), (5, .int (nI k))]) hx hb dX7_bestSpray_149 rfl hl (by decide) rfl (fun ls hl => ?_)
              refine lv_iload hx hb dX7_bestSpray_150 (lv_at hl 1 rfl) ?_
              refine lv_istore (lv' := [(4, .int (fX7_nextForAll_A1  (fX7_hourOn_P (fX7_sprayOn_P (fX7_driveOn_P (fX7_copyPage_P N (fX7_best_L N a d V k) 0 0) a.toNatClampNeg (nI k)) a.toNatClampNeg d)) ((fX7_hourOn_P (fX7_sprayOn_P (fX7_driveOn_P (fX7_copyPage_P N (fX7_best_L N a d V k) 0 0) a.toNatClampNeg (nI k)) a.toNatClampNeg d)) 1).toNatClampNeg)), (3, .int (nI k)), (6, .int (fX7_nextForAll_A1  (fX7_hourOn_P (fX7_sprayOn_P (fX7_driveOn_P (fX7_copyPage_P N (fX7_best_L N a d V k) 0 0) a.toNatClampNeg (nI k)) a.toNatClampNeg d)) ((fX7_hourOn_P (fX7_sprayOn_P (fX7_driveOn_P (fX7_copyPage_P N (fX7_best_L N a d V k) 0 0) a.toNatClampNeg (nI k)) a.toNatClampNeg d)) 1).toNatClampNeg)), (0, .ref (gad Γ 483)), (1, .int a), (2, .int d), (5, .int (nI k))]) hx hb dX7_bestSpray_152 hl (by decide) rfl (fun ls hl => ?_)
              refine lv_iinc (v := nI (k + 1)) (lv' := [(5, .int (nI (k + 1))), (4, .int (fX7_nextForAll_A1  (fX7_hourOn_P (fX7_sprayOn_P (fX7_driveOn_P (fX7_copyPage_P N (fX7_best_L N a d V k) 0 0) a.toNatClampNeg (nI k)) a.toNatClampNeg d)) ((fX7_hourOn_P (fX7_sprayOn_P (fX7_driveOn_P (fX7_copyPage_P N (fX7_best_L N a d V k) 0 0) a.toNatClampNeg (nI k)) a.toNatClampNeg d)) 1).toNatClampNeg)), (3, .int (nI k)), (6, .int (fX7_nextForAll_A1  (fX7_hourOn_P (fX7_sprayOn_P (fX7_driveOn_P (fX7_copyPage_P N (fX7_best_L N a d V k) 0 0) a.toNatClampNeg (nI k)) a.toNatClampNeg d)) ((fX7_hourOn_P (fX7_sprayOn_P (fX7_driveOn_P (fX7_copyPage_P N (fX7_best_L N a d V k) 0 0) a.toNatClampNeg (nI k)) a.toNatClampNeg d)) 1).toNatClampNeg)), (0, .ref (gad Γ 483)), (1, .int a), (2, .int d)]) hx hb dX7_bestSpray_154 hl (k := 6) rfl (nI_1 _) (by decide) rfl (fun ls hl => ?_)
              refine lv_goto (tgt := 50) hx hb dX7_bestSpray_157 (by decide) ?_
              have e_3 : (fX7_best_A N a d V (k + 1)).1 = nI k := by
                show fX7_best_T3 N a d (fX7_best_L N a d V k) k ((fX7_best_A N a d V k).1) ((fX7_best_A N a d V k).2) = _
                unfold fX7_best_T3
                rw [if_neg c_6, if_neg c_7, if_pos c_8]
              have e_4 : (fX7_best_A N a d V (k + 1)).2 = fX7_nextForAll_A1  (fX7_hourOn_P (fX7_sprayOn_P (fX7_driveOn_P (fX7_copyPage_P N (fX7_best_L N a d V k) 0 0) a.toNatClampNeg (nI k)) a.toNatClampNeg d)) ((fX7_hourOn_P (fX7_sprayOn_P (fX7_driveOn_P (fX7_copyPage_P N (fX7_best_L N a d V k) 0 0) a.toNatClampNeg (nI k)) a.toNatClampNeg d)) 1).toNatClampNeg := by
                show fX7_best_T4 N a d (fX7_best_L N a d V k) k ((fX7_best_A N a d V k).1) ((fX7_best_A N a d V k).2) = _
                unfold fX7_best_T4
                rw [if_neg c_6, if_neg c_7, if_pos c_8]
              have hl9 : lv_has ls 7 [(0, .ref (gad Γ 483)), (1, .int a), (2, .int d), (3, .int (nI k)), (4, .int (fX7_nextForAll_A1  (fX7_hourOn_P (fX7_sprayOn_P (fX7_driveOn_P (fX7_copyPage_P N (fX7_best_L N a d V k) 0 0) a.toNatClampNeg (nI k)) a.toNatClampNeg d)) ((fX7_hourOn_P (fX7_sprayOn_P (fX7_driveOn_P (fX7_copyPage_P N (fX7_best_L N a d V k) 0 0) a.toNatClampNeg (nI k)) a.toNatClampNeg d)) 1).toNatClampNeg)), (5, .int (nI (k + 1)))] := lv_sub hl [4, 5, 6, 2, 1, 0] rfl
              exact ih_k _ _ _ ⟨g_st (mS_c rfl rfl rfl rfl (by show _ = fX7_best_S N a d (fX7_best_L N a d V k) k; unfold fX7_best_S; rw [if_neg c_6, if_neg c_7]) rfl rfl rfl) hG, hS, (by rw [e_3, e_4]; exact hl9)⟩
            · --F
              refine lv_iload hx hb dX7_bestSpray_111 (lv_at hl 0 rfl) ?_
              refine lv_iload hx hb dX7_bestSpray_113 (lv_at hl 5 rfl) ?_
              refine lv_icmp_lt (tgt := 147) hx hb dX7_bestSpray_115 (by decide) (fun c_9 => ?_) (fun c_9 => ?_)
              · --T
                refine lv_iload hx hb dX7_bestSpray_147 (lv_at hl 6 rfl) ?_
                refine lv_istore_n (lv' := [(3, .int (nI k)), (6, .int (fX7_nextForAll_A1  (fX7_hourOn_P (fX7_sprayOn_P (fX7_driveOn_P (fX7_copyPage_P N (fX7_best_L N a d V k) 0 0) a.toNatClampNeg (nI k)) a.toNatClampNeg d)) ((fX7_hourOn_P (fX7_sprayOn_P (fX7_driveOn_P (fX7_copyPage_P N (fX7_best_L N a d V k) 0 0) a.toNatClampNeg (nI k)) a.toNatClampNeg d)) 1).toNatClampNeg)), (0, .ref (gad Γ 483)), (1, .int a), (2, .int d), (4, .int ((fX7_best_A N a d V k).2)), (5, .int (nI k))]) hx hb dX7_bestSpray_149 rfl hl (by decide) rfl (fun ls hl => ?_)
                refine lv_iload hx hb dX7_bestSpray_150 (lv_at hl 1 rfl) ?_
                refine lv_istore (lv' := [(4, .int (fX7_nextForAll_A1  (fX7_hourOn_P (fX7_sprayOn_P (fX7_driveOn_P (fX7_copyPage_P N (fX7_best_L N a d V k) 0 0) a.toNatClampNeg (nI k)) a.toNatClampNeg d)) ((fX7_hourOn_P (fX7_sprayOn_P (fX7_driveOn_P (fX7_copyPage_P N (fX7_best_L N a d V k) 0 0) a.toNatClampNeg (nI k)) a.toNatClampNeg d)) 1).toNatClampNeg)), (3, .int (nI k)), (6, .int (fX7_nextForAll_A1  (fX7_hourOn_P (fX7_sprayOn_P (fX7_driveOn_P (fX7_copyPage_P N (fX7_best_L N a d V k) 0 0) a.toNatClampNeg (nI k)) a.toNatClampNeg d)) ((fX7_hourOn_P (fX7_sprayOn_P (fX7_driveOn_P (fX7_copyPage_P N (fX7_best_L N a d V k) 0 0) a.toNatClampNeg (nI k)) a.toNatClampNeg d)) 1).toNatClampNeg)), (0, .ref (gad Γ 483)), (1, .int a), (2, .int d), (5, .int (nI k))]) hx hb dX7_bestSpray_152 hl (by decide) rfl (fun ls hl => ?_)
                refine lv_iinc (v := nI (k + 1)) (lv' := [(5, .int (nI (k + 1))), (4, .int (fX7_nextForAll_A1  (fX7_hourOn_P (fX7_sprayOn_P (fX7_driveOn_P (fX7_copyPage_P N (fX7_best_L N a d V k) 0 0) a.toNatClampNeg (nI k)) a.toNatClampNeg d)) ((fX7_hourOn_P (fX7_sprayOn_P (fX7_driveOn_P (fX7_copyPage_P N (fX7_best_L N a d V k) 0 0) a.toNatClampNeg (nI k)) a.toNatClampNeg d)) 1).toNatClampNeg)), (3, .int (nI k)), (6, .int (fX7_nextForAll_A1  (fX7_hourOn_P (fX7_sprayOn_P (fX7_driveOn_P (fX7_copyPage_P N (fX7_best_L N a d V k) 0 0) a.toNatClampNeg (nI k)) a.toNatClampNeg d)) ((fX7_hourOn_P (fX7_sprayOn_P (fX7_driveOn_P (fX7_copyPage_P N (fX7_best_L N a d V k) 0 0) a.toNatClampNeg (nI k)) a.toNatClampNeg d)) 1).toNatClampNeg)), (0, .ref (gad Γ 483)), (1, .int a), (2, .int d)]) hx hb dX7_bestSpray_154 hl (k := 6) rfl (nI_1 _) (by decide) rfl (fun ls hl => ?_)
                refine lv_goto (tgt := 50) hx hb dX7_bestSpray_157 (by decide) ?_
                have e_3 : (fX7_best_A N a d V (k + 1)).1 = nI k := by
                  show fX7_best_T3 N a d (fX7_best_L N a d V k) k ((fX7_best_A N a d V k).1) ((fX7_best_A N a d V k).2) = _
                  unfold fX7_best_T3
                  rw [if_neg c_6, if_neg c_7, if_neg c_8, if_pos c_9]
                have e_4 : (fX7_best_A N a d V (k + 1)).2 = fX7_nextForAll_A1  (fX7_hourOn_P (fX7_sprayOn_P (fX7_driveOn_P (fX7_copyPage_P N (fX7_best_L N a d V k) 0 0) a.toNatClampNeg (nI k)) a.toNatClampNeg d)) ((fX7_hourOn_P (fX7_sprayOn_P (fX7_driveOn_P (fX7_copyPage_P N (fX7_best_L N a d V k) 0 0) a.toNatClampNeg (nI k)) a.toNatClampNeg d)) 1).toNatClampNeg := by
                  show fX7_best_T4 N a d (fX7_best_L N a d V k) k ((fX7_best_A N a d V k).1) ((fX7_best_A N a d V k).2) = _
                  unfold fX7_best_T4
                  rw [if_neg c_6, if_neg c_7, if_neg c_8, if_pos c_9]
                have hl9 : lv_has ls 7 [(0, .ref (gad Γ 483)), (1, .int a), (2, .int d), (3, .int (nI k)), (4, .int (fX7_nextForAll_A1  (fX7_hourOn_P (fX7_sprayOn_P (fX7_driveOn_P (fX7_copyPage_P N (fX7_best_L N a d V k) 0 0) a.toNatClampNeg (nI k)) a.toNatClampNeg d)) ((fX7_hourOn_P (fX7_sprayOn_P (fX7_driveOn_P (fX7_copyPage_P N (fX7_best_L N a d V k) 0 0) a.toNatClampNeg (nI k)) a.toNatClampNeg d)) 1).toNatClampNeg)), (5, .int (nI (k + 1)))] := lv_sub hl [4, 5, 6, 2, 1, 0] rfl
                exact ih_k _ _ _ ⟨g_st (mS_c rfl rfl rfl rfl (by show _ = fX7_best_S N a d (fX7_best_L N a d V k) k; unfold fX7_best_S; rw [if_neg c_6, if_neg c_7]) rfl rfl rfl) hG, hS, (by rw [e_3, e_4]; exact hl9)⟩
              · --F
                refine lv_iload hx hb dX7_bestSpray_118 (lv_at hl 0 rfl) ?_
                refine lv_iload hx hb dX7_bestSpray_120 (lv_at hl 5 rfl) ?_
                refine lv_icmp_ne (tgt := 154) hx hb dX7_bestSpray_122 (by decide) (fun c_10 => ?_) (fun c_10 => ?_)
                · --T
                  refine lv_iinc (v := nI (k + 1)) (lv' := [(5, .int (nI (k + 1))), (6, .int (fX7_nextForAll_A1  (fX7_hourOn_P (fX7_sprayOn_P (fX7_driveOn_P (fX7_copyPage_P N (fX7_best_L N a d V k) 0 0) a.toNatClampNeg (nI k)) a.toNatClampNeg d)) ((fX7_hourOn_P (fX7_sprayOn_P (fX7_driveOn_P (fX7_copyPage_P N (fX7_best_L N a d V k) 0 0) a.toNatClampNeg (nI k)) a.toNatClampNeg d)) 1).toNatClampNeg)), (0, .ref (gad Γ 483)), (1, .int a), (2, .int d), (3, .int ((fX7_best_A N a d V k).1)), (4, .int ((fX7_best_A N a d V k).2))]) hx hb dX7_bestSpray_154 hl (k := 6) rfl (nI_1 _) (by decide) rfl (fun ls hl => ?_)
                  refine lv_goto (tgt := 50) hx hb dX7_bestSpray_157 (by decide) ?_
                  have e_3 : (fX7_best_A N a d V (k + 1)).1 = (fX7_best_A N a d V k).1 := by
                    show fX7_best_T3 N a d (fX7_best_L N a d V k) k ((fX7_best_A N a d V k).1) ((fX7_best_A N a d V k).2) = _
                    unfold fX7_best_T3
                    rw [if_neg c_6, if_neg c_7, if_neg c_8, if_neg c_9, if_neg c_10]
                  have e_4 : (fX7_best_A N a d V (k + 1)).2 = (fX7_best_A N a d V k).2 := by
                    show fX7_best_T4 N a d (fX7_best_L N a d V k) k ((fX7_best_A N a d V k).1) ((fX7_best_A N a d V k).2) = _
                    unfold fX7_best_T4
                    rw [if_neg c_6, if_neg c_7, if_neg c_8, if_neg c_9, if_neg c_10]
                  have hl9 : lv_has ls 7 [(0, .ref (gad Γ 483)), (1, .int a), (2, .int d), (3, .int ((fX7_best_A N a d V k).1)), (4, .int ((fX7_best_A N a d V k).2)), (5, .int (nI (k + 1)))] := lv_sub hl [2, 3, 4, 5, 6, 0] rfl
                  exact ih_k _ _ _ ⟨g_st (mS_c rfl rfl rfl rfl (by show _ = fX7_best_S N a d (fX7_best_L N a d V k) k; unfold fX7_best_S; rw [if_neg c_6, if_neg c_7]) rfl rfl rfl) hG, hS, (by rw [e_3, e_4]; exact hl9)⟩
                · --F
                  refine lv_aload_n hx hb dX7_bestSpray_125 rfl (lv_at hl 1 rfl) ?_
                  refine gM_getr hx hb hts in_X7 hown hK hL hG 5 (by decide) rfl hL.2.2.2.1 k_1 (fun _ h => h) dX7_bestSpray_126 ?_
                  refine lv_iload_n hx hb dX7_bestSpray_129 rfl (lv_at hl 2 rfl) ?_
                  refine lv_iload hx hb dX7_bestSpray_130 (lv_at hl 6 rfl) ?_
                  refine g_callS (As := [.ref (gad Γ 486), .int a, .int (nI k)]) (rest := []) (st1 := [.int (fX7_far_v N a.toNatClampNeg (nI k))]) hF (mX7_far (mS M (upd A 0 0) T D N (fX7_hourOn_P (fX7_sprayOn_P (fX7_driveOn_P (fX7_copyPage_P N (fX7_best_L N a d V k) 0 0) a.toNatClampNeg (nI k)) a.toNatClampNeg d)) I K B) R O (hL.1 486 (by decide) (by decide)) (show gC 486 = (9, 27, 0) from rfl) (show gLen 486 = 131 from rfl) N a.toNatClampNeg ((isPl hN.2.2.1.1 (by omega) c_1).1) (by omega) (nI k) hN) (va_cwS 3 hts gX7_bestSpray_X7_far rfl rfl rfl (by decide +kernel) ⟨Nat.le_of_ble_eq_true rfl, Nat.le_of_ble_eq_true rfl⟩) hK hZ (g_st (show _ = va_up (mS M (upd A 0 0) T D N (fX7_hourOn_P (fX7_sprayOn_P (fX7_driveOn_P (fX7_copyPage_P N (fX7_best_L N a d V k) 0 0) a.toNatClampNeg (nI k)) a.toNatClampNeg d)) I K B) 27 N from (mS_u27 _ _ _ _ _ _ _ _ _ _).symm) hG) hS rfl hl.1 (Nat.le_of_ble_eq_true rfl) dX7_bestSpray_132 ⟨Nat.zero_le _, Nat.zero_le _⟩ rfl rfl (fun H locs hG hS => ?_)
                  replace hG : GH Γ (mS M (upd A 0 0) T D N (fX7_hourOn_P (fX7_sprayOn_P (fX7_driveOn_P (fX7_copyPage_P N (fX7_best_L N a d V k) 0 0) a.toNatClampNeg (nI k)) a.toNatClampNeg d)) I K B) R O H := g_st (mS_u27 _ _ _ _ _ _ _ _ _ _) hG
                  refine lv_aload_n hx hb dX7_bestSpray_135 rfl (lv_at hl 1 rfl) ?_
                  refine gM_getr hx hb hts in_X7 hown hK hL hG 5 (by decide) rfl hL.2.2.2.1 k_1 (fun _ h => h) dX7_bestSpray_136 ?_
                  refine lv_iload_n hx hb dX7_bestSpray_139 rfl (lv_at hl 2 rfl) ?_
                  refine lv_iload_n hx hb dX7_bestSpray_140 rfl (lv_at hl 4 rfl) ?_
                  refine g_callS (As := [.ref (gad Γ 486), .int a, .int ((fX7_best_A N a d V k).1)]) (rest := [.int (fX7_far_v N a.toNatClampNeg (nI k))]) (st1 := [.int (fX7_far_v N a.toNatClampNeg ((fX7_best_A N a d V k).1)), .int (fX7_far_v N a.toNatClampNeg (nI k))]) hF (mX7_far (mS M (upd A 0 0) T D N (fX7_hourOn_P (fX7_sprayOn_P (fX7_driveOn_P (fX7_copyPage_P N (fX7_best_L N a d V k) 0 0) a.toNatClampNeg (nI k)) a.toNatClampNeg d)) I K B) R O (hL.1 486 (by decide) (by decide)) (show gC 486 = (9, 27, 0) from rfl) (show gLen 486 = 131 from rfl) N a.toNatClampNeg ((isPl hN.2.2.1.1 (by omega) c_1).1) (by omega) ((fX7_best_A N a d V k).1) hN) (va_cwS 3 hts gX7_bestSpray_X7_far rfl rfl rfl (by decide +kernel) ⟨Nat.le_of_ble_eq_true rfl, Nat.le_of_ble_eq_true rfl⟩) hK hZ (g_st (show _ = va_up (mS M (upd A 0 0) T D N (fX7_hourOn_P (fX7_sprayOn_P (fX7_driveOn_P (fX7_copyPage_P N (fX7_best_L N a d V k) 0 0) a.toNatClampNeg (nI k)) a.toNatClampNeg d)) I K B) 27 N from (mS_u27 _ _ _ _ _ _ _ _ _ _).symm) hG) hS rfl hl.1 (Nat.le_of_ble_eq_true rfl) dX7_bestSpray_141 ⟨Nat.zero_le _, Nat.zero_le _⟩ rfl rfl (fun H locs hG hS => ?_)
                  replace hG : GH Γ (mS M (upd A 0 0) T D N (fX7_hourOn_P (fX7_sprayOn_P (fX7_driveOn_P (fX7_copyPage_P N (fX7_best_L N a d V k) 0 0) a.toNatClampNeg (nI k)) a.toNatClampNeg d)) I K B) R O H := g_st (mS_u27 _ _ _ _ _ _ _ _ _ _) hG
                  refine lv_icmp_ge (tgt := 154) hx hb dX7_bestSpray_144 (by decide) (fun c_11 => ?_) (fun c_11 => ?_)
                  · --T
                    refine lv_iinc (v := nI (k + 1)) (lv' := [(5, .int (nI (k + 1))), (6, .int (fX7_nextForAll_A1  (fX7_hourOn_P (fX7_sprayOn_P (fX7_driveOn_P (fX7_copyPage_P N (fX7_best_L N a d V k) 0 0) a.toNatClampNeg (nI k)) a.toNatClampNeg d)) ((fX7_hourOn_P (fX7_sprayOn_P (fX7_driveOn_P (fX7_copyPage_P N (fX7_best_L N a d V k) 0 0) a.toNatClampNeg (nI k)) a.toNatClampNeg d)) 1).toNatClampNeg)), (0, .ref (gad Γ 483)), (1, .int a), (2, .int d), (3, .int ((fX7_best_A N a d V k).1)), (4, .int ((fX7_best_A N a d V k).2))]) hx hb dX7_bestSpray_154 hl (k := 6) rfl (nI_1 _) (by decide) rfl (fun ls hl => ?_)
                    refine lv_goto (tgt := 50) hx hb dX7_bestSpray_157 (by decide) ?_
                    have e_3 : (fX7_best_A N a d V (k + 1)).1 = (fX7_best_A N a d V k).1 := by
                      show fX7_best_T3 N a d (fX7_best_L N a d V k) k ((fX7_best_A N a d V k).1) ((fX7_best_A N a d V k).2) = _
                      unfold fX7_best_T3
                      rw [if_neg c_6, if_neg c_7, if_neg c_8, if_neg c_9, if_pos c_10, if_pos c_11]
                    have e_4 : (fX7_best_A N a d V (k + 1)).2 = (fX7_best_A N a d V k).2 := by
                      show fX7_best_T4 N a d (fX7_best_L N a d V k) k ((fX7_best_A N a d V k).1) ((fX7_best_A N a d V k).2) = _
                      unfold fX7_best_T4
                      rw [if_neg c_6, if_neg c_7, if_neg c_8, if_neg c_9, if_pos c_10, if_pos c_11]
                    have hl9 : lv_has ls 7 [(0, .ref (gad Γ 483)), (1, .int a), (2, .int d), (3, .int ((fX7_best_A N a d V k).1)), (4, .int ((fX7_best_A N a d V k).2)), (5, .int (nI (k + 1)))] := lv_sub hl [2, 3, 4, 5, 6, 0] rfl
                    exact ih_k _ _ _ ⟨g_st (mS_c rfl rfl rfl rfl (by show _ = fX7_best_S N a d (fX7_best_L N a d V k) k; unfold fX7_best_S; rw [if_neg c_6, if_neg c_7]) rfl rfl rfl) hG, hS, (by rw [e_3, e_4]; exact hl9)⟩
                  · --F
                    refine lv_iload hx hb dX7_bestSpray_147 (lv_at hl 6 rfl) ?_
                    refine lv_istore_n (lv' := [(3, .int (nI k)), (6, .int (fX7_nextForAll_A1  (fX7_hourOn_P (fX7_sprayOn_P (fX7_driveOn_P (fX7_copyPage_P N (fX7_best_L N a d V k) 0 0) a.toNatClampNeg (nI k)) a.toNatClampNeg d)) ((fX7_hourOn_P (fX7_sprayOn_P (fX7_driveOn_P (fX7_copyPage_P N (fX7_best_L N a d V k) 0 0) a.toNatClampNeg (nI k)) a.toNatClampNeg d)) 1).toNatClampNeg)), (0, .ref (gad Γ 483)), (1, .int a), (2, .int d), (4, .int ((fX7_best_A N a d V k).2)), (5, .int (nI k))]) hx hb dX7_bestSpray_149 rfl hl (by decide) rfl (fun ls hl => ?_)
                    refine lv_iload hx hb dX7_bestSpray_150 (lv_at hl 1 rfl) ?_
                    refine lv_istore (lv' := [(4, .int (fX7_nextForAll_A1  (fX7_hourOn_P (fX7_sprayOn_P (fX7_driveOn_P (fX7_copyPage_P N (fX7_best_L N a d V k) 0 0) a.toNatClampNeg (nI k)) a.toNatClampNeg d)) ((fX7_hourOn_P (fX7_sprayOn_P (fX7_driveOn_P (fX7_copyPage_P N (fX7_best_L N a d V k) 0 0) a.toNatClampNeg (nI k)) a.toNatClampNeg d)) 1).toNatClampNeg)), (3, .int (nI k)), (6, .int (fX7_nextForAll_A1  (fX7_hourOn_P (fX7_sprayOn_P (fX7_driveOn_P (fX7_copyPage_P N (fX7_best_L N a d V k) 0 0) a.toNatClampNeg (nI k)) a.toNatClampNeg d)) ((fX7_hourOn_P (fX7_sprayOn_P (fX7_driveOn_P (fX7_copyPage_P N (fX7_best_L N a d V k) 0 0) a.toNatClampNeg (nI k)) a.toNatClampNeg d)) 1).toNatClampNeg)), (0, .ref (gad Γ 483)), (1, .int a), (2, .int d), (5, .int (nI k))]) hx hb dX7_bestSpray_152 hl (by decide) rfl (fun ls hl => ?_)
                    refine lv_iinc (v := nI (k + 1)) (lv' := [(5, .int (nI (k + 1))), (4, .int (fX7_nextForAll_A1  (fX7_hourOn_P (fX7_sprayOn_P (fX7_driveOn_P (fX7_copyPage_P N (fX7_best_L N a d V k) 0 0) a.toNatClampNeg (nI k)) a.toNatClampNeg d)) ((fX7_hourOn_P (fX7_sprayOn_P (fX7_driveOn_P (fX7_copyPage_P N (fX7_best_L N a d V k) 0 0) a.toNatClampNeg (nI k)) a.toNatClampNeg d)) 1).toNatClampNeg)), (3, .int (nI k)), (6, .int (fX7_nextForAll_A1  (fX7_hourOn_P (fX7_sprayOn_P (fX7_driveOn_P (fX7_copyPage_P N (fX7_best_L N a d V k) 0 0) a.toNatClampNeg (nI k)) a.toNatClampNeg d)) ((fX7_hourOn_P (fX7_sprayOn_P (fX7_driveOn_P (fX7_copyPage_P N (fX7_best_L N a d V k) 0 0) a.toNatClampNeg (nI k)) a.toNatClampNeg d)) 1).toNatClampNeg)), (0, .ref (gad Γ 483)), (1, .int a), (2, .int d)]) hx hb dX7_bestSpray_154 hl (k := 6) rfl (nI_1 _) (by decide) rfl (fun ls hl => ?_)
                    refine lv_goto (tgt := 50) hx hb dX7_bestSpray_157 (by decide) ?_
                    have e_3 : (fX7_best_A N a d V (k + 1)).1 = nI k := by
                      show fX7_best_T3 N a d (fX7_best_L N a d V k) k ((fX7_best_A N a d V k).1) ((fX7_best_A N a d V k).2) = _
                      unfold fX7_best_T3
                      rw [if_neg c_6, if_neg c_7, if_neg c_8, if_neg c_9, if_pos c_10, if_neg c_11]
                    have e_4 : (fX7_best_A N a d V (k + 1)).2 = fX7_nextForAll_A1  (fX7_hourOn_P (fX7_sprayOn_P (fX7_driveOn_P (fX7_copyPage_P N (fX7_best_L N a d V k) 0 0) a.toNatClampNeg (nI k)) a.toNatClampNeg d)) ((fX7_hourOn_P (fX7_sprayOn_P (fX7_driveOn_P (fX7_copyPage_P N (fX7_best_L N a d V k) 0 0) a.toNatClampNeg (nI k)) a.toNatClampNeg d)) 1).toNatClampNeg := by
                      show fX7_best_T4 N a d (fX7_best_L N a d V k) k ((fX7_best_A N a d V k).1) ((fX7_best_A N a d V k).2) = _
                      unfold fX7_best_T4
                      rw [if_neg c_6, if_neg c_7, if_neg c_8, if_neg c_9, if_pos c_10, if_neg c_11]
                    have hl9 : lv_has ls 7 [(0, .ref (gad Γ 483)), (1, .int a), (2, .int d), (3, .int (nI k)), (4, .int (fX7_nextForAll_A1  (fX7_hourOn_P (fX7_sprayOn_P (fX7_driveOn_P (fX7_copyPage_P N (fX7_best_L N a d V k) 0 0) a.toNatClampNeg (nI k)) a.toNatClampNeg d)) ((fX7_hourOn_P (fX7_sprayOn_P (fX7_driveOn_P (fX7_copyPage_P N (fX7_best_L N a d V k) 0 0) a.toNatClampNeg (nI k)) a.toNatClampNeg d)) 1).toNatClampNeg)), (5, .int (nI (k + 1)))] := lv_sub hl [4, 5, 6, 2, 1, 0] rfl
                    exact ih_k _ _ _ ⟨g_st (mS_c rfl rfl rfl rfl (by show _ = fX7_best_S N a d (fX7_best_L N a d V k) k; unfold fX7_best_S; rw [if_neg c_6, if_neg c_7]) rfl rfl rfl) hG, hS, (by rw [e_3, e_4]; exact hl9)⟩
    · --F
      refine lv_iconst (v := 2) hx hb dX7_bestSpray_28 (by decide) ?_
      refine lv_goto (tgt := 33) hx hb dX7_bestSpray_29 (by decide) ?_
      refine g_callV (As := [.int 2]) (rest := []) (st1 := [.int 1]) hF (mX7_refused_l M R O hL A T D N V I K B 2 1 (by decide)) (cwV 1 hts gX7_bestSpray_X7_refused rfl rfl rfl (by decide +kernel) ⟨Nat.le_of_ble_eq_true rfl, Nat.le_of_ble_eq_true rfl⟩) hK hZ hG hS (hL.1 483 (by decide) (by decide)) (show gC 483 = (7, 24, 0) from rfl) (by decide) rfl rfl hl.1 (Nat.le_of_ble_eq_true rfl) dX7_bestSpray_33 ⟨Nat.zero_le _, Nat.zero_le _⟩ rfl rfl (fun H locs hG hS => ?_)
      refine lv_if_eq (tgt := 41) hx hb dX7_bestSpray_36 (by decide) (fun c_12 => absurd c_12 (by decide)) (fun c_12 => ?_)
      refine lv_iconst (v := 0) hx hb dX7_bestSpray_39 (by decide) ?_
      exact g_iret hx hb hrt hlocks hS hG (by unfold fX7_bestSpray_v; rw [if_neg c_1, if_pos c_2]) (mS_c (by unfold fX7_bestSpray_A; rw [if_neg c_1, if_pos c_2]) rfl rfl rfl (by unfold fX7_bestSpray_V; rw [if_neg c_1, if_pos c_2]) rfl rfl rfl) dX7_bestSpray_40
  · --F
    refine lv_iconst (v := 1) hx hb dX7_bestSpray_12 (by decide) ?_
    refine lv_goto (tgt := 33) hx hb dX7_bestSpray_13 (by decide) ?_
    refine g_callV (As := [.int 1]) (rest := []) (st1 := [.int 1]) hF (mX7_refused_l M R O hL A T D N V I K B 1 1 (by decide)) (cwV 1 hts gX7_bestSpray_X7_refused rfl rfl rfl (by decide +kernel) ⟨Nat.le_of_ble_eq_true rfl, Nat.le_of_ble_eq_true rfl⟩) hK hZ hG hS (hL.1 483 (by decide) (by decide)) (show gC 483 = (7, 24, 0) from rfl) (by decide) rfl rfl hl.1 (Nat.le_of_ble_eq_true rfl) dX7_bestSpray_33 ⟨Nat.zero_le _, Nat.zero_le _⟩ rfl rfl (fun H locs hG hS => ?_)
    refine lv_if_eq (tgt := 41) hx hb dX7_bestSpray_36 (by decide) (fun c_13 => absurd c_13 (by decide)) (fun c_13 => ?_)
    refine lv_iconst (v := 0) hx hb dX7_bestSpray_39 (by decide) ?_
    exact g_iret hx hb hrt hlocks hS hG (by unfold fX7_bestSpray_v; rw [if_pos c_1]) (mS_c (by unfold fX7_bestSpray_A; rw [if_pos c_1]) rfl rfl rfl (by unfold fX7_bestSpray_V; rw [if_pos c_1]) rfl rfl rfl) dX7_bestSpray_40

