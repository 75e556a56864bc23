/-! THE CLASS: limitFor. Laid by gen/p22.py. -/
set_option maxHeartbeats 4000000 in
set_option maxRecDepth 100000 in
theorem tX6_limitFor {l : Launch} {Γ : gX} (hst : l.stackTraces = false) (M : Nat → Nat → Int32) (R : Nat → Nat → Option Nat) (O : Int64) (hC : LC Γ R) (X G J S C P Q : Nat → Int32) (a : Int32) (h1 : ¬ okI a (P 1) 8) : gThr l Γ yX6_limitFor wsX6_limitFor 6 82 [.ref (gad Γ 475), .int a] (cS M X G J S C P Q) R O "java/lang/IndexOutOfBoundsException" (cS M X G J S C P Q) R O := by
  refine g_startT (cc := cX6_limitFor) (maxL := 4) (ret := (some .int)) (by decide) rfl (Nat.le_of_ble_eq_true rfl) ?_
  intro p e s m below meth c ls hx hb hml hrt hts hown hlocks hname hK hZ hG hS hl hX hnx
  have hl : lv_has ls 4 [(0, .ref (gad Γ 475)), (1, .int a)] := hl
  have hown : s.vm.findClass RX6 = some m.cls := hown
  have hF : CallFix p m c cX6_limitFor 4 s _ wsX6_limitFor RX6 := ⟨hx, hb, hml, hown, hts⟩
  have k_1 : (Cond.fieldLink RX6 19 "RoadDust" "now" "LRoadDust$Road;").before _ s = true := hts _ (by decide +kernel)
  have in_X6 : ∀ w ∈ wsX60, w ∈ wsX6_limitFor := by decide +kernel
  have hV0 := hC.2.1 0 (by decide)
  have hV1 := hC.2.1 1 (by decide)
  refine lv_aload_n hx hb dX6_limitFor_0 rfl (lv_at hl 0 rfl) ?_
  refine go_getr (C := RX6) (T := TX6) (ci := 6) hx hb hts in_X6 hown hK hG (hC.1 475 (by decide) (by decide)) (show gC 475 = (6, 32, 0) from rfl) (by decide) rfl 1 (by decide) rfl hC.2.2.2.1 k_1 (fun _ h => h) dX6_limitFor_1 ?_
  refine lv_iload_n hx hb dX6_limitFor_4 rfl (lv_at hl 1 rfl) ?_
  replace hG := g_st (show _ = va_up (cS M X G J S C P Q) 0 P from (cS_u0 _ _ _ _ _ _ _ _ _).symm) hG
  refine g_callV (As := [.int a]) (rest := []) (st1 := [.null]) hF (mX2_houseAt_n (cS M X G J S C P Q) R O hV0 P h1) (cwV 1 hts gX6_limitFor_X2_houseAt rfl rfl rfl (by decide +kernel) ⟨Nat.le_of_ble_eq_true rfl, Nat.le_of_ble_eq_true rfl⟩) hK hZ hG hS hV0.c0 (gC_Rd hV0.1) (by decide) rfl rfl hl.1 (Nat.le_of_ble_eq_true rfl) dX6_limitFor_5 ⟨Nat.zero_le _, Nat.zero_le _⟩ rfl rfl (fun H locs hG hS => ?_)
  replace hG : GH Γ (cS M X G J S C P Q) R O _ := g_st (cS_u0 _ _ _ _ _ _ _ _ _) hG
  refine lv_astore_nN (lv' := [(2, .null), (0, .ref (gad Γ 475)), (1, .int a)]) hx hb dX6_limitFor_8 rfl hl (by decide) rfl (fun ls hl => ?_)
  refine lv_aload_nN hx hb dX6_limitFor_9 rfl (lv_at hl 0 rfl) ?_
  refine lv_ifnonnullN hx hb dX6_limitFor_10 ?_
  exact g_throw (cls := "java/lang/IndexOutOfBoundsException") (text := "no such house") (ik := 149) (is := 151) (ic := 153) hx hb hst hown (by decide +kernel) hts (by decide +kernel) (by decide +kernel) (by decide +kernel) (by decide +kernel) (by decide +kernel) (by decide +kernel) hX hZ hG hS (hl.1.trans hml.symm) dX6_limitFor_13 dX6_limitFor_16 dX6_limitFor_17 dX6_limitFor_19 dX6_limitFor_22 hnx (Nat.le_of_ble_eq_true rfl) (Nat.le_of_ble_eq_true rfl) ⟨Nat.le_of_ble_eq_true rfl, Nat.le_of_ble_eq_true rfl⟩ hlocks

theorem dec5 {k : Nat} (h : k < 5) : nI (5 - k) + (-1) = nI (5 - (k + 1)) := by
  rw [show 5 - k = (5 - (k + 1)) + 1 by omega]
  exact pk_m1 _
def fX6_limitFor_S (N : Nat → Int32) (i : Nat) (Pk : Nat → Int32) (k : Nat) : Nat → Int32 := if (fX2_changeLimit_v (fX2_copyFrom_P N Pk) (N (82 + 5 * i)) (nI (5 - k))) < 0 then fX2_changeLimit_P (fX2_copyFrom_P N Pk) (N (82 + 5 * i)) (nI (5 - k)) else fX2_raiseDust_P (fX2_changeLimit_P (fX2_copyFrom_P N Pk) (N (82 + 5 * i)) (nI (5 - k))) 
def fX6_limitFor_L (N : Nat → Int32) (i : Nat) (P : Nat → Int32) : Nat → Nat → Int32
  | 0 => P
  | k + 1 => fX6_limitFor_S N i (fX6_limitFor_L N i P k) k
def fX6_limitFor_C (N : Nat → Int32) (i : Nat) (Pk : Nat → Int32) (k : Nat) : Prop := ¬ ((fX2_changeLimit_v (fX2_copyFrom_P N Pk) (N (82 + 5 * i)) (nI (5 - k))) < 0) ∧ ¬ ((fX2_raiseDust_P (fX2_changeLimit_P (fX2_copyFrom_P N Pk) (N (82 + 5 * i)) (nI (5 - k))) ) 7) ≤ (fX2_dustFor2_v N (fX2_raiseDust_P (fX2_changeLimit_P (fX2_copyFrom_P N Pk) (N (82 + 5 * i)) (nI (5 - k))) ) i)
set_option maxHeartbeats 4000000 in
set_option maxRecDepth 100000 in
theorem mX6_limitFor {l : Launch} {Γ : gX} (M : Nat → Nat → Int32) (R : Nat → Nat → Option Nat) (O : Int64) (hC : LC Γ R) (X G J S C P Q : Nat → Int32) (hB : BL P) (a : Int32) (h1 : okI a (P 1) 8) (kx : Nat) (hxN : kx ≤ 5) (hno : ∀ j, j < kx → ¬ fX6_limitFor_C P a.toNatClampNeg (fX6_limitFor_L P a.toNatClampNeg Q j) j) (hyes : kx < 5 → fX6_limitFor_C P a.toNatClampNeg (fX6_limitFor_L P a.toNatClampNeg Q kx) kx) : gMet l Γ yX6_limitFor wsX6_limitFor 3 68 [.ref (gad Γ 475), .int a] (cS M X G J S C P Q) R O (some (.int (if kx < 5 then nI (5 - kx) else -9))) (cS M X G J S C P (fX6_limitFor_L P a.toNatClampNeg Q (if kx < 5 then kx + 1 else 5))) R O := by
  refine g_start (cc := cX6_limitFor) (maxL := 4) (ret := (some .int)) (by decide) rfl (Nat.le_of_ble_eq_true rfl) ?_
  intro p e s m below meth c ls hx hb hml hrt hts hown hlocks hname hK hZ hG hS hl
  have hl : lv_has ls 4 [(0, .ref (gad Γ 475)), (1, .int a)] := hl
  have hown : s.vm.findClass RX6 = some m.cls := hown
  have hF : CallFix p m c cX6_limitFor 4 s _ wsX6_limitFor RX6 := ⟨hx, hb, hml, hown, hts⟩
  have k_1 : (Cond.fieldLink RX6 19 "RoadDust" "now" "LRoadDust$Road;").before _ s = true := hts _ (by decide +kernel)
  have in_X6 : ∀ w ∈ wsX60, w ∈ wsX6_limitFor := by decide +kernel
  have k_3 : (Cond.fieldLink RX6 23 "RoadDust" "trial" "LRoadDust$Road;").before _ s = true := hts _ (by decide +kernel)
  have k_4 : (Cond.fieldLink RX6 166 "RoadDust$House" "segment" "I").before _ s = true := hts _ (by decide +kernel)
  have in_X1 : ∀ w ∈ wsX10, w ∈ wsX6_limitFor := by decide +kernel
  have k_6 : (Cond.fieldLink RX6 177 "RoadDust$Road" "bound" "I").before _ s = true := hts _ (by decide +kernel)
  have in_X2 : ∀ w ∈ wsX20, w ∈ wsX6_limitFor := by decide +kernel
  have hV0 := hC.2.1 0 (by decide)
  have hV1 := hC.2.1 1 (by decide)
  refine lv_aload_n hx hb dX6_limitFor_0 rfl (lv_at hl 0 rfl) ?_
  refine go_getr (C := RX6) (T := TX6) (ci := 6) hx hb hts in_X6 hown hK hG (hC.1 475 (by decide) (by decide)) (show gC 475 = (6, 32, 0) from rfl) (by decide) rfl 1 (by decide) rfl hC.2.2.2.1 k_1 (fun _ h => h) dX6_limitFor_1 ?_
  refine lv_iload_n hx hb dX6_limitFor_4 rfl (lv_at hl 1 rfl) ?_
  replace hG := g_st (show _ = va_up (cS M X G J S C P Q) 0 P from (cS_u0 _ _ _ _ _ _ _ _ _).symm) hG
  refine g_callV (As := [.int a]) (rest := []) (st1 := [.ref (gad Γ (25 * 0 + 14 + a.toNatClampNeg))]) hF (mX2_houseAt_y (cS M X G J S C P Q) R O hV0 P h1 (j := a.toNatClampNeg) rfl) (cwV 1 hts gX6_limitFor_X2_houseAt rfl rfl rfl (by decide +kernel) ⟨Nat.le_of_ble_eq_true rfl, Nat.le_of_ble_eq_true rfl⟩) hK hZ hG hS hV0.c0 (gC_Rd hV0.1) (by decide) rfl rfl hl.1 (Nat.le_of_ble_eq_true rfl) dX6_limitFor_5 ⟨Nat.zero_le _, Nat.zero_le _⟩ rfl rfl (fun H locs hG hS => ?_)
  replace hG : GH Γ (cS M X G J S C P Q) R O _ := g_st (cS_u0 _ _ _ _ _ _ _ _ _) hG
  refine lv_astore_n (lv' := [(2, .ref (gad Γ (25 * 0 + 14 + a.toNatClampNeg))), (0, .ref (gad Γ 475)), (1, .int a)]) hx hb dX6_limitFor_8 rfl hl (by decide) rfl (fun ls hl => ?_)
  refine lv_aload_n hx hb dX6_limitFor_9 rfl (lv_at hl 0 rfl) ?_
  refine lv_ifnonnull (tgt := 23) hx hb dX6_limitFor_10 (by decide) ?_
  refine lv_iconst (v := 5) hx hb dX6_limitFor_23 (by decide) ?_
  refine lv_istore_n (lv' := [(3, .int 5), (2, .ref (gad Γ (25 * 0 + 14 + a.toNatClampNeg))), (0, .ref (gad Γ 475)), (1, .int a)]) hx hb dX6_limitFor_24 rfl hl (by decide) rfl (fun ls hl => ?_)
  refine g_loop (N := 5) (fun k H locs ls => k ≤ kx ∧ GH Γ (cS M X G J S C P (fX6_limitFor_L P a.toNatClampNeg Q k)) R O H ∧ va_S (gA Γ) s.heap H locs ∧ lv_has ls 4 [(0, .ref (gad Γ 475)), (2, .ref (gad Γ (25 * 0 + 14 + a.toNatClampNeg))), (3, .int (nI (5 - k)))]) ?_ ?_ 0 (Nat.zero_le _) _ _ _ ⟨Nat.zero_le _, hG, hS, lv_sub hl [2, 1, 0] rfl⟩
  · rintro H locs ls ⟨hle_x, hG, hS, hl⟩
    have ex : kx = 5 := Nat.le_antisymm hxN hle_x
    refine lv_iload_n hx hb dX6_limitFor_25 rfl (lv_at hl 2 rfl) ?_
    refine lv_iconst (v := 1) hx hb dX6_limitFor_26 (by decide) ?_
    refine lv_icmp_lt (tgt := 89) hx hb dX6_limitFor_27 (by decide) (fun c_2 => ?_) (fun c_2 => absurd (nI_lt (a := 0) (b := 1) (by decide) (by decide)) c_2)
    refine lv_bipush (v := (-9)) hx hb dX6_limitFor_89 (by decide) ?_
    exact g_iret hx hb hrt hlocks hS hG (by rw [if_neg (by omega)]) (cS_c rfl rfl rfl rfl rfl rfl (by rw [if_neg (by omega)])) dX6_limitFor_91
  · rintro k hk_k ih_k H locs ls ⟨hle_k, hG, hS, hl⟩
    refine lv_iload_n hx hb dX6_limitFor_25 rfl (lv_at hl 2 rfl) ?_
    refine lv_iconst (v := 1) hx hb dX6_limitFor_26 (by decide) ?_
    refine lv_icmp_lt (tgt := 89) hx hb dX6_limitFor_27 (by decide) (fun c_3 => absurd c_3 (nI_nlt (b := 1) (by omega) (by omega))) (fun c_3 => ?_)
    refine lv_aload_n hx hb dX6_limitFor_30 rfl (lv_at hl 0 rfl) ?_
    refine go_getr (C := RX6) (T := TX6) (ci := 6) hx hb hts in_X6 hown hK hG (hC.1 475 (by decide) (by decide)) (show gC 475 = (6, 32, 0) from rfl) (by decide) rfl 2 (by decide) rfl hC.2.2.2.2.1 k_3 (fun _ h => h) dX6_limitFor_31 ?_
    refine lv_aload_n hx hb dX6_limitFor_34 rfl (lv_at hl 0 rfl) ?_
    refine go_getr (C := RX6) (T := TX6) (ci := 6) hx hb hts in_X6 hown hK hG (hC.1 475 (by decide) (by decide)) (show gC 475 = (6, 32, 0) from rfl) (by decide) rfl 1 (by decide) rfl hC.2.2.2.1 k_1 (fun _ h => h) dX6_limitFor_35 ?_
    replace hG := g_st (show _ = va_up (cS M X G J S C P (fX6_limitFor_L P a.toNatClampNeg Q k)) 1 (fX6_limitFor_L P a.toNatClampNeg Q k) from (cS_u1 _ _ _ _ _ _ _ _ _).symm) hG
    refine g_callV (As := [.ref (gad Γ (25 * 0))]) (rest := []) (st1 := []) hF (mX2_copyFrom_q (cS M X G J S C P (fX6_limitFor_L P a.toNatClampNeg Q k)) R O hV1 hV0 (by decide) P (fX6_limitFor_L P a.toNatClampNeg Q k) (cS_b0 _ _ _ _ _ _ _ _) hB) (cwV 1 hts gX6_limitFor_X2_copyFrom rfl rfl rfl (by decide +kernel) ⟨Nat.le_of_ble_eq_true rfl, Nat.le_of_ble_eq_true rfl⟩) hK hZ hG hS hV1.c0 (gC_Rd hV1.1) (by decide) rfl rfl hl.1 (Nat.le_of_ble_eq_true rfl) dX6_limitFor_38 ⟨Nat.zero_le _, Nat.zero_le _⟩ rfl rfl (fun H locs hG hS => ?_)
    replace hG : GH Γ (cS M X G J S C P (fX2_copyFrom_P P (fX6_limitFor_L P a.toNatClampNeg Q k))) R O _ := g_st (cS_u1 _ _ _ _ _ _ _ _ _) hG
    refine lv_aload_n hx hb dX6_limitFor_41 rfl (lv_at hl 0 rfl) ?_
    refine go_getr (C := RX6) (T := TX6) (ci := 6) hx hb hts in_X6 hown hK hG (hC.1 475 (by decide) (by decide)) (show gC 475 = (6, 32, 0) from rfl) (by decide) rfl 2 (by decide) rfl hC.2.2.2.2.1 k_3 (fun _ h => h) dX6_limitFor_42 ?_
    refine lv_aload_n hx hb dX6_limitFor_45 rfl (lv_at hl 1 rfl) ?_
    replace hG := g_st (show _ = va_up (cS M X G J S C P (fX2_copyFrom_P P (fX6_limitFor_L P a.toNatClampNeg Q k))) 0 P from (cS_u0 _ _ _ _ _ _ _ _ _).symm) hG
    refine gHs_get hx hb hts in_X1 hown hK hG hV0.1 (okI_lt (k := 8) rfl (by decide) h1) (hV0.hou (i := a.toNatClampNeg) (okI_lt (k := 8) rfl (by decide) h1)) 0 (by decide) k_4 (fun _ h => h) (j := 82 + 5 * a.toNatClampNeg) rfl dX6_limitFor_46 ?_
    replace hG : GH Γ (cS M X G J S C P (fX2_copyFrom_P P (fX6_limitFor_L P a.toNatClampNeg Q k))) R O _ := g_st (cS_u0 _ _ _ _ _ _ _ _ _) hG
    refine lv_iload_n hx hb dX6_limitFor_49 rfl (lv_at hl 2 rfl) ?_
    replace hG := g_st (show _ = va_up (cS M X G J S C P (fX2_copyFrom_P P (fX6_limitFor_L P a.toNatClampNeg Q k))) 1 (fX2_copyFrom_P P (fX6_limitFor_L P a.toNatClampNeg Q k)) from (cS_u1 _ _ _ _ _ _ _ _ _).symm) hG
    refine g_callV (As := [.int (P (82 + 5 * a.toNatClampNeg)), .int (nI (5 - k))]) (rest := []) (st1 := [.int (fX2_changeLimit_v (fX2_copyFrom_P P (fX6_limitFor_L P a.toNatClampNeg Q k)) (P (82 + 5 * a.toNatClampNeg)) (nI (5 - k)))]) hF (mX2_changeLimit (cS M X G J S C P (fX2_copyFrom_P P (fX6_limitFor_L P a.toNatClampNeg Q k))) R O hV1 (fX2_copyFrom_P P (fX6_limitFor_L P a.toNatClampNeg Q k)) (P (82 + 5 * a.toNatClampNeg)) (nI (5 - k))) (cwV 2 hts gX6_limitFor_X2_changeLimit rfl rfl rfl (by decide +kernel) ⟨Nat.le_of_ble_eq_true rfl, Nat.le_of_ble_eq_true rfl⟩) hK hZ hG hS hV1.c0 (gC_Rd hV1.1) (by decide) rfl rfl hl.1 (Nat.le_of_ble_eq_true rfl) dX6_limitFor_50 ⟨Nat.zero_le _, Nat.zero_le _⟩ rfl rfl (fun H locs hG hS => ?_)
    replace hG : GH Γ (cS M X G J S C P (fX2_changeLimit_P (fX2_copyFrom_P P (fX6_limitFor_L P a.toNatClampNeg Q k)) (P (82 + 5 * a.toNatClampNeg)) (nI (5 - k)))) R O _ := g_st (cS_u1 _ _ _ _ _ _ _ _ _) hG
    refine lv_if_lt (tgt := 83) hx hb dX6_limitFor_53 (by decide) (fun c_4 => ?_) (fun c_4 => ?_)
    · --T
      refine lv_iinc (v := nI (5 - (k + 1))) (lv' := [(3, .int (nI (5 - (k + 1)))), (0, .ref (gad Γ 475)), (2, .ref (gad Γ (25 * 0 + 14 + a.toNatClampNeg)))]) hx hb dX6_limitFor_83 hl (k := 2) rfl (dec5 hk_k) (by decide) rfl (fun ls hl => ?_)
      refine lv_goto (tgt := 25) hx hb dX6_limitFor_86 (by decide) ?_
      exact ih_k _ _ _ ⟨Nat.lt_of_le_of_ne hle_k (fun e => by subst e; exact (hyes hk_k).1 c_4), g_st (cS_c rfl rfl rfl rfl rfl rfl (by show _ = fX6_limitFor_S P a.toNatClampNeg (fX6_limitFor_L P a.toNatClampNeg Q k) k; unfold fX6_limitFor_S; rw [if_pos c_4])) hG, hS, lv_sub hl [1, 2, 0] rfl⟩
    · --F
      refine lv_aload_n hx hb dX6_limitFor_56 rfl (lv_at hl 0 rfl) ?_
      refine go_getr (C := RX6) (T := TX6) (ci := 6) hx hb hts in_X6 hown hK hG (hC.1 475 (by decide) (by decide)) (show gC 475 = (6, 32, 0) from rfl) (by decide) rfl 2 (by decide) rfl hC.2.2.2.2.1 k_3 (fun _ h => h) dX6_limitFor_57 ?_
      replace hG := g_st (show _ = va_up (cS M X G J S C P (fX2_changeLimit_P (fX2_copyFrom_P P (fX6_limitFor_L P a.toNatClampNeg Q k)) (P (82 + 5 * a.toNatClampNeg)) (nI (5 - k)))) 1 (fX2_changeLimit_P (fX2_copyFrom_P P (fX6_limitFor_L P a.toNatClampNeg Q k)) (P (82 + 5 * a.toNatClampNeg)) (nI (5 - k))) from (cS_u1 _ _ _ _ _ _ _ _ _).symm) hG
      refine g_callV (As := []) (rest := []) (st1 := []) hF (mX2_raiseDust (cS M X G J S C P (fX2_changeLimit_P (fX2_copyFrom_P P (fX6_limitFor_L P a.toNatClampNeg Q k)) (P (82 + 5 * a.toNatClampNeg)) (nI (5 - k)))) R O hV1 (fX2_changeLimit_P (fX2_copyFrom_P P (fX6_limitFor_L P a.toNatClampNeg Q k)) (P (82 + 5 * a.toNatClampNeg)) (nI (5 - k))) ) (cwV 0 hts gX6_limitFor_X2_raiseDust rfl rfl rfl (by decide +kernel) ⟨Nat.le_of_ble_eq_true rfl, Nat.le_of_ble_eq_true rfl⟩) hK hZ hG hS hV1.c0 (gC_Rd hV1.1) (by decide) rfl rfl hl.1 (Nat.le_of_ble_eq_true rfl) dX6_limitFor_60 ⟨Nat.zero_le _, Nat.zero_le _⟩ rfl rfl (fun H locs hG hS => ?_)
      replace hG : GH Γ (cS M X G J S C P (fX2_raiseDust_P (fX2_changeLimit_P (fX2_copyFrom_P P (fX6_limitFor_L P a.toNatClampNeg Q k)) (P (82 + 5 * a.toNatClampNeg)) (nI (5 - k))) )) R O _ := g_st (cS_u1 _ _ _ _ _ _ _ _ _) hG
      refine lv_aload_n hx hb dX6_limitFor_63 rfl (lv_at hl 0 rfl) ?_
      refine go_getr (C := RX6) (T := TX6) (ci := 6) hx hb hts in_X6 hown hK hG (hC.1 475 (by decide) (by decide)) (show gC 475 = (6, 32, 0) from rfl) (by decide) rfl 2 (by decide) rfl hC.2.2.2.2.1 k_3 (fun _ h => h) dX6_limitFor_64 ?_
      refine lv_aload_n hx hb dX6_limitFor_67 rfl (lv_at hl 1 rfl) ?_
      replace hG := g_st (show _ = va_up (cS M X G J S C P (fX2_raiseDust_P (fX2_changeLimit_P (fX2_copyFrom_P P (fX6_limitFor_L P a.toNatClampNeg Q k)) (P (82 + 5 * a.toNatClampNeg)) (nI (5 - k))) )) 1 (fX2_raiseDust_P (fX2_changeLimit_P (fX2_copyFrom_P P (fX6_limitFor_L P a.toNatClampNeg Q k)) (P (82 + 5 * a.toNatClampNeg)) (nI (5 - k))) ) from (cS_u1 _ _ _ _ _ _ _ _ _).symm) hG
      refine g_callV (As := [.ref (gad Γ (25 * 0 + 14 + a.toNatClampNeg))]) (rest := []) (st1 := [.int (fX2_dustFor2_v P (fX2_raiseDust_P (fX2_changeLimit_P (fX2_copyFrom_P P (fX6_limitFor_L P a.toNatClampNeg Q k)) (P (82 + 5 * a.toNatClampNeg)) (nI (5 - k))) ) a.toNatClampNeg)]) hF (mX2_dustFor_2 (cS M X G J S C P (fX2_raiseDust_P (fX2_changeLimit_P (fX2_copyFrom_P P (fX6_limitFor_L P a.toNatClampNeg Q k)) (P (82 + 5 * a.toNatClampNeg)) (nI (5 - k))) )) R O hV1 hV0 (by decide) (fX2_raiseDust_P (fX2_changeLimit_P (fX2_copyFrom_P P (fX6_limitFor_L P a.toNatClampNeg Q k)) (P (82 + 5 * a.toNatClampNeg)) (nI (5 - k))) ) P (cS_b0 _ _ _ _ _ _ _ _) (i := a.toNatClampNeg) (okI_lt (k := 8) rfl (by decide) h1)) (cwV 1 hts gX6_limitFor_X2_dustFor rfl rfl rfl (by decide +kernel) ⟨Nat.le_of_ble_eq_true rfl, Nat.le_of_ble_eq_true rfl⟩) hK hZ hG hS hV1.c0 (gC_Rd hV1.1) (by decide) rfl rfl hl.1 (Nat.le_of_ble_eq_true rfl) dX6_limitFor_68 ⟨Nat.zero_le _, Nat.zero_le _⟩ rfl rfl (fun H locs hG hS => ?_)
      replace hG : GH Γ (cS M X G J S C P (fX2_raiseDust_P (fX2_changeLimit_P (fX2_copyFrom_P P (fX6_limitFor_L P a.toNatClampNeg Q k)) (P (82 + 5 * a.toNatClampNeg)) (nI (5 - k))) )) R O _ := g_st (cS_u1 _ _ _ _ _ _ _ _ _) hG
      refine lv_aload_n hx hb dX6_limitFor_71 rfl (lv_at hl 0 rfl) ?_
      refine go_getr (C := RX6) (T := TX6) (ci := 6) hx hb hts in_X6 hown hK hG (hC.1 475 (by decide) (by decide)) (show gC 475 = (6, 32, 0) from rfl) (by decide) rfl 2 (by decide) rfl hC.2.2.2.2.1 k_3 (fun _ h => h) dX6_limitFor_72 ?_
      replace hG := g_st (show _ = va_up (cS M X G J S C P (fX2_raiseDust_P (fX2_changeLimit_P (fX2_copyFrom_P P (fX6_limitFor_L P a.toNatClampNeg Q k)) (P (82 + 5 * a.toNatClampNeg)) (nI (5 - k))) )) 1 (fX2_raiseDust_P (fX2_changeLimit_P (fX2_copyFrom_P P (fX6_limitFor_L P a.toNatClampNeg Q k)) (P (82 + 5 * a.toNatClampNeg)) (nI (5 - k))) ) from (cS_u1 _ _ _ _ _ _ _ _ _).symm) hG
      refine gRd_get hx hb hts in_X2 hown hK hG hV1.1 hV1.c0 7 (by decide) k_6 (fun _ h => h) (j := 7) rfl dX6_limitFor_75 ?_
      replace hG : GH Γ (cS M X G J S C P (fX2_raiseDust_P (fX2_changeLimit_P (fX2_copyFrom_P P (fX6_limitFor_L P a.toNatClampNeg Q k)) (P (82 + 5 * a.toNatClampNeg)) (nI (5 - k))) )) R O _ := g_st (cS_u1 _ _ _ _ _ _ _ _ _) hG
      refine lv_icmp_ge (tgt := 83) hx hb dX6_limitFor_78 (by decide) (fun c_5 => ?_) (fun c_5 => ?_)
      · --T
        refine lv_iinc (v := nI (5 - (k + 1))) (lv' := [(3, .int (nI (5 - (k + 1)))), (0, .ref (gad Γ 475)), (2, .ref (gad Γ (25 * 0 + 14 + a.toNatClampNeg)))]) hx hb dX6_limitFor_83 hl (k := 2) rfl (dec5 hk_k) (by decide) rfl (fun ls hl => ?_)
        refine lv_goto (tgt := 25) hx hb dX6_limitFor_86 (by decide) ?_
        exact ih_k _ _ _ ⟨Nat.lt_of_le_of_ne hle_k (fun e => by subst e; exact (hyes hk_k).2 c_5), g_st (cS_c rfl rfl rfl rfl rfl rfl (by show _ = fX6_limitFor_S P a.toNatClampNeg (fX6_limitFor_L P a.toNatClampNeg Q k) k; unfold fX6_limitFor_S; rw [if_neg c_4])) hG, hS, lv_sub hl [1, 2, 0] rfl⟩
      · --F
        have ex : k = kx := Nat.le_antisymm hle_k (Nat.le_of_not_lt (fun q => hno _ q ⟨c_4, c_5⟩))
        subst ex
        refine lv_iload_n hx hb dX6_limitFor_81 rfl (lv_at hl 2 rfl) ?_
        exact g_iret hx hb hrt hlocks hS hG (by rw [if_pos hk_k]) (cS_c rfl rfl rfl rfl rfl rfl (by rw [if_pos hk_k]; show _ = fX6_limitFor_S P a.toNatClampNeg (fX6_limitFor_L P a.toNatClampNeg Q k) k; unfold fX6_limitFor_S; rw [if_neg c_4])) dX6_limitFor_82

