/-! THE CLASS: dustiest. Laid by gen/p22.py. -/
theorem dwo_id (P : Nat → Int32) (a : Int32) : fX2_dustWithout_P P a = P := by
  unfold fX2_dustWithout_P
  split
  · funext j
    by_cases h : j = 12 + 7 * a.toNatClampNeg + 3
    · subst h; rw [upd_eq]
    · rw [upd_nw _ _ h, upd_nw _ _ h]
  · rfl
theorem mX2_dustWithout_q {l : Launch} {Γ : gX} (M : Nat → Nat → Int32) (R : Nat → Nat → Option Nat) (O : Int64) {r : Nat} (hV : LV Γ R r) (P : Nat → Int32) (a : Int32) (h8 : (P 1).toNatClampNeg ≤ 8) : gMet l Γ yX2_dustWithout wsX2_dustWithout 3 67 [.ref (gad Γ (25 * r)), .int a] (va_up M r P) R O (some (.int (fX2_dustWithout_v P a))) (va_up M r P) R O := by
  have h := mX2_dustWithout (l := l) M R O hV P a h8
  rw [dwo_id] at h
  exact h
theorem rai_1 (P : Nat → Int32) : fX2_raiseDust_P P 1 = P 1 := by
  unfold fX2_raiseDust_P
  exact fX2_raiseDust_L1 P 1 (by decide) _
theorem tw_1 (P Q : Nat → Int32) (a d : Int32) : fX6_tryWater_Q P Q a d 1 = P 1 := by
  unfold fX6_tryWater_Q
  split
  · rw [rai_1]
    unfold fX3_wet_P
    rw [upd_nw _ _ (by omega), cpf_lo _ _ 1 (by decide)]
  · rw [rai_1, cpf_lo _ _ 1 (by decide)]
def fX6_dus_T1  (P : Nat → Int32) (k : Nat) (a1 : Int32) (a2 : Int32) : Int32 := if a2 ≤ (fX2_dustWithout_v P (nI (k + 1))) then a1 else nI (k + 1)
def fX6_dus_T2  (P : Nat → Int32) (k : Nat) (a1 : Int32) (a2 : Int32) : Int32 := if a2 ≤ (fX2_dustWithout_v P (nI (k + 1))) then a2 else fX2_dustWithout_v P (nI (k + 1))
def fX6_dus_A  (P : Nat → Int32) : Nat → Int32 × Int32
  | 0 => (0, fX2_dustWithout_v P 0)
  | k + 1 => (fX6_dus_T1  P k (fX6_dus_A  P k).1 (fX6_dus_A  P k).2, fX6_dus_T2  P k (fX6_dus_A  P k).1 (fX6_dus_A  P k).2)
set_option maxHeartbeats 4000000 in
set_option maxRecDepth 100000 in
theorem mX6_dustiest {l : Launch} {Γ : gX} (M : Nat → Nat → Int32) (R : Nat → Nat → Option Nat) (O : Int64) (hC : LC Γ R) (X G J S C P Q : Nat → Int32) (hB : BL P) (h8 : (P 1).toNatClampNeg ≤ 8) (h1 : 1 ≤ (P 0).toNatClampNeg) : gMet l Γ yX6_dustiest wsX6_dustiest 4 91 [.ref (gad Γ 475)] (cS M X G J S C P Q) R O (some (.int (fX6_dus_A  (fX2_raiseDust_P (fX2_copyFrom_P P Q)) ((P 0).toNatClampNeg - 1)).1)) (cS M X G J S C P (fX2_raiseDust_P (fX2_copyFrom_P P Q))) R O := by
  refine g_start (cc := cX6_dustiest) (maxL := 5) (ret := (some .int)) (by decide) rfl (Nat.le_of_ble_eq_true rfl) ?_
  intro p e s m below meth c ls hx hb hml hrt hts hown hlocks hname hK hZ hG hS hl
  have hl : lv_has ls 5 [(0, .ref (gad Γ 475))] := hl
  have hown : s.vm.findClass RX6 = some m.cls := hown
  have hF : CallFix p m c cX6_dustiest 5 s _ wsX6_dustiest RX6 := ⟨hx, hb, hml, hown, hts⟩
  have k_1 : (Cond.fieldLink RX6 23 "RoadDust" "trial" "LRoadDust$Road;").before _ s = true := hts _ (by decide +kernel)
  have in_X6 : ∀ w ∈ wsX60, w ∈ wsX6_dustiest := by decide +kernel
  have k_3 : (Cond.fieldLink RX6 19 "RoadDust" "now" "LRoadDust$Road;").before _ s = true := hts _ (by decide +kernel)
  have k_4 : (Cond.fieldLink RX6 74 "RoadDust$Road" "segments" "I").before _ s = true := hts _ (by decide +kernel)
  have in_X2 : ∀ w ∈ wsX20, w ∈ wsX6_dustiest := by decide +kernel
  have hV0 := hC.2.1 0 (by decide)
  have hV1 := hC.2.1 1 (by decide)
  refine lv_aload_n hx hb dX6_dustiest_0 rfl (lv_at hl 0 rfl) ?_
  refine go_getr (C := RX6) (T := TX6) (ci := 6) hx hb hts in_X6 hown hK hG (hC.1 475 (by decide) (by decide)) (show gC 475 = (6, 32, 0) from rfl) (by decide) rfl 2 (by decide) rfl hC.2.2.2.2.1 k_1 (fun _ h => h) dX6_dustiest_1 ?_
  refine lv_aload_n hx hb dX6_dustiest_4 rfl (lv_at hl 0 rfl) ?_
  refine go_getr (C := RX6) (T := TX6) (ci := 6) hx hb hts in_X6 hown hK hG (hC.1 475 (by decide) (by decide)) (show gC 475 = (6, 32, 0) from rfl) (by decide) rfl 1 (by decide) rfl hC.2.2.2.1 k_3 (fun _ h => h) dX6_dustiest_5 ?_
  replace hG := g_st (show _ = va_up (cS M X G J S C P Q) 1 Q from (cS_u1 _ _ _ _ _ _ _ _ _).symm) hG
  refine g_callV (As := [.ref (gad Γ (25 * 0))]) (rest := []) (st1 := []) hF (mX2_copyFrom_q (cS M X G J S C P Q) R O hV1 hV0 (by decide) P Q (cS_b0 _ _ _ _ _ _ _ _) hB) (cwV 1 hts gX6_dustiest_X2_copyFrom rfl rfl rfl (by decide +kernel) ⟨Nat.le_of_ble_eq_true rfl, Nat.le_of_ble_eq_true rfl⟩) hK hZ hG hS hV1.c0 (gC_Rd hV1.1) (by decide) rfl rfl hl.1 (Nat.le_of_ble_eq_true rfl) dX6_dustiest_8 ⟨Nat.zero_le _, Nat.zero_le _⟩ rfl rfl (fun H locs hG hS => ?_)
  replace hG : GH Γ (cS M X G J S C P (fX2_copyFrom_P P Q)) R O _ := g_st (cS_u1 _ _ _ _ _ _ _ _ _) hG
  refine lv_aload_n hx hb dX6_dustiest_11 rfl (lv_at hl 0 rfl) ?_
  refine go_getr (C := RX6) (T := TX6) (ci := 6) hx hb hts in_X6 hown hK hG (hC.1 475 (by decide) (by decide)) (show gC 475 = (6, 32, 0) from rfl) (by decide) rfl 2 (by decide) rfl hC.2.2.2.2.1 k_1 (fun _ h => h) dX6_dustiest_12 ?_
  replace hG := g_st (show _ = va_up (cS M X G J S C P (fX2_copyFrom_P P Q)) 1 (fX2_copyFrom_P P Q) from (cS_u1 _ _ _ _ _ _ _ _ _).symm) hG
  refine g_callV (As := []) (rest := []) (st1 := []) hF (mX2_raiseDust (cS M X G J S C P (fX2_copyFrom_P P Q)) R O hV1 (fX2_copyFrom_P P Q) ) (cwV 0 hts gX6_dustiest_X2_raiseDust rfl rfl rfl (by decide +kernel) ⟨Nat.le_of_ble_eq_true rfl, Nat.le_of_ble_eq_true rfl⟩) hK hZ hG hS hV1.c0 (gC_Rd hV1.1) (by decide) rfl rfl hl.1 (Nat.le_of_ble_eq_true rfl) dX6_dustiest_15 ⟨Nat.zero_le _, Nat.zero_le _⟩ rfl rfl (fun H locs hG hS => ?_)
  replace hG : GH Γ (cS M X G J S C P (fX2_raiseDust_P (fX2_copyFrom_P P Q) )) R O _ := g_st (cS_u1 _ _ _ _ _ _ _ _ _) hG
  refine lv_iconst (v := 0) hx hb dX6_dustiest_18 (by decide) ?_
  refine lv_istore_n (lv' := [(1, .int 0), (0, .ref (gad Γ 475))]) hx hb dX6_dustiest_19 rfl hl (by decide) rfl (fun ls hl => ?_)
  refine lv_aload_n hx hb dX6_dustiest_20 rfl (lv_at hl 1 rfl) ?_
  refine go_getr (C := RX6) (T := TX6) (ci := 6) hx hb hts in_X6 hown hK hG (hC.1 475 (by decide) (by decide)) (show gC 475 = (6, 32, 0) from rfl) (by decide) rfl 2 (by decide) rfl hC.2.2.2.2.1 k_1 (fun _ h => h) dX6_dustiest_21 ?_
  refine lv_iconst (v := 0) hx hb dX6_dustiest_24 (by decide) ?_
  replace hG := g_st (show _ = va_up (cS M X G J S C P (fX2_raiseDust_P (fX2_copyFrom_P P Q) )) 1 (fX2_raiseDust_P (fX2_copyFrom_P P Q) ) from (cS_u1 _ _ _ _ _ _ _ _ _).symm) hG
  refine g_callV (As := [.int 0]) (rest := []) (st1 := [.int (fX2_dustWithout_v (fX2_raiseDust_P (fX2_copyFrom_P P Q) ) 0)]) hF (mX2_dustWithout_q (cS M X G J S C P (fX2_raiseDust_P (fX2_copyFrom_P P Q) )) R O hV1 (fX2_raiseDust_P (fX2_copyFrom_P P Q) ) 0 (by rw [rai_1, cpf_lo _ _ 1 (by decide)]; exact h8)) (cwV 1 hts gX6_dustiest_X2_dustWithout rfl rfl rfl (by decide +kernel) ⟨Nat.le_of_ble_eq_true rfl, Nat.le_of_ble_eq_true rfl⟩) hK hZ hG hS hV1.c0 (gC_Rd hV1.1) (by decide) rfl rfl hl.1 (Nat.le_of_ble_eq_true rfl) dX6_dustiest_25 ⟨Nat.zero_le _, Nat.zero_le _⟩ rfl rfl (fun H locs hG hS => ?_)
  replace hG : GH Γ (cS M X G J S C P (fX2_raiseDust_P (fX2_copyFrom_P P Q) )) R O _ := g_st (cS_u1 _ _ _ _ _ _ _ _ _) hG
  refine lv_istore_n (lv' := [(2, .int (fX2_dustWithout_v (fX2_raiseDust_P (fX2_copyFrom_P P Q) ) 0)), (1, .int 0), (0, .ref (gad Γ 475))]) hx hb dX6_dustiest_28 rfl hl (by decide) rfl (fun ls hl => ?_)
  refine lv_iconst (v := 1) hx hb dX6_dustiest_29 (by decide) ?_
  refine lv_istore_n (lv' := [(3, .int 1), (2, .int (fX2_dustWithout_v (fX2_raiseDust_P (fX2_copyFrom_P P Q) ) 0)), (1, .int 0), (0, .ref (gad Γ 475))]) hx hb dX6_dustiest_30 rfl hl (by decide) rfl (fun ls hl => ?_)
  refine g_loop (N := (P 0).toNatClampNeg - 1) (fun k H locs ls => GH Γ (cS M X G J S C P (fX2_raiseDust_P (fX2_copyFrom_P P Q) )) R O H ∧ va_S (gA Γ) s.heap H locs ∧ lv_has ls 5 [(0, .ref (gad Γ 475)), (1, .int ((fX6_dus_A  (fX2_raiseDust_P (fX2_copyFrom_P P Q) ) k).1)), (2, .int ((fX6_dus_A  (fX2_raiseDust_P (fX2_copyFrom_P P Q) ) k).2)), (3, .int (nI (k + 1)))]) ?_ ?_ 0 (Nat.zero_le _) _ _ _ ⟨hG, hS, lv_sub hl [3, 2, 1, 0] rfl⟩
  · rintro H locs ls ⟨hG, hS, hl⟩
    refine lv_iload_n hx hb dX6_dustiest_31 rfl (lv_at hl 3 rfl) ?_
    refine lv_aload_n hx hb dX6_dustiest_32 rfl (lv_at hl 0 rfl) ?_
    refine go_getr (C := RX6) (T := TX6) (ci := 6) hx hb hts in_X6 hown hK hG (hC.1 475 (by decide) (by decide)) (show gC 475 = (6, 32, 0) from rfl) (by decide) rfl 1 (by decide) rfl hC.2.2.2.1 k_3 (fun _ h => h) dX6_dustiest_33 ?_
    replace hG := g_st (show _ = va_up (cS M X G J S C P (fX2_raiseDust_P (fX2_copyFrom_P P Q) )) 0 P from (cS_u0 _ _ _ _ _ _ _ _ _).symm) hG
    refine gRd_get hx hb hts in_X2 hown hK hG hV0.1 hV0.c0 0 (by decide) k_4 (fun _ h => h) (j := 0) rfl dX6_dustiest_36 ?_
    replace hG : GH Γ (cS M X G J S C P (fX2_raiseDust_P (fX2_copyFrom_P P Q) )) R O _ := g_st (cS_u0 _ _ _ _ _ _ _ _ _) hG
    refine lv_icmp_ge (tgt := 69) hx hb dX6_dustiest_39 (by decide) (fun c_1 => ?_) (fun c_1 => absurd (by rw [Nat.sub_add_cancel h1]; exact cl_le _) c_1)
    refine lv_iload_n hx hb dX6_dustiest_69 rfl (lv_at hl 1 rfl) ?_
    exact g_iret hx hb hrt hlocks hS hG rfl rfl dX6_dustiest_70
  · rintro k hk_k ih_k H locs ls ⟨hG, hS, hl⟩
    refine lv_iload_n hx hb dX6_dustiest_31 rfl (lv_at hl 3 rfl) ?_
    refine lv_aload_n hx hb dX6_dustiest_32 rfl (lv_at hl 0 rfl) ?_
    refine go_getr (C := RX6) (T := TX6) (ci := 6) hx hb hts in_X6 hown hK hG (hC.1 475 (by decide) (by decide)) (show gC 475 = (6, 32, 0) from rfl) (by decide) rfl 1 (by decide) rfl hC.2.2.2.1 k_3 (fun _ h => h) dX6_dustiest_33 ?_
    replace hG := g_st (show _ = va_up (cS M X G J S C P (fX2_raiseDust_P (fX2_copyFrom_P P Q) )) 0 P from (cS_u0 _ _ _ _ _ _ _ _ _).symm) hG
    refine gRd_get hx hb hts in_X2 hown hK hG hV0.1 hV0.c0 0 (by decide) k_4 (fun _ h => h) (j := 0) rfl dX6_dustiest_36 ?_
    replace hG : GH Γ (cS M X G J S C P (fX2_raiseDust_P (fX2_copyFrom_P P Q) )) R O _ := g_st (cS_u0 _ _ _ _ _ _ _ _ _) hG
    refine lv_icmp_ge (tgt := 69) hx hb dX6_dustiest_39 (by decide) (fun c_2 => absurd c_2 (cl_ge (show k + 1 < _ by omega))) (fun c_2 => ?_)
    refine lv_aload_n hx hb dX6_dustiest_42 rfl (lv_at hl 0 rfl) ?_
    refine go_getr (C := RX6) (T := TX6) (ci := 6) hx hb hts in_X6 hown hK hG (hC.1 475 (by decide) (by decide)) (show gC 475 = (6, 32, 0) from rfl) (by decide) rfl 2 (by decide) rfl hC.2.2.2.2.1 k_1 (fun _ h => h) dX6_dustiest_43 ?_
    refine lv_iload_n hx hb dX6_dustiest_46 rfl (lv_at hl 3 rfl) ?_
    replace hG := g_st (show _ = va_up (cS M X G J S C P (fX2_raiseDust_P (fX2_copyFrom_P P Q) )) 1 (fX2_raiseDust_P (fX2_copyFrom_P P Q) ) from (cS_u1 _ _ _ _ _ _ _ _ _).symm) hG
    refine g_callV (As := [.int (nI (k + 1))]) (rest := []) (st1 := [.int (fX2_dustWithout_v (fX2_raiseDust_P (fX2_copyFrom_P P Q) ) (nI (k + 1)))]) hF (mX2_dustWithout_q (cS M X G J S C P (fX2_raiseDust_P (fX2_copyFrom_P P Q) )) R O hV1 (fX2_raiseDust_P (fX2_copyFrom_P P Q) ) (nI (k + 1)) (by rw [rai_1, cpf_lo _ _ 1 (by decide)]; exact h8)) (cwV 1 hts gX6_dustiest_X2_dustWithout rfl rfl rfl (by decide +kernel) ⟨Nat.le_of_ble_eq_true rfl, Nat.le_of_ble_eq_true rfl⟩) hK hZ hG hS hV1.c0 (gC_Rd hV1.1) (by decide) rfl rfl hl.1 (Nat.le_of_ble_eq_true rfl) dX6_dustiest_47 ⟨Nat.zero_le _, Nat.zero_le _⟩ rfl rfl (fun H locs hG hS => ?_)
    replace hG : GH Γ (cS M X G J S C P (fX2_raiseDust_P (fX2_copyFrom_P P Q) )) R O _ := g_st (cS_u1 _ _ _ _ _ _ _ _ _) hG
    refine lv_istore (lv' := [(4, .int (fX2_dustWithout_v (fX2_raiseDust_P (fX2_copyFrom_P P Q) ) (nI (k + 1)))), (0, .ref (gad Γ 475)), (1, .int ((fX6_dus_A  (fX2_raiseDust_P (fX2_copyFrom_P P Q) ) k).1)), (2, .int ((fX6_dus_A  (fX2_raiseDust_P (fX2_copyFrom_P P Q) ) k).2)), (3, .int (nI (k + 1)))]) hx hb dX6_dustiest_50 hl (by decide) rfl (fun ls hl => ?_)
    refine lv_iload hx hb dX6_dustiest_52 (lv_at hl 0 rfl) ?_
    refine lv_iload_n hx hb dX6_dustiest_54 rfl (lv_at hl 3 rfl) ?_
    refine lv_icmp_ge (tgt := 63) hx hb dX6_dustiest_55 (by decide) (fun c_3 => ?_) (fun c_3 => ?_)
    · --T
      refine lv_iinc (v := nI (k + 1 + 1)) (lv' := [(3, .int (nI (k + 1 + 1))), (4, .int (fX2_dustWithout_v (fX2_raiseDust_P (fX2_copyFrom_P P Q) ) (nI (k + 1)))), (0, .ref (gad Γ 475)), (1, .int ((fX6_dus_A  (fX2_raiseDust_P (fX2_copyFrom_P P Q) ) k).1)), (2, .int ((fX6_dus_A  (fX2_raiseDust_P (fX2_copyFrom_P P Q) ) k).2))]) hx hb dX6_dustiest_63 hl (k := 4) rfl (nI_1 _) (by decide) rfl (fun ls hl => ?_)
      refine lv_goto (tgt := 31) hx hb dX6_dustiest_66 (by decide) ?_
      have e_1 : (fX6_dus_A  (fX2_raiseDust_P (fX2_copyFrom_P P Q) ) (k + 1)).1 = (fX6_dus_A  (fX2_raiseDust_P (fX2_copyFrom_P P Q) ) k).1 := by
        show fX6_dus_T1  (fX2_raiseDust_P (fX2_copyFrom_P P Q) ) k ((fX6_dus_A  (fX2_raiseDust_P (fX2_copyFrom_P P Q) ) k).1) ((fX6_dus_A  (fX2_raiseDust_P (fX2_copyFrom_P P Q) ) k).2) = _
        unfold fX6_dus_T1
        rw [if_pos c_3]
      have e_2 : (fX6_dus_A  (fX2_raiseDust_P (fX2_copyFrom_P P Q) ) (k + 1)).2 = (fX6_dus_A  (fX2_raiseDust_P (fX2_copyFrom_P P Q) ) k).2 := by
        show fX6_dus_T2  (fX2_raiseDust_P (fX2_copyFrom_P P Q) ) k ((fX6_dus_A  (fX2_raiseDust_P (fX2_copyFrom_P P Q) ) k).1) ((fX6_dus_A  (fX2_raiseDust_P (fX2_copyFrom_P P Q) ) k).2) = _
        unfold fX6_dus_T2
        rw [if_pos c_3]
      have hl9 : lv_has ls 5 [(0, .ref (gad Γ 475)), (1, .int ((fX6_dus_A  (fX2_raiseDust_P (fX2_copyFrom_P P Q) ) k).1)), (2, .int ((fX6_dus_A  (fX2_raiseDust_P (fX2_copyFrom_P P Q) ) k).2)), (3, .int (nI ((k + 1) + 1)))] := lv_sub hl [2, 3, 4, 0] rfl
      exact ih_k _ _ _ ⟨hG, hS, (by rw [e_1, e_2]; exact hl9)⟩
    · --F
      refine lv_iload_n hx hb dX6_dustiest_58 rfl (lv_at hl 4 rfl) ?_
      refine lv_istore_n (lv' := [(1, .int (nI (k + 1))), (4, .int (fX2_dustWithout_v (fX2_raiseDust_P (fX2_copyFrom_P P Q) ) (nI (k + 1)))), (0, .ref (gad Γ 475)), (2, .int ((fX6_dus_A  (fX2_raiseDust_P (fX2_copyFrom_P P Q) ) k).2)), (3, .int (nI (k + 1)))]) hx hb dX6_dustiest_59 rfl hl (by decide) rfl (fun ls hl => ?_)
      refine lv_iload hx hb dX6_dustiest_60 (lv_at hl 1 rfl) ?_
      refine lv_istore_n (lv' := [(2, .int (fX2_dustWithout_v (fX2_raiseDust_P (fX2_copyFrom_P P Q) ) (nI (k + 1)))), (1, .int (nI (k + 1))), (4, .int (fX2_dustWithout_v (fX2_raiseDust_P (fX2_copyFrom_P P Q) ) (nI (k + 1)))), (0, .ref (gad Γ 475)), (3, .int (nI (k + 1)))]) hx hb dX6_dustiest_62 rfl hl (by decide) rfl (fun ls hl => ?_)
      refine lv_iinc (v := nI (k + 1 + 1)) (lv' := [(3, .int (nI (k + 1 + 1))), (2, .int (fX2_dustWithout_v (fX2_raiseDust_P (fX2_copyFrom_P P Q) ) (nI (k + 1)))), (1, .int (nI (k + 1))), (4, .int (fX2_dustWithout_v (fX2_raiseDust_P (fX2_copyFrom_P P Q) ) (nI (k + 1)))), (0, .ref (gad Γ 475))]) hx hb dX6_dustiest_63 hl (k := 4) rfl (nI_1 _) (by decide) rfl (fun ls hl => ?_)
      refine lv_goto (tgt := 31) hx hb dX6_dustiest_66 (by decide) ?_
      have e_1 : (fX6_dus_A  (fX2_raiseDust_P (fX2_copyFrom_P P Q) ) (k + 1)).1 = nI (k + 1) := by
        show fX6_dus_T1  (fX2_raiseDust_P (fX2_copyFrom_P P Q) ) k ((fX6_dus_A  (fX2_raiseDust_P (fX2_copyFrom_P P Q) ) k).1) ((fX6_dus_A  (fX2_raiseDust_P (fX2_copyFrom_P P Q) ) k).2) = _
        unfold fX6_dus_T1
        rw [if_neg c_3]
      have e_2 : (fX6_dus_A  (fX2_raiseDust_P (fX2_copyFrom_P P Q) ) (k + 1)).2 = fX2_dustWithout_v (fX2_raiseDust_P (fX2_copyFrom_P P Q) ) (nI (k + 1)) := by
        show fX6_dus_T2  (fX2_raiseDust_P (fX2_copyFrom_P P Q) ) k ((fX6_dus_A  (fX2_raiseDust_P (fX2_copyFrom_P P Q) ) k).1) ((fX6_dus_A  (fX2_raiseDust_P (fX2_copyFrom_P P Q) ) k).2) = _
        unfold fX6_dus_T2
        rw [if_neg c_3]
      have hl9 : lv_has ls 5 [(0, .ref (gad Γ 475)), (1, .int (nI (k + 1))), (2, .int (fX2_dustWithout_v (fX2_raiseDust_P (fX2_copyFrom_P P Q) ) (nI (k + 1)))), (3, .int (nI ((k + 1) + 1)))] := lv_sub hl [4, 2, 1, 0] rfl
      exact ih_k _ _ _ ⟨hG, hS, (by rw [e_1, e_2]; exact hl9)⟩

