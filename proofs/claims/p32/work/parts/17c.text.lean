/-! THE CLASS: its reader. Laid by gen/p17.py. -/
def fX4_sur_S (G : Nat → Int32) (Y : (Nat → Int32) × (Nat → Int32)) (k : Nat) : (Nat → Int32) × (Nat → Int32) := (fX4_takeDigit_X Y.1 G (fX4_below_v 3), fX2_changeSurface_P Y.2 (nI k) (fX4_takeDigit_v Y.1 G (fX4_below_v 3)))
def fX4_sur_L (G X Q : Nat → Int32) : Nat → (Nat → Int32) × (Nat → Int32)
  | 0 => (X, Q)
  | k + 1 => fX4_sur_S G (fX4_sur_L G X Q k) k
theorem csf_0 (P : Nat → Int32) (a b : Int32) (j : Nat) (h : j < 12) : fX2_changeSurface_P P a b j = P j := by
  unfold fX2_changeSurface_P
  (repeat' split) <;> first | rfl | exact upd_nw _ _ (by omega)
theorem csur_0 (G X Q : Nat → Int32) : ∀ k, (fX4_sur_L G X Q k).2 0 = Q 0
  | 0 => rfl
  | k + 1 => (csf_0 _ _ _ 0 (by decide)).trans (csur_0 G X Q k)
def fX4_par_S (G : Nat → Int32) (Y : (Nat → Int32) × (Nat → Int32)) : (Nat → Int32) × (Nat → Int32) := (fX4_takePart_X Y.1 G Y.2, fX4_takePart_Q Y.1 G Y.2)
def fX4_par_L (G X Q : Nat → Int32) : Nat → (Nat → Int32) × (Nat → Int32)
  | 0 => (X, Q)
  | k + 1 => fX4_par_S G (fX4_par_L G X Q k)
set_option maxHeartbeats 4000000 in
set_option maxRecDepth 100000 in
theorem mX4_takeSurfaces_y {l : Launch} {Γ : gX} (M : Nat → Nat → Int32) (R : Nat → Nat → Option Nat) (O : Int64) (hC : LC Γ R) (X G J S C P Q : Nat → Int32) (hno : ∀ j, j < ((Q 0).toNatClampNeg) → ¬ fX4_takeDigit_v (fX4_sur_L G X Q j).1 G (fX4_below_v 3) = (-1)) : gMet l Γ yX4_takeSurfaces wsX4_takeSurfaces 2 46 [.ref (gad Γ 476), .ref (gad Γ (25 * 1))] (cS M X G J S C P Q) R O (some (.int 1)) (cS M ((fX4_sur_L G X Q ((Q 0).toNatClampNeg)).1) G J S C P ((fX4_sur_L G X Q ((Q 0).toNatClampNeg)).2)) R O := by
  refine g_start (cc := cX4_takeSurfaces) (maxL := 4) (ret := (some .boolean)) (by decide) rfl (Nat.le_of_ble_eq_true rfl) ?_
  intro p e s m below meth c ls hx hb hml hrt hts hown hlocks hname hK hZ hG hS hl
  have hl : lv_has ls 4 [(0, .ref (gad Γ 476)), (1, .ref (gad Γ (25 * 1)))] := hl
  have hown : s.vm.findClass RX4 = some m.cls := hown
  have hF : CallFix p m c cX4_takeSurfaces 4 s _ wsX4_takeSurfaces RX4 := ⟨hx, hb, hml, hown, hts⟩
  have k_1 : (Cond.fieldLink RX4 59 "RoadDust$Road" "segments" "I").before _ s = true := hts _ (by decide +kernel)
  have in_X2 : ∀ w ∈ wsX20, w ∈ wsX4_takeSurfaces := by decide +kernel
  have hV0 := hC.2.1 0 (by decide)
  have hV1 := hC.2.1 1 (by decide)
  refine lv_iconst (v := 0) hx hb dX4_takeSurfaces_0 (by decide) ?_
  refine lv_istore_n (lv' := [(2, .int 0), (0, .ref (gad Γ 476)), (1, .ref (gad Γ (25 * 1)))]) hx hb dX4_takeSurfaces_1 rfl hl (by decide) rfl (fun ls hl => ?_)
  refine g_loop (N := (Q 0).toNatClampNeg) (fun k H locs ls => GH Γ (cS M ((fX4_sur_L G X Q k).1) G J S C P ((fX4_sur_L G X Q k).2)) R O H ∧ va_S (gA Γ) s.heap H locs ∧ lv_has ls 4 [(0, .ref (gad Γ 476)), (1, .ref (gad Γ (25 * 1))), (2, .int (nI k))]) ?_ ?_ 0 (Nat.zero_le _) _ _ _ ⟨hG, hS, lv_sub hl [1, 2, 0] rfl⟩
  · rintro H locs ls ⟨hG, hS, hl⟩
    refine lv_iload_n hx hb dX4_takeSurfaces_2 rfl (lv_at hl 2 rfl) ?_
    refine lv_aload_n hx hb dX4_takeSurfaces_3 rfl (lv_at hl 1 rfl) ?_
    replace hG := g_st (show _ = va_up (cS M ((fX4_sur_L G X Q ((Q 0).toNatClampNeg)).1) G J S C P ((fX4_sur_L G X Q ((Q 0).toNatClampNeg)).2)) 1 ((fX4_sur_L G X Q ((Q 0).toNatClampNeg)).2) from (cS_u1 _ _ _ _ _ _ _ _ _).symm) hG
    refine gRd_get hx hb hts in_X2 hown hK hG hV1.1 hV1.c0 0 (by decide) k_1 (fun _ h => h) (j := 0) rfl dX4_takeSurfaces_4 ?_
    replace hG : GH Γ (cS M ((fX4_sur_L G X Q ((Q 0).toNatClampNeg)).1) G J S C P ((fX4_sur_L G X Q ((Q 0).toNatClampNeg)).2)) R O _ := g_st (cS_u1 _ _ _ _ _ _ _ _ _) hG
    refine lv_icmp_ge (tgt := 39) hx hb dX4_takeSurfaces_7 (by decide) (fun c_1 => ?_) (fun c_1 => absurd (by rw [csur_0]; exact cl_le _) c_1)
    refine lv_iconst (v := 1) hx hb dX4_takeSurfaces_39 (by decide) ?_
    exact g_zret hx hb hrt hlocks hS hG (by decide) rfl rfl dX4_takeSurfaces_40
  · rintro k hk_k ih_k H locs ls ⟨hG, hS, hl⟩
    refine lv_iload_n hx hb dX4_takeSurfaces_2 rfl (lv_at hl 2 rfl) ?_
    refine lv_aload_n hx hb dX4_takeSurfaces_3 rfl (lv_at hl 1 rfl) ?_
    replace hG := g_st (show _ = va_up (cS M ((fX4_sur_L G X Q k).1) G J S C P ((fX4_sur_L G X Q k).2)) 1 ((fX4_sur_L G X Q k).2) from (cS_u1 _ _ _ _ _ _ _ _ _).symm) hG
    refine gRd_get hx hb hts in_X2 hown hK hG hV1.1 hV1.c0 0 (by decide) k_1 (fun _ h => h) (j := 0) rfl dX4_takeSurfaces_4 ?_
    replace hG : GH Γ (cS M ((fX4_sur_L G X Q k).1) G J S C P ((fX4_sur_L G X Q k).2)) R O _ := g_st (cS_u1 _ _ _ _ _ _ _ _ _) hG
    refine lv_icmp_ge (tgt := 39) hx hb dX4_takeSurfaces_7 (by decide) (fun c_2 => absurd c_2 (by rw [csur_0]; exact cl_ge hk_k)) (fun c_2 => ?_)
    refine lv_aload_n hx hb dX4_takeSurfaces_10 rfl (lv_at hl 0 rfl) ?_
    refine lv_iconst (v := 3) hx hb dX4_takeSurfaces_11 (by decide) ?_
    refine g_callS (As := [.int 3]) (rest := [.ref (gad Γ 476)]) (st1 := [.int (fX4_below_v 3), .ref (gad Γ 476)]) hF (mX4_below _ R O 3) (va_cwS 1 hts gX4_takeSurfaces_X4_below rfl rfl rfl (by decide +kernel) ⟨Nat.le_of_ble_eq_true rfl, Nat.le_of_ble_eq_true rfl⟩) hK hZ hG hS rfl hl.1 (Nat.le_of_ble_eq_true rfl) dX4_takeSurfaces_12 ⟨Nat.zero_le _, Nat.zero_le _⟩ rfl rfl (fun H locs hG hS => ?_)
    refine g_callV (As := [.int (fX4_below_v 3)]) (rest := []) (st1 := [.int (fX4_takeDigit_v ((fX4_sur_L G X Q k).1) G (fX4_below_v 3))]) hF (mX4_takeDigit M R O hC ((fX4_sur_L G X Q k).1) G J S C P ((fX4_sur_L G X Q k).2) (fX4_below_v 3) ) (cwV 1 hts gX4_takeSurfaces_X4_takeDigit rfl rfl rfl (by decide +kernel) ⟨Nat.le_of_ble_eq_true rfl, Nat.le_of_ble_eq_true rfl⟩) hK hZ hG hS (hC.1 476 (by decide) (by decide)) (show gC 476 = (4, 19, 0) from rfl) (by decide) rfl rfl hl.1 (Nat.le_of_ble_eq_true rfl) dX4_takeSurfaces_15 ⟨Nat.zero_le _, Nat.zero_le _⟩ rfl rfl (fun H locs hG hS => ?_)
    refine lv_istore_n (lv' := [(3, .int (fX4_takeDigit_v ((fX4_sur_L G X Q k).1) G (fX4_below_v 3))), (0, .ref (gad Γ 476)), (1, .ref (gad Γ (25 * 1))), (2, .int (nI k))]) hx hb dX4_takeSurfaces_18 rfl hl (by decide) rfl (fun ls hl => ?_)
    refine lv_iload_n hx hb dX4_takeSurfaces_19 rfl (lv_at hl 0 rfl) ?_
    refine lv_iconst (v := (-1)) hx hb dX4_takeSurfaces_20 (by decide) ?_
    refine lv_icmp_ne (tgt := 26) hx hb dX4_takeSurfaces_21 (by decide) (fun c_3 => ?_) (fun c_3 => absurd c_3 (hno k hk_k))
    refine lv_aload_n hx hb dX4_takeSurfaces_26 rfl (lv_at hl 2 rfl) ?_
    refine lv_iload_n hx hb dX4_takeSurfaces_27 rfl (lv_at hl 3 rfl) ?_
    refine lv_iload_n hx hb dX4_takeSurfaces_28 rfl (lv_at hl 0 rfl) ?_
    replace hG := g_st (show _ = va_up (cS M (fX4_takeDigit_X ((fX4_sur_L G X Q k).1) G (fX4_below_v 3)) G J S C P ((fX4_sur_L G X Q k).2)) 1 ((fX4_sur_L G X Q k).2) from (cS_u1 _ _ _ _ _ _ _ _ _).symm) hG
    refine g_callV (As := [.int (nI k), .int (fX4_takeDigit_v ((fX4_sur_L G X Q k).1) G (fX4_below_v 3))]) (rest := []) (st1 := [.int (fX2_changeSurface_v ((fX4_sur_L G X Q k).2) (nI k) (fX4_takeDigit_v ((fX4_sur_L G X Q k).1) G (fX4_below_v 3)))]) hF (mX2_changeSurface (cS M (fX4_takeDigit_X ((fX4_sur_L G X Q k).1) G (fX4_below_v 3)) G J S C P ((fX4_sur_L G X Q k).2)) R O hV1 ((fX4_sur_L G X Q k).2) (nI k) (fX4_takeDigit_v ((fX4_sur_L G X Q k).1) G (fX4_below_v 3))) (cwV 2 hts gX4_takeSurfaces_X2_changeSurface rfl rfl rfl (by decide +kernel) ⟨Nat.le_of_ble_eq_true rfl, Nat.le_of_ble_eq_true rfl⟩) hK hZ hG hS hV1.c0 (gC_Rd hV1.1) (by decide) rfl rfl hl.1 (Nat.le_of_ble_eq_true rfl) dX4_takeSurfaces_29 ⟨Nat.zero_le _, Nat.zero_le _⟩ rfl rfl (fun H locs hG hS => ?_)
    replace hG : GH Γ (cS M (fX4_takeDigit_X ((fX4_sur_L G X Q k).1) G (fX4_below_v 3)) G J S C P (fX2_changeSurface_P ((fX4_sur_L G X Q k).2) (nI k) (fX4_takeDigit_v ((fX4_sur_L G X Q k).1) G (fX4_below_v 3)))) R O _ := g_st (cS_u1 _ _ _ _ _ _ _ _ _) hG
    refine lv_pop hx hb dX4_takeSurfaces_32 rfl ?_
    refine lv_iinc (v := nI (k + 1)) (lv' := [(2, .int (nI (k + 1))), (3, .int (fX4_takeDigit_v ((fX4_sur_L G X Q k).1) G (fX4_below_v 3))), (0, .ref (gad Γ 476)), (1, .ref (gad Γ (25 * 1)))]) hx hb dX4_takeSurfaces_33 hl (k := 3) rfl (nI_1 _) (by decide) rfl (fun ls hl => ?_)
    refine lv_goto (tgt := 2) hx hb dX4_takeSurfaces_36 (by decide) ?_
    exact ih_k _ _ _ ⟨hG, hS, lv_sub hl [2, 3, 0] rfl⟩

set_option maxHeartbeats 4000000 in
set_option maxRecDepth 100000 in
theorem mX4_takeSurfaces_f {l : Launch} {Γ : gX} (M : Nat → Nat → Int32) (R : Nat → Nat → Option Nat) (O : Int64) (hC : LC Γ R) (X G J S C P Q : Nat → Int32) (kx : Nat) (hkx : kx < (Q 0).toNatClampNeg) (hno : ∀ j, j < kx → ¬ fX4_takeDigit_v (fX4_sur_L G X Q j).1 G (fX4_below_v 3) = (-1)) (hyes : fX4_takeDigit_v (fX4_sur_L G X Q kx).1 G (fX4_below_v 3) = (-1)) : gMet l Γ yX4_takeSurfaces wsX4_takeSurfaces 2 46 [.ref (gad Γ 476), .ref (gad Γ (25 * 1))] (cS M X G J S C P Q) R O (some (.int 0)) (cS M (fX4_takeDigit_X (fX4_sur_L G X Q kx).1 G (fX4_below_v 3)) G J S C P ((fX4_sur_L G X Q kx).2)) R O := by
  refine g_start (cc := cX4_takeSurfaces) (maxL := 4) (ret := (some .boolean)) (by decide) rfl (Nat.le_of_ble_eq_true rfl) ?_
  intro p e s m below meth c ls hx hb hml hrt hts hown hlocks hname hK hZ hG hS hl
  have hl : lv_has ls 4 [(0, .ref (gad Γ 476)), (1, .ref (gad Γ (25 * 1)))] := hl
  have hown : s.vm.findClass RX4 = some m.cls := hown
  have hF : CallFix p m c cX4_takeSurfaces 4 s _ wsX4_takeSurfaces RX4 := ⟨hx, hb, hml, hown, hts⟩
  have k_1 : (Cond.fieldLink RX4 59 "RoadDust$Road" "segments" "I").before _ s = true := hts _ (by decide +kernel)
  have in_X2 : ∀ w ∈ wsX20, w ∈ wsX4_takeSurfaces := by decide +kernel
  have hV0 := hC.2.1 0 (by decide)
  have hV1 := hC.2.1 1 (by decide)
  refine lv_iconst (v := 0) hx hb dX4_takeSurfaces_0 (by decide) ?_
  refine lv_istore_n (lv' := [(2, .int 0), (0, .ref (gad Γ 476)), (1, .ref (gad Γ (25 * 1)))]) hx hb dX4_takeSurfaces_1 rfl hl (by decide) rfl (fun ls hl => ?_)
  refine g_loop (N := kx) (fun k H locs ls => GH Γ (cS M ((fX4_sur_L G X Q k).1) G J S C P ((fX4_sur_L G X Q k).2)) R O H ∧ va_S (gA Γ) s.heap H locs ∧ lv_has ls 4 [(0, .ref (gad Γ 476)), (1, .ref (gad Γ (25 * 1))), (2, .int (nI k))]) ?_ ?_ 0 (Nat.zero_le _) _ _ _ ⟨hG, hS, lv_sub hl [1, 2, 0] rfl⟩
  · rintro H locs ls ⟨hG, hS, hl⟩
    refine lv_iload_n hx hb dX4_takeSurfaces_2 rfl (lv_at hl 2 rfl) ?_
    refine lv_aload_n hx hb dX4_takeSurfaces_3 rfl (lv_at hl 1 rfl) ?_
    replace hG := g_st (show _ = va_up (cS M ((fX4_sur_L G X Q kx).1) G J S C P ((fX4_sur_L G X Q kx).2)) 1 ((fX4_sur_L G X Q kx).2) from (cS_u1 _ _ _ _ _ _ _ _ _).symm) hG
    refine gRd_get hx hb hts in_X2 hown hK hG hV1.1 hV1.c0 0 (by decide) k_1 (fun _ h => h) (j := 0) rfl dX4_takeSurfaces_4 ?_
    replace hG : GH Γ (cS M ((fX4_sur_L G X Q kx).1) G J S C P ((fX4_sur_L G X Q kx).2)) R O _ := g_st (cS_u1 _ _ _ _ _ _ _ _ _) hG
    refine lv_icmp_ge (tgt := 39) hx hb dX4_takeSurfaces_7 (by decide) (fun c_1 => absurd c_1 (by rw [csur_0]; exact cl_ge hkx)) (fun c_1 => ?_)
    refine lv_aload_n hx hb dX4_takeSurfaces_10 rfl (lv_at hl 0 rfl) ?_
    refine lv_iconst (v := 3) hx hb dX4_takeSurfaces_11 (by decide) ?_
    refine g_callS (As := [.int 3]) (rest := [.ref (gad Γ 476)]) (st1 := [.int (fX4_below_v 3), .ref (gad Γ 476)]) hF (mX4_below _ R O 3) (va_cwS 1 hts gX4_takeSurfaces_X4_below rfl rfl rfl (by decide +kernel) ⟨Nat.le_of_ble_eq_true rfl, Nat.le_of_ble_eq_true rfl⟩) hK hZ hG hS rfl hl.1 (Nat.le_of_ble_eq_true rfl) dX4_takeSurfaces_12 ⟨Nat.zero_le _, Nat.zero_le _⟩ rfl rfl (fun H locs hG hS => ?_)
    refine g_callV (As := [.int (fX4_below_v 3)]) (rest := []) (st1 := [.int (fX4_takeDigit_v ((fX4_sur_L G X Q kx).1) G (fX4_below_v 3))]) hF (mX4_takeDigit M R O hC ((fX4_sur_L G X Q kx).1) G J S C P ((fX4_sur_L G X Q kx).2) (fX4_below_v 3) ) (cwV 1 hts gX4_takeSurfaces_X4_takeDigit rfl rfl rfl (by decide +kernel) ⟨Nat.le_of_ble_eq_true rfl, Nat.le_of_ble_eq_true rfl⟩) hK hZ hG hS (hC.1 476 (by decide) (by decide)) (show gC 476 = (4, 19, 0) from rfl) (by decide) rfl rfl hl.1 (Nat.le_of_ble_eq_true rfl) dX4_takeSurfaces_15 ⟨Nat.zero_le _, Nat.zero_le _⟩ rfl rfl (fun H locs hG hS => ?_)
    refine lv_istore_n (lv' := [(3, .int (fX4_takeDigit_v ((fX4_sur_L G X Q kx).1) G (fX4_below_v 3))), (0, .ref (gad Γ 476)), (1, .ref (gad Γ (25 * 1))), (2, .int (nI kx))]) hx hb dX4_takeSurfaces_18 rfl hl (by decide) rfl (fun ls hl => ?_)
    refine lv_iload_n hx hb dX4_takeSurfaces_19 rfl (lv_at hl 0 rfl) ?_
    refine lv_iconst (v := (-1)) hx hb dX4_takeSurfaces_20 (by decide) ?_
    refine lv_icmp_ne (tgt := 26) hx hb dX4_takeSurfaces_21 (by decide) (fun c_2 => absurd hyes c_2) (fun c_2 => ?_)
    refine lv_iconst (v := 0) hx hb dX4_takeSurfaces_24 (by decide) ?_
    exact g_zret hx hb hrt hlocks hS hG (by decide) rfl rfl dX4_takeSurfaces_25
  · rintro k hk_k ih_k H locs ls ⟨hG, hS, hl⟩
    refine lv_iload_n hx hb dX4_takeSurfaces_2 rfl (lv_at hl 2 rfl) ?_
    refine lv_aload_n hx hb dX4_takeSurfaces_3 rfl (lv_at hl 1 rfl) ?_
    replace hG := g_st (show _ = va_up (cS M ((fX4_sur_L G X Q k).1) G J S C P ((fX4_sur_L G X Q k).2)) 1 ((fX4_sur_L G X Q k).2) from (cS_u1 _ _ _ _ _ _ _ _ _).symm) hG
    refine gRd_get hx hb hts in_X2 hown hK hG hV1.1 hV1.c0 0 (by decide) k_1 (fun _ h => h) (j := 0) rfl dX4_takeSurfaces_4 ?_
    replace hG : GH Γ (cS M ((fX4_sur_L G X Q k).1) G J S C P ((fX4_sur_L G X Q k).2)) R O _ := g_st (cS_u1 _ _ _ _ _ _ _ _ _) hG
    refine lv_icmp_ge (tgt := 39) hx hb dX4_takeSurfaces_7 (by decide) (fun c_3 => absurd c_3 (by rw [csur_0]; exact cl_ge (by omega))) (fun c_3 => ?_)
    refine lv_aload_n hx hb dX4_takeSurfaces_10 rfl (lv_at hl 0 rfl) ?_
    refine lv_iconst (v := 3) hx hb dX4_takeSurfaces_11 (by decide) ?_
    refine g_callS (As := [.int 3]) (rest := [.ref (gad Γ 476)]) (st1 := [.int (fX4_below_v 3), .ref (gad Γ 476)]) hF (mX4_below _ R O 3) (va_cwS 1 hts gX4_takeSurfaces_X4_below rfl rfl rfl (by decide +kernel) ⟨Nat.le_of_ble_eq_true rfl, Nat.le_of_ble_eq_true rfl⟩) hK hZ hG hS rfl hl.1 (Nat.le_of_ble_eq_true rfl) dX4_takeSurfaces_12 ⟨Nat.zero_le _, Nat.zero_le _⟩ rfl rfl (fun H locs hG hS => ?_)
    refine g_callV (As := [.int (fX4_below_v 3)]) (rest := []) (st1 := [.int (fX4_takeDigit_v ((fX4_sur_L G X Q k).1) G (fX4_below_v 3))]) hF (mX4_takeDigit M R O hC ((fX4_sur_L G X Q k).1) G J S C P ((fX4_sur_L G X Q k).2) (fX4_below_v 3) ) (cwV 1 hts gX4_takeSurfaces_X4_takeDigit rfl rfl rfl (by decide +kernel) ⟨Nat.le_of_ble_eq_true rfl, Nat.le_of_ble_eq_true rfl⟩) hK hZ hG hS (hC.1 476 (by decide) (by decide)) (show gC 476 = (4, 19, 0) from rfl) (by decide) rfl rfl hl.1 (Nat.le_of_ble_eq_true rfl) dX4_takeSurfaces_15 ⟨Nat.zero_le _, Nat.zero_le _⟩ rfl rfl (fun H locs hG hS => ?_)
    refine lv_istore_n (lv' := [(3, .int (fX4_takeDigit_v ((fX4_sur_L G X Q k).1) G (fX4_below_v 3))), (0, .ref (gad Γ 476)), (1, .ref (gad Γ (25 * 1))), (2, .int (nI k))]) hx hb dX4_takeSurfaces_18 rfl hl (by decide) rfl (fun ls hl => ?_)
    refine lv_iload_n hx hb dX4_takeSurfaces_19 rfl (lv_at hl 0 rfl) ?_
    refine lv_iconst (v := (-1)) hx hb dX4_takeSurfaces_20 (by decide) ?_
    refine lv_icmp_ne (tgt := 26) hx hb dX4_takeSurfaces_21 (by decide) (fun c_4 => ?_) (fun c_4 => absurd c_4 (hno k hk_k))
    refine lv_aload_n hx hb dX4_takeSurfaces_26 rfl (lv_at hl 2 rfl) ?_
    refine lv_iload_n hx hb dX4_takeSurfaces_27 rfl (lv_at hl 3 rfl) ?_
    refine lv_iload_n hx hb dX4_takeSurfaces_28 rfl (lv_at hl 0 rfl) ?_
    replace hG := g_st (show _ = va_up (cS M (fX4_takeDigit_X ((fX4_sur_L G X Q k).1) G (fX4_below_v 3)) G J S C P ((fX4_sur_L G X Q k).2)) 1 ((fX4_sur_L G X Q k).2) from (cS_u1 _ _ _ _ _ _ _ _ _).symm) hG
    refine g_callV (As := [.int (nI k), .int (fX4_takeDigit_v ((fX4_sur_L G X Q k).1) G (fX4_below_v 3))]) (rest := []) (st1 := [.int (fX2_changeSurface_v ((fX4_sur_L G X Q k).2) (nI k) (fX4_takeDigit_v ((fX4_sur_L G X Q k).1) G (fX4_below_v 3)))]) hF (mX2_changeSurface (cS M (fX4_takeDigit_X ((fX4_sur_L G X Q k).1) G (fX4_below_v 3)) G J S C P ((fX4_sur_L G X Q k).2)) R O hV1 ((fX4_sur_L G X Q k).2) (nI k) (fX4_takeDigit_v ((fX4_sur_L G X Q k).1) G (fX4_below_v 3))) (cwV 2 hts gX4_takeSurfaces_X2_changeSurface rfl rfl rfl (by decide +kernel) ⟨Nat.le_of_ble_eq_true rfl, Nat.le_of_ble_eq_true rfl⟩) hK hZ hG hS hV1.c0 (gC_Rd hV1.1) (by decide) rfl rfl hl.1 (Nat.le_of_ble_eq_true rfl) dX4_takeSurfaces_29 ⟨Nat.zero_le _, Nat.zero_le _⟩ rfl rfl (fun H locs hG hS => ?_)
    replace hG : GH Γ (cS M (fX4_takeDigit_X ((fX4_sur_L G X Q k).1) G (fX4_below_v 3)) G J S C P (fX2_changeSurface_P ((fX4_sur_L G X Q k).2) (nI k) (fX4_takeDigit_v ((fX4_sur_L G X Q k).1) G (fX4_below_v 3)))) R O _ := g_st (cS_u1 _ _ _ _ _ _ _ _ _) hG
    refine lv_pop hx hb dX4_takeSurfaces_32 rfl ?_
    refine lv_iinc (v := nI (k + 1)) (lv' := [(2, .int (nI (k + 1))), (3, .int (fX4_takeDigit_v ((fX4_sur_L G X Q k).1) G (fX4_below_v 3))), (0, .ref (gad Γ 476)), (1, .ref (gad Γ (25 * 1)))]) hx hb dX4_takeSurfaces_33 hl (k := 3) rfl (nI_1 _) (by decide) rfl (fun ls hl => ?_)
    refine lv_goto (tgt := 2) hx hb dX4_takeSurfaces_36 (by decide) ?_
    exact ih_k _ _ _ ⟨hG, hS, lv_sub hl [2, 3, 0] rfl⟩

set_option maxHeartbeats 4000000 in
set_option maxRecDepth 100000 in
theorem mX4_takeParts_y {l : Launch} {Γ : gX} (M : Nat → Nat → Int32) (R : Nat → Nat → Option Nat) (O : Int64) (hC : LC Γ R) (X G J S C P Q : Nat → Int32) (kx : Nat) (hkx : kx ≤ 70) (hno : ∀ j, j < kx → (¬ (fX4_par_L G X Q j).1 1 ≤ (fX4_par_L G X Q j).1 2) ∧ ¬ fX4_takePart_v (fX4_par_L G X Q j).1 G (fX4_par_L G X Q j).2 = 0) (hyes : (fX4_par_L G X Q kx).1 1 ≤ (fX4_par_L G X Q kx).1 2) : gMet l Γ yX4_takeParts wsX4_takeParts 4 89 [.ref (gad Γ 476), .ref (gad Γ (25 * 1))] (cS M X G J S C P Q) R O (some (.int 1)) (cS M ((fX4_par_L G X Q kx).1) G J S C P ((fX4_par_L G X Q kx).2)) R O := by
  refine g_start (cc := cX4_takeParts) (maxL := 3) (ret := (some .boolean)) (by decide) rfl (Nat.le_of_ble_eq_true rfl) ?_
  intro p e s m below meth c ls hx hb hml hrt hts hown hlocks hname hK hZ hG hS hl
  have hl : lv_has ls 3 [(0, .ref (gad Γ 476)), (1, .ref (gad Γ (25 * 1)))] := hl
  have hown : s.vm.findClass RX4 = some m.cls := hown
  have hF : CallFix p m c cX4_takeParts 3 s _ wsX4_takeParts RX4 := ⟨hx, hb, hml, hown, hts⟩
  have k_1 : (Cond.fieldLink RX4 23 "RoadDust$Text" "at" "I").before _ s = true := hts _ (by decide +kernel)
  have in_X4 : ∀ w ∈ wsX40, w ∈ wsX4_takeParts := by decide +kernel
  have k_3 : (Cond.fieldLink RX4 19 "RoadDust$Text" "length" "I").before _ s = true := hts _ (by decide +kernel)
  have hV0 := hC.2.1 0 (by decide)
  have hV1 := hC.2.1 1 (by decide)
  refine lv_iconst (v := 0) hx hb dX4_takeParts_0 (by decide) ?_
  refine lv_istore_n (lv' := [(2, .int 0), (0, .ref (gad Γ 476)), (1, .ref (gad Γ (25 * 1)))]) hx hb dX4_takeParts_1 rfl hl (by decide) rfl (fun ls hl => ?_)
  refine g_loop (N := kx) (fun k H locs ls => GH Γ (cS M ((fX4_par_L G X Q k).1) G J S C P ((fX4_par_L G X Q k).2)) R O H ∧ va_S (gA Γ) s.heap H locs ∧ lv_has ls 3 [(0, .ref (gad Γ 476)), (1, .ref (gad Γ (25 * 1))), (2, .int (nI k))]) ?_ ?_ 0 (Nat.zero_le _) _ _ _ ⟨hG, hS, lv_sub hl [1, 2, 0] rfl⟩
  · rintro H locs ls ⟨hG, hS, hl⟩
    refine lv_iload_n hx hb dX4_takeParts_2 rfl (lv_at hl 2 rfl) ?_
    refine lv_bipush (v := 70) hx hb dX4_takeParts_3 (by decide) ?_
    refine lv_icmp_ge (tgt := 35) hx hb dX4_takeParts_5 (by decide) (fun c_1 => ?_) (fun c_1 => ?_)
    · --T
      refine lv_iconst (v := 1) hx hb dX4_takeParts_35 (by decide) ?_
      exact g_zret hx hb hrt hlocks hS hG (by decide) rfl rfl dX4_takeParts_36
    · --F
      refine lv_aload_n hx hb dX4_takeParts_8 rfl (lv_at hl 0 rfl) ?_
      refine go_get (C := RX4) (T := TX4) (ci := 4) hx hb hts in_X4 hown hK hG (hC.1 476 (by decide) (by decide)) (show gC 476 = (4, 19, 0) from rfl) (by decide) rfl 2 (by decide) rfl k_1 (fun _ h => h) (v := ((fX4_par_L G X Q kx).1) 2) (cS_a19 _ _ _ _ _ _ _ _ _) dX4_takeParts_9 ?_
      refine lv_aload_n hx hb dX4_takeParts_12 rfl (lv_at hl 0 rfl) ?_
      refine go_get (C := RX4) (T := TX4) (ci := 4) hx hb hts in_X4 hown hK hG (hC.1 476 (by decide) (by decide)) (show gC 476 = (4, 19, 0) from rfl) (by decide) rfl 1 (by decide) rfl k_3 (fun _ h => h) (v := ((fX4_par_L G X Q kx).1) 1) (cS_a19 _ _ _ _ _ _ _ _ _) dX4_takeParts_13 ?_
      refine lv_icmp_ge (tgt := 35) hx hb dX4_takeParts_16 (by decide) (fun c_2 => ?_) (fun c_2 => absurd hyes c_2)
      refine lv_iconst (v := 1) hx hb dX4_takeParts_35 (by decide) ?_
      exact g_zret hx hb hrt hlocks hS hG (by decide) rfl rfl dX4_takeParts_36
  · rintro k hk_k ih_k H locs ls ⟨hG, hS, hl⟩
    refine lv_iload_n hx hb dX4_takeParts_2 rfl (lv_at hl 2 rfl) ?_
    refine lv_bipush (v := 70) hx hb dX4_takeParts_3 (by decide) ?_
    refine lv_icmp_ge (tgt := 35) hx hb dX4_takeParts_5 (by decide) (fun c_3 => absurd c_3 (i32_lt_nle (nI_lt (b := 70) (by omega) (by decide)))) (fun c_3 => ?_)
    refine lv_aload_n hx hb dX4_takeParts_8 rfl (lv_at hl 0 rfl) ?_
    refine go_get (C := RX4) (T := TX4) (ci := 4) hx hb hts in_X4 hown hK hG (hC.1 476 (by decide) (by decide)) (show gC 476 = (4, 19, 0) from rfl) (by decide) rfl 2 (by decide) rfl k_1 (fun _ h => h) (v := ((fX4_par_L G X Q k).1) 2) (cS_a19 _ _ _ _ _ _ _ _ _) dX4_takeParts_9 ?_
    refine lv_aload_n hx hb dX4_takeParts_12 rfl (lv_at hl 0 rfl) ?_
    refine go_get (C := RX4) (T := TX4) (ci := 4) hx hb hts in_X4 hown hK hG (hC.1 476 (by decide) (by decide)) (show gC 476 = (4, 19, 0) from rfl) (by decide) rfl 1 (by decide) rfl k_3 (fun _ h => h) (v := ((fX4_par_L G X Q k).1) 1) (cS_a19 _ _ _ _ _ _ _ _ _) dX4_takeParts_13 ?_
    refine lv_icmp_ge (tgt := 35) hx hb dX4_takeParts_16 (by decide) (fun c_4 => absurd c_4 ((hno k hk_k).1)) (fun c_4 => ?_)
    refine lv_aload_n hx hb dX4_takeParts_19 rfl (lv_at hl 0 rfl) ?_
    refine lv_aload_n hx hb dX4_takeParts_20 rfl (lv_at hl 1 rfl) ?_
    refine g_callV (As := [.ref (gad Γ (25 * 1))]) (rest := []) (st1 := [.int (fX4_takePart_v ((fX4_par_L G X Q k).1) G ((fX4_par_L G X Q k).2) )]) hF (mX4_takePart M R O hC ((fX4_par_L G X Q k).1) G J S C P ((fX4_par_L G X Q k).2)  ) (cwV 1 hts gX4_takeParts_X4_takePart rfl rfl rfl (by decide +kernel) ⟨Nat.le_of_ble_eq_true rfl, Nat.le_of_ble_eq_true rfl⟩) hK hZ hG hS (hC.1 476 (by decide) (by decide)) (show gC 476 = (4, 19, 0) from rfl) (by decide) rfl rfl hl.1 (Nat.le_of_ble_eq_true rfl) dX4_takeParts_21 ⟨Nat.zero_le _, Nat.zero_le _⟩ rfl rfl (fun H locs hG hS => ?_)
    refine lv_if_ne (tgt := 29) hx hb dX4_takeParts_24 (by decide) (fun c_5 => ?_) (fun c_5 => absurd c_5 ((hno k hk_k).2))
    refine lv_iinc (v := nI (k + 1)) (lv' := [(2, .int (nI (k + 1))), (0, .ref (gad Γ 476)), (1, .ref (gad Γ (25 * 1)))]) hx hb dX4_takeParts_29 hl (k := 2) rfl (nI_1 _) (by decide) rfl (fun ls hl => ?_)
    refine lv_goto (tgt := 2) hx hb dX4_takeParts_32 (by decide) ?_
    exact ih_k _ _ _ ⟨hG, hS, lv_sub hl [1, 2, 0] rfl⟩

set_option maxHeartbeats 4000000 in
set_option maxRecDepth 100000 in
theorem mX4_takeParts_f {l : Launch} {Γ : gX} (M : Nat → Nat → Int32) (R : Nat → Nat → Option Nat) (O : Int64) (hC : LC Γ R) (X G J S C P Q : Nat → Int32) (kx : Nat) (hkx : kx < 70) (hno : ∀ j, j < kx → (¬ (fX4_par_L G X Q j).1 1 ≤ (fX4_par_L G X Q j).1 2) ∧ ¬ fX4_takePart_v (fX4_par_L G X Q j).1 G (fX4_par_L G X Q j).2 = 0) (hyes : ¬ (fX4_par_L G X Q kx).1 1 ≤ (fX4_par_L G X Q kx).1 2) (hyes2 : fX4_takePart_v (fX4_par_L G X Q kx).1 G (fX4_par_L G X Q kx).2 = 0) : gMet l Γ yX4_takeParts wsX4_takeParts 4 89 [.ref (gad Γ 476), .ref (gad Γ (25 * 1))] (cS M X G J S C P Q) R O (some (.int 0)) (cS M (fX4_takePart_X (fX4_par_L G X Q kx).1 G (fX4_par_L G X Q kx).2) G J S C P (fX4_takePart_Q (fX4_par_L G X Q kx).1 G (fX4_par_L G X Q kx).2)) R O := by
  refine g_start (cc := cX4_takeParts) (maxL := 3) (ret := (some .boolean)) (by decide) rfl (Nat.le_of_ble_eq_true rfl) ?_
  intro p e s m below meth c ls hx hb hml hrt hts hown hlocks hname hK hZ hG hS hl
  have hl : lv_has ls 3 [(0, .ref (gad Γ 476)), (1, .ref (gad Γ (25 * 1)))] := hl
  have hown : s.vm.findClass RX4 = some m.cls := hown
  have hF : CallFix p m c cX4_takeParts 3 s _ wsX4_takeParts RX4 := ⟨hx, hb, hml, hown, hts⟩
  have k_1 : (Cond.fieldLink RX4 23 "RoadDust$Text" "at" "I").before _ s = true := hts _ (by decide +kernel)
  have in_X4 : ∀ w ∈ wsX40, w ∈ wsX4_takeParts := by decide +kernel
  have k_3 : (Cond.fieldLink RX4 19 "RoadDust$Text" "length" "I").before _ s = true := hts _ (by decide +kernel)
  have hV0 := hC.2.1 0 (by decide)
  have hV1 := hC.2.1 1 (by decide)
  refine lv_iconst (v := 0) hx hb dX4_takeParts_0 (by decide) ?_
  refine lv_istore_n (lv' := [(2, .int 0), (0, .ref (gad Γ 476)), (1, .ref (gad Γ (25 * 1)))]) hx hb dX4_takeParts_1 rfl hl (by decide) rfl (fun ls hl => ?_)
  refine g_loop (N := kx) (fun k H locs ls => GH Γ (cS M ((fX4_par_L G X Q k).1) G J S C P ((fX4_par_L G X Q k).2)) R O H ∧ va_S (gA Γ) s.heap H locs ∧ lv_has ls 3 [(0, .ref (gad Γ 476)), (1, .ref (gad Γ (25 * 1))), (2, .int (nI k))]) ?_ ?_ 0 (Nat.zero_le _) _ _ _ ⟨hG, hS, lv_sub hl [1, 2, 0] rfl⟩
  · rintro H locs ls ⟨hG, hS, hl⟩
    refine lv_iload_n hx hb dX4_takeParts_2 rfl (lv_at hl 2 rfl) ?_
    refine lv_bipush (v := 70) hx hb dX4_takeParts_3 (by decide) ?_
    refine lv_icmp_ge (tgt := 35) hx hb dX4_takeParts_5 (by decide) (fun c_1 => absurd c_1 (i32_lt_nle (nI_lt (b := 70) (by omega) (by decide)))) (fun c_1 => ?_)
    refine lv_aload_n hx hb dX4_takeParts_8 rfl (lv_at hl 0 rfl) ?_
    refine go_get (C := RX4) (T := TX4) (ci := 4) hx hb hts in_X4 hown hK hG (hC.1 476 (by decide) (by decide)) (show gC 476 = (4, 19, 0) from rfl) (by decide) rfl 2 (by decide) rfl k_1 (fun _ h => h) (v := ((fX4_par_L G X Q kx).1) 2) (cS_a19 _ _ _ _ _ _ _ _ _) dX4_takeParts_9 ?_
    refine lv_aload_n hx hb dX4_takeParts_12 rfl (lv_at hl 0 rfl) ?_
    refine go_get (C := RX4) (T := TX4) (ci := 4) hx hb hts in_X4 hown hK hG (hC.1 476 (by decide) (by decide)) (show gC 476 = (4, 19, 0) from rfl) (by decide) rfl 1 (by decide) rfl k_3 (fun _ h => h) (v := ((fX4_par_L G X Q kx).1) 1) (cS_a19 _ _ _ _ _ _ _ _ _) dX4_takeParts_13 ?_
    refine lv_icmp_ge (tgt := 35) hx hb dX4_takeParts_16 (by decide) (fun c_2 => absurd c_2 hyes) (fun c_2 => ?_)
    refine lv_aload_n hx hb dX4_takeParts_19 rfl (lv_at hl 0 rfl) ?_
    refine lv_aload_n hx hb dX4_takeParts_20 rfl (lv_at hl 1 rfl) ?_
    refine g_callV (As := [.ref (gad Γ (25 * 1))]) (rest := []) (st1 := [.int (fX4_takePart_v ((fX4_par_L G X Q kx).1) G ((fX4_par_L G X Q kx).2) )]) hF (mX4_takePart M R O hC ((fX4_par_L G X Q kx).1) G J S C P ((fX4_par_L G X Q kx).2)  ) (cwV 1 hts gX4_takeParts_X4_takePart rfl rfl rfl (by decide +kernel) ⟨Nat.le_of_ble_eq_true rfl, Nat.le_of_ble_eq_true rfl⟩) hK hZ hG hS (hC.1 476 (by decide) (by decide)) (show gC 476 = (4, 19, 0) from rfl) (by decide) rfl rfl hl.1 (Nat.le_of_ble_eq_true rfl) dX4_takeParts_21 ⟨Nat.zero_le _, Nat.zero_le _⟩ rfl rfl (fun H locs hG hS => ?_)
    refine lv_if_ne (tgt := 29) hx hb dX4_takeParts_24 (by decide) (fun c_3 => absurd hyes2 c_3) (fun c_3 => ?_)
    refine lv_iconst (v := 0) hx hb dX4_takeParts_27 (by decide) ?_
    exact g_zret hx hb hrt hlocks hS hG (by decide) rfl rfl dX4_takeParts_28
  · rintro k hk_k ih_k H locs ls ⟨hG, hS, hl⟩
    refine lv_iload_n hx hb dX4_takeParts_2 rfl (lv_at hl 2 rfl) ?_
    refine lv_bipush (v := 70) hx hb dX4_takeParts_3 (by decide) ?_
    refine lv_icmp_ge (tgt := 35) hx hb dX4_takeParts_5 (by decide) (fun c_4 => absurd c_4 (i32_lt_nle (nI_lt (b := 70) (by omega) (by decide)))) (fun c_4 => ?_)
    refine lv_aload_n hx hb dX4_takeParts_8 rfl (lv_at hl 0 rfl) ?_
    refine go_get (C := RX4) (T := TX4) (ci := 4) hx hb hts in_X4 hown hK hG (hC.1 476 (by decide) (by decide)) (show gC 476 = (4, 19, 0) from rfl) (by decide) rfl 2 (by decide) rfl k_1 (fun _ h => h) (v := ((fX4_par_L G X Q k).1) 2) (cS_a19 _ _ _ _ _ _ _ _ _) dX4_takeParts_9 ?_
    refine lv_aload_n hx hb dX4_takeParts_12 rfl (lv_at hl 0 rfl) ?_
    refine go_get (C := RX4) (T := TX4) (ci := 4) hx hb hts in_X4 hown hK hG (hC.1 476 (by decide) (by decide)) (show gC 476 = (4, 19, 0) from rfl) (by decide) rfl 1 (by decide) rfl k_3 (fun _ h => h) (v := ((fX4_par_L G X Q k).1) 1) (cS_a19 _ _ _ _ _ _ _ _ _) dX4_takeParts_13 ?_
    refine lv_icmp_ge (tgt := 35) hx hb dX4_takeParts_16 (by decide) (fun c_5 => absurd c_5 ((hno k hk_k).1)) (fun c_5 => ?_)
    refine lv_aload_n hx hb dX4_takeParts_19 rfl (lv_at hl 0 rfl) ?_
    refine lv_aload_n hx hb dX4_takeParts_20 rfl (lv_at hl 1 rfl) ?_
    refine g_callV (As := [.ref (gad Γ (25 * 1))]) (rest := []) (st1 := [.int (fX4_takePart_v ((fX4_par_L G X Q k).1) G ((fX4_par_L G X Q k).2) )]) hF (mX4_takePart M R O hC ((fX4_par_L G X Q k).1) G J S C P ((fX4_par_L G X Q k).2)  ) (cwV 1 hts gX4_takeParts_X4_takePart rfl rfl rfl (by decide +kernel) ⟨Nat.le_of_ble_eq_true rfl, Nat.le_of_ble_eq_true rfl⟩) hK hZ hG hS (hC.1 476 (by decide) (by decide)) (show gC 476 = (4, 19, 0) from rfl) (by decide) rfl rfl hl.1 (Nat.le_of_ble_eq_true rfl) dX4_takeParts_21 ⟨Nat.zero_le _, Nat.zero_le _⟩ rfl rfl (fun H locs hG hS => ?_)
    refine lv_if_ne (tgt := 29) hx hb dX4_takeParts_24 (by decide) (fun c_6 => ?_) (fun c_6 => absurd c_6 ((hno k hk_k).2))
    refine lv_iinc (v := nI (k + 1)) (lv' := [(2, .int (nI (k + 1))), (0, .ref (gad Γ 476)), (1, .ref (gad Γ (25 * 1)))]) hx hb dX4_takeParts_29 hl (k := 2) rfl (nI_1 _) (by decide) rfl (fun ls hl => ?_)
    refine lv_goto (tgt := 2) hx hb dX4_takeParts_32 (by decide) ?_
    exact ih_k _ _ _ ⟨hG, hS, lv_sub hl [1, 2, 0] rfl⟩

def tsM (v : Int32) (X G Q X1 Q1 : Nat → Int32) : Prop := ∀ (l : Launch) (Γ : gX) (M : Nat → Nat → Int32) (R : Nat → Nat → Option Nat) (O : Int64), LC Γ R → ∀ J S C P : Nat → Int32, gMet l Γ yX4_takeSurfaces wsX4_takeSurfaces 2 46 [.ref (gad Γ 476), .ref (gad Γ (25 * 1))] (cS M X G J S C P Q) R O (some (.int v)) (cS M X1 G J S C P Q1) R O
def tpM (v : Int32) (X G Q X1 Q1 : Nat → Int32) : Prop := ∀ (l : Launch) (Γ : gX) (M : Nat → Nat → Int32) (R : Nat → Nat → Option Nat) (O : Int64), LC Γ R → ∀ J S C P : Nat → Int32, gMet l Γ yX4_takeParts wsX4_takeParts 4 89 [.ref (gad Γ 476), .ref (gad Γ (25 * 1))] (cS M X G J S C P Q) R O (some (.int v)) (cS M X1 G J S C P Q1) R O
set_option maxHeartbeats 4000000 in
set_option maxRecDepth 100000 in
theorem mX4_readInto_n {l : Launch} {Γ : gX} (M : Nat → Nat → Int32) (R : Nat → Nat → Option Nat) (O : Int64) (hC : LC Γ R) (X G J S C P Q : Nat → Int32) (h1 : fX4_takeSign_v (upd (upd X 2 0) 3 0) G 82 = 0) : gMet l Γ yX4_readInto wsX4_readInto 5 111 [.ref (gad Γ 476), .ref (gad Γ (25 * 1))] (cS M X G J S C P Q) R O (some (.int ((fX4_takeSign_X (upd (upd X 2 0) 3 0) G 82) 2))) (cS M (fX4_takeSign_X (upd (upd X 2 0) 3 0) G 82) G J S C P (fX2_beNew_P Q)) R O := by
  refine g_start (cc := cX4_readInto) (maxL := 2) (ret := (some .int)) (by decide) rfl (Nat.le_of_ble_eq_true rfl) ?_
  intro p e s m below meth c ls hx hb hml hrt hts hown hlocks hname hK hZ hG hS hl
  have hl : lv_has ls 2 [(0, .ref (gad Γ 476)), (1, .ref (gad Γ (25 * 1)))] := hl
  have hown : s.vm.findClass RX4 = some m.cls := hown
  have hF : CallFix p m c cX4_readInto 2 s _ wsX4_readInto RX4 := ⟨hx, hb, hml, hown, hts⟩
  have k_1 : (Cond.fieldLink RX4 23 "RoadDust$Text" "at" "I").before _ s = true := hts _ (by decide +kernel)
  have in_X4 : ∀ w ∈ wsX40, w ∈ wsX4_readInto := by decide +kernel
  have k_3 : (Cond.fieldLink RX4 26 "RoadDust$Text" "told" "I").before _ s = true := hts _ (by decide +kernel)
  have hV0 := hC.2.1 0 (by decide)
  have hV1 := hC.2.1 1 (by decide)
  refine lv_aload_n hx hb dX4_readInto_0 rfl (lv_at hl 0 rfl) ?_
  refine lv_iconst (v := 0) hx hb dX4_readInto_1 (by decide) ?_
  refine go_put (M2 := cS M (upd X 2 0) G J S C P Q) (C := RX4) (T := TX4) (ci := 4) hx hb hts in_X4 tyX4 tyX4_ok nmX4 hown hK hG hS (hC.1 476 (by decide) (by decide)) (show gC 476 = (4, 19, 0) from rfl) (by decide) rfl 2 (by decide) k_1 (fun _ h => h) rfl rfl (by decide +kernel) (cS_p19 _ _ _ _ _ _ _ _ _ _) dX4_readInto_2 (fun H locs hG hS => ?_)
  refine lv_aload_n hx hb dX4_readInto_5 rfl (lv_at hl 0 rfl) ?_
  refine lv_iconst (v := 0) hx hb dX4_readInto_6 (by decide) ?_
  refine go_put (M2 := cS M (upd (upd X 2 0) 3 0) G J S C P Q) (C := RX4) (T := TX4) (ci := 4) hx hb hts in_X4 tyX4 tyX4_ok nmX4 hown hK hG hS (hC.1 476 (by decide) (by decide)) (show gC 476 = (4, 19, 0) from rfl) (by decide) rfl 3 (by decide) k_3 (fun _ h => h) rfl rfl (by decide +kernel) (cS_p19 _ _ _ _ _ _ _ _ _ _) dX4_readInto_7 (fun H locs hG hS => ?_)
  refine lv_aload_n hx hb dX4_readInto_10 rfl (lv_at hl 1 rfl) ?_
  replace hG := g_st (show _ = va_up (cS M (upd (upd X 2 0) 3 0) G J S C P Q) 1 Q from (cS_u1 _ _ _ _ _ _ _ _ _).symm) hG
  refine g_callV (As := []) (rest := []) (st1 := []) hF (mX2_beNew (cS M (upd (upd X 2 0) 3 0) G J S C P Q) R O hV1 Q ) (cwV 0 hts gX4_readInto_X2_beNew rfl rfl rfl (by decide +kernel) ⟨Nat.le_of_ble_eq_true rfl, Nat.le_of_ble_eq_true rfl⟩) hK hZ hG hS hV1.c0 (gC_Rd hV1.1) (by decide) rfl rfl hl.1 (Nat.le_of_ble_eq_true rfl) dX4_readInto_11 ⟨Nat.zero_le _, Nat.zero_le _⟩ rfl rfl (fun H locs hG hS => ?_)
  replace hG : GH Γ (cS M (upd (upd X 2 0) 3 0) G J S C P (fX2_beNew_P Q )) R O _ := g_st (cS_u1 _ _ _ _ _ _ _ _ _) hG
  refine lv_aload_n hx hb dX4_readInto_14 rfl (lv_at hl 0 rfl) ?_
  refine lv_bipush (v := 82) hx hb dX4_readInto_15 (by decide) ?_
  refine g_callV (As := [.int 82]) (rest := []) (st1 := [.int (fX4_takeSign_v (upd (upd X 2 0) 3 0) G 82)]) hF (mX4_takeSign M R O hC (upd (upd X 2 0) 3 0) G J S C P (fX2_beNew_P Q ) 82 ) (cwV 1 hts gX4_readInto_X4_takeSign rfl rfl rfl (by decide +kernel) ⟨Nat.le_of_ble_eq_true rfl, Nat.le_of_ble_eq_true rfl⟩) hK hZ hG hS (hC.1 476 (by decide) (by decide)) (show gC 476 = (4, 19, 0) from rfl) (by decide) rfl rfl hl.1 (Nat.le_of_ble_eq_true rfl) dX4_readInto_17 ⟨Nat.zero_le _, Nat.zero_le _⟩ rfl rfl (fun H locs hG hS => ?_)
  refine lv_if_eq (tgt := 47) hx hb dX4_readInto_20 (by decide) (fun c_1 => ?_) (fun c_1 => absurd h1 c_1)
  refine lv_aload_n hx hb dX4_readInto_47 rfl (lv_at hl 0 rfl) ?_
  refine go_get (C := RX4) (T := TX4) (ci := 4) hx hb hts in_X4 hown hK hG (hC.1 476 (by decide) (by decide)) (show gC 476 = (4, 19, 0) from rfl) (by decide) rfl 2 (by decide) rfl k_1 (fun _ h => h) (v := (fX4_takeSign_X (upd (upd X 2 0) 3 0) G 82) 2) (cS_a19 _ _ _ _ _ _ _ _ _) dX4_readInto_48 ?_
  exact g_iret hx hb hrt hlocks hS hG rfl rfl dX4_readInto_51

set_option maxHeartbeats 4000000 in
set_option maxRecDepth 100000 in
theorem mX4_readInto_z {l : Launch} {Γ : gX} (M : Nat → Nat → Int32) (R : Nat → Nat → Option Nat) (O : Int64) (hC : LC Γ R) (X G J S C P Q : Nat → Int32) (h1 : ¬ fX4_takeSign_v (upd (upd X 2 0) 3 0) G 82 = 0) (h2 : fX4_takeSize_v (fX4_takeSign_X (upd (upd X 2 0) 3 0) G 82) G (fX2_beNew_P Q) = 0) : gMet l Γ yX4_readInto wsX4_readInto 5 111 [.ref (gad Γ 476), .ref (gad Γ (25 * 1))] (cS M X G J S C P Q) R O (some (.int ((fX4_takeSize_X (fX4_takeSign_X (upd (upd X 2 0) 3 0) G 82) G (fX2_beNew_P Q)) 2))) (cS M (fX4_takeSize_X (fX4_takeSign_X (upd (upd X 2 0) 3 0) G 82) G (fX2_beNew_P Q)) G J S C P (fX4_takeSize_Q (fX4_takeSign_X (upd (upd X 2 0) 3 0) G 82) G (fX2_beNew_P Q))) R O := by
  refine g_start (cc := cX4_readInto) (maxL := 2) (ret := (some .int)) (by decide) rfl (Nat.le_of_ble_eq_true rfl) ?_
  intro p e s m below meth c ls hx hb hml hrt hts hown hlocks hname hK hZ hG hS hl
  have hl : lv_has ls 2 [(0, .ref (gad Γ 476)), (1, .ref (gad Γ (25 * 1)))] := hl
  have hown : s.vm.findClass RX4 = some m.cls := hown
  have hF : CallFix p m c cX4_readInto 2 s _ wsX4_readInto RX4 := ⟨hx, hb, hml, hown, hts⟩
  have k_1 : (Cond.fieldLink RX4 23 "RoadDust$Text" "at" "I").before _ s = true := hts _ (by decide +kernel)
  have in_X4 : ∀ w ∈ wsX40, w ∈ wsX4_readInto := by decide +kernel
  have k_3 : (Cond.fieldLink RX4 26 "RoadDust$Text" "told" "I").before _ s = true := hts _ (by decide +kernel)
  have hV0 := hC.2.1 0 (by decide)
  have hV1 := hC.2.1 1 (by decide)
  refine lv_aload_n hx hb dX4_readInto_0 rfl (lv_at hl 0 rfl) ?_
  refine lv_iconst (v := 0) hx hb dX4_readInto_1 (by decide) ?_
  refine go_put (M2 := cS M (upd X 2 0) G J S C P Q) (C := RX4) (T := TX4) (ci := 4) hx hb hts in_X4 tyX4 tyX4_ok nmX4 hown hK hG hS (hC.1 476 (by decide) (by decide)) (show gC 476 = (4, 19, 0) from rfl) (by decide) rfl 2 (by decide) k_1 (fun _ h => h) rfl rfl (by decide +kernel) (cS_p19 _ _ _ _ _ _ _ _ _ _) dX4_readInto_2 (fun H locs hG hS => ?_)
  refine lv_aload_n hx hb dX4_readInto_5 rfl (lv_at hl 0 rfl) ?_
  refine lv_iconst (v := 0) hx hb dX4_readInto_6 (by decide) ?_
  refine go_put (M2 := cS M (upd (upd X 2 0) 3 0) G J S C P Q) (C := RX4) (T := TX4) (ci := 4) hx hb hts in_X4 tyX4 tyX4_ok nmX4 hown hK hG hS (hC.1 476 (by decide) (by decide)) (show gC 476 = (4, 19, 0) from rfl) (by decide) rfl 3 (by decide) k_3 (fun _ h => h) rfl rfl (by decide +kernel) (cS_p19 _ _ _ _ _ _ _ _ _ _) dX4_readInto_7 (fun H locs hG hS => ?_)
  refine lv_aload_n hx hb dX4_readInto_10 rfl (lv_at hl 1 rfl) ?_
  replace hG := g_st (show _ = va_up (cS M (upd (upd X 2 0) 3 0) G J S C P Q) 1 Q from (cS_u1 _ _ _ _ _ _ _ _ _).symm) hG
  refine g_callV (As := []) (rest := []) (st1 := []) hF (mX2_beNew (cS M (upd (upd X 2 0) 3 0) G J S C P Q) R O hV1 Q ) (cwV 0 hts gX4_readInto_X2_beNew rfl rfl rfl (by decide +kernel) ⟨Nat.le_of_ble_eq_true rfl, Nat.le_of_ble_eq_true rfl⟩) hK hZ hG hS hV1.c0 (gC_Rd hV1.1) (by decide) rfl rfl hl.1 (Nat.le_of_ble_eq_true rfl) dX4_readInto_11 ⟨Nat.zero_le _, Nat.zero_le _⟩ rfl rfl (fun H locs hG hS => ?_)
  replace hG : GH Γ (cS M (upd (upd X 2 0) 3 0) G J S C P (fX2_beNew_P Q )) R O _ := g_st (cS_u1 _ _ _ _ _ _ _ _ _) hG
  refine lv_aload_n hx hb dX4_readInto_14 rfl (lv_at hl 0 rfl) ?_
  refine lv_bipush (v := 82) hx hb dX4_readInto_15 (by decide) ?_
  refine g_callV (As := [.int 82]) (rest := []) (st1 := [.int (fX4_takeSign_v (upd (upd X 2 0) 3 0) G 82)]) hF (mX4_takeSign M R O hC (upd (upd X 2 0) 3 0) G J S C P (fX2_beNew_P Q ) 82 ) (cwV 1 hts gX4_readInto_X4_takeSign rfl rfl rfl (by decide +kernel) ⟨Nat.le_of_ble_eq_true rfl, Nat.le_of_ble_eq_true rfl⟩) hK hZ hG hS (hC.1 476 (by decide) (by decide)) (show gC 476 = (4, 19, 0) from rfl) (by decide) rfl rfl hl.1 (Nat.le_of_ble_eq_true rfl) dX4_readInto_17 ⟨Nat.zero_le _, Nat.zero_le _⟩ rfl rfl (fun H locs hG hS => ?_)
  refine lv_if_eq (tgt := 47) hx hb dX4_readInto_20 (by decide) (fun c_1 => absurd c_1 h1) (fun c_1 => ?_)
  refine lv_aload_n hx hb dX4_readInto_23 rfl (lv_at hl 0 rfl) ?_
  refine lv_aload_n hx hb dX4_readInto_24 rfl (lv_at hl 1 rfl) ?_
  refine g_callV (As := [.ref (gad Γ (25 * 1))]) (rest := []) (st1 := [.int (fX4_takeSize_v (fX4_takeSign_X (upd (upd X 2 0) 3 0) G 82) G (fX2_beNew_P Q ) )]) hF (mX4_takeSize M R O hC (fX4_takeSign_X (upd (upd X 2 0) 3 0) G 82) G J S C P (fX2_beNew_P Q )  ) (cwV 1 hts gX4_readInto_X4_takeSize rfl rfl rfl (by decide +kernel) ⟨Nat.le_of_ble_eq_true rfl, Nat.le_of_ble_eq_true rfl⟩) hK hZ hG hS (hC.1 476 (by decide) (by decide)) (show gC 476 = (4, 19, 0) from rfl) (by decide) rfl rfl hl.1 (Nat.le_of_ble_eq_true rfl) dX4_readInto_25 ⟨Nat.zero_le _, Nat.zero_le _⟩ rfl rfl (fun H locs hG hS => ?_)
  refine lv_if_eq (tgt := 47) hx hb dX4_readInto_28 (by decide) (fun c_2 => ?_) (fun c_2 => absurd h2 c_2)
  refine lv_aload_n hx hb dX4_readInto_47 rfl (lv_at hl 0 rfl) ?_
  refine go_get (C := RX4) (T := TX4) (ci := 4) hx hb hts in_X4 hown hK hG (hC.1 476 (by decide) (by decide)) (show gC 476 = (4, 19, 0) from rfl) (by decide) rfl 2 (by decide) rfl k_1 (fun _ h => h) (v := (fX4_takeSize_X (fX4_takeSign_X (upd (upd X 2 0) 3 0) G 82) G (fX2_beNew_P Q ) ) 2) (cS_a19 _ _ _ _ _ _ _ _ _) dX4_readInto_48 ?_
  exact g_iret hx hb hrt hlocks hS hG rfl rfl dX4_readInto_51

set_option maxHeartbeats 4000000 in
set_option maxRecDepth 100000 in
theorem mX4_readInto_s {l : Launch} {Γ : gX} (M : Nat → Nat → Int32) (R : Nat → Nat → Option Nat) (O : Int64) (hC : LC Γ R) (X G J S C P Q : Nat → Int32) (h1 : ¬ fX4_takeSign_v (upd (upd X 2 0) 3 0) G 82 = 0) (h2 : ¬ fX4_takeSize_v (fX4_takeSign_X (upd (upd X 2 0) 3 0) G 82) G (fX2_beNew_P Q) = 0) (X1 Q1 : Nat → Int32) (h3 : tsM 0 (fX4_takeSize_X (fX4_takeSign_X (upd (upd X 2 0) 3 0) G 82) G (fX2_beNew_P Q)) G (fX4_takeSize_Q (fX4_takeSign_X (upd (upd X 2 0) 3 0) G 82) G (fX2_beNew_P Q)) X1 Q1) : gMet l Γ yX4_readInto wsX4_readInto 5 111 [.ref (gad Γ 476), .ref (gad Γ (25 * 1))] (cS M X G J S C P Q) R O (some (.int (X1 2))) (cS M X1 G J S C P Q1) R O := by
  refine g_start (cc := cX4_readInto) (maxL := 2) (ret := (some .int)) (by decide) rfl (Nat.le_of_ble_eq_true rfl) ?_
  intro p e s m below meth c ls hx hb hml hrt hts hown hlocks hname hK hZ hG hS hl
  have hl : lv_has ls 2 [(0, .ref (gad Γ 476)), (1, .ref (gad Γ (25 * 1)))] := hl
  have hown : s.vm.findClass RX4 = some m.cls := hown
  have hF : CallFix p m c cX4_readInto 2 s _ wsX4_readInto RX4 := ⟨hx, hb, hml, hown, hts⟩
  have k_1 : (Cond.fieldLink RX4 23 "RoadDust$Text" "at" "I").before _ s = true := hts _ (by decide +kernel)
  have in_X4 : ∀ w ∈ wsX40, w ∈ wsX4_readInto := by decide +kernel
  have k_3 : (Cond.fieldLink RX4 26 "RoadDust$Text" "told" "I").before _ s = true := hts _ (by decide +kernel)
  have hV0 := hC.2.1 0 (by decide)
  have hV1 := hC.2.1 1 (by decide)
  refine lv_aload_n hx hb dX4_readInto_0 rfl (lv_at hl 0 rfl) ?_
  refine lv_iconst (v := 0) hx hb dX4_readInto_1 (by decide) ?_
  refine go_put (M2 := cS M (upd X 2 0) G J S C P Q) (C := RX4) (T := TX4) (ci := 4) hx hb hts in_X4 tyX4 tyX4_ok nmX4 hown hK hG hS (hC.1 476 (by decide) (by decide)) (show gC 476 = (4, 19, 0) from rfl) (by decide) rfl 2 (by decide) k_1 (fun _ h => h) rfl rfl (by decide +kernel) (cS_p19 _ _ _ _ _ _ _ _ _ _) dX4_readInto_2 (fun H locs hG hS => ?_)
  refine lv_aload_n hx hb dX4_readInto_5 rfl (lv_at hl 0 rfl) ?_
  refine lv_iconst (v := 0) hx hb dX4_readInto_6 (by decide) ?_
  refine go_put (M2 := cS M (upd (upd X 2 0) 3 0) G J S C P Q) (C := RX4) (T := TX4) (ci := 4) hx hb hts in_X4 tyX4 tyX4_ok nmX4 hown hK hG hS (hC.1 476 (by decide) (by decide)) (show gC 476 = (4, 19, 0) from rfl) (by decide) rfl 3 (by decide) k_3 (fun _ h => h) rfl rfl (by decide +kernel) (cS_p19 _ _ _ _ _ _ _ _ _ _) dX4_readInto_7 (fun H locs hG hS => ?_)
  refine lv_aload_n hx hb dX4_readInto_10 rfl (lv_at hl 1 rfl) ?_
  replace hG := g_st (show _ = va_up (cS M (upd (upd X 2 0) 3 0) G J S C P Q) 1 Q from (cS_u1 _ _ _ _ _ _ _ _ _).symm) hG
  refine g_callV (As := []) (rest := []) (st1 := []) hF (mX2_beNew (cS M (upd (upd X 2 0) 3 0) G J S C P Q) R O hV1 Q ) (cwV 0 hts gX4_readInto_X2_beNew rfl rfl rfl (by decide +kernel) ⟨Nat.le_of_ble_eq_true rfl, Nat.le_of_ble_eq_true rfl⟩) hK hZ hG hS hV1.c0 (gC_Rd hV1.1) (by decide) rfl rfl hl.1 (Nat.le_of_ble_eq_true rfl) dX4_readInto_11 ⟨Nat.zero_le _, Nat.zero_le _⟩ rfl rfl (fun H locs hG hS => ?_)
  replace hG : GH Γ (cS M (upd (upd X 2 0) 3 0) G J S C P (fX2_beNew_P Q )) R O _ := g_st (cS_u1 _ _ _ _ _ _ _ _ _) hG
  refine lv_aload_n hx hb dX4_readInto_14 rfl (lv_at hl 0 rfl) ?_
  refine lv_bipush (v := 82) hx hb dX4_readInto_15 (by decide) ?_
  refine g_callV (As := [.int 82]) (rest := []) (st1 := [.int (fX4_takeSign_v (upd (upd X 2 0) 3 0) G 82)]) hF (mX4_takeSign M R O hC (upd (upd X 2 0) 3 0) G J S C P (fX2_beNew_P Q ) 82 ) (cwV 1 hts gX4_readInto_X4_takeSign rfl rfl rfl (by decide +kernel) ⟨Nat.le_of_ble_eq_true rfl, Nat.le_of_ble_eq_true rfl⟩) hK hZ hG hS (hC.1 476 (by decide) (by decide)) (show gC 476 = (4, 19, 0) from rfl) (by decide) rfl rfl hl.1 (Nat.le_of_ble_eq_true rfl) dX4_readInto_17 ⟨Nat.zero_le _, Nat.zero_le _⟩ rfl rfl (fun H locs hG hS => ?_)
  refine lv_if_eq (tgt := 47) hx hb dX4_readInto_20 (by decide) (fun c_1 => absurd c_1 h1) (fun c_1 => ?_)
  refine lv_aload_n hx hb dX4_readInto_23 rfl (lv_at hl 0 rfl) ?_
  refine lv_aload_n hx hb dX4_readInto_24 rfl (lv_at hl 1 rfl) ?_
  refine g_callV (As := [.ref (gad Γ (25 * 1))]) (rest := []) (st1 := [.int (fX4_takeSize_v (fX4_takeSign_X (upd (upd X 2 0) 3 0) G 82) G (fX2_beNew_P Q ) )]) hF (mX4_takeSize M R O hC (fX4_takeSign_X (upd (upd X 2 0) 3 0) G 82) G J S C P (fX2_beNew_P Q )  ) (cwV 1 hts gX4_readInto_X4_takeSize rfl rfl rfl (by decide +kernel) ⟨Nat.le_of_ble_eq_true rfl, Nat.le_of_ble_eq_true rfl⟩) hK hZ hG hS (hC.1 476 (by decide) (by decide)) (show gC 476 = (4, 19, 0) from rfl) (by decide) rfl rfl hl.1 (Nat.le_of_ble_eq_true rfl) dX4_readInto_25 ⟨Nat.zero_le _, Nat.zero_le _⟩ rfl rfl (fun H locs hG hS => ?_)
  refine lv_if_eq (tgt := 47) hx hb dX4_readInto_28 (by decide) (fun c_2 => absurd c_2 h2) (fun c_2 => ?_)
  refine lv_aload_n hx hb dX4_readInto_31 rfl (lv_at hl 0 rfl) ?_
  refine lv_aload_n hx hb dX4_readInto_32 rfl (lv_at hl 1 rfl) ?_
  refine g_callV (As := [.ref (gad Γ (25 * 1))]) (rest := []) (st1 := [.int 0]) hF (h3 _ _ M R O hC J S C P) (cwV 1 hts gX4_readInto_X4_takeSurfaces rfl rfl rfl (by decide +kernel) ⟨Nat.le_of_ble_eq_true rfl, Nat.le_of_ble_eq_true rfl⟩) hK hZ hG hS (hC.1 476 (by decide) (by decide)) (show gC 476 = (4, 19, 0) from rfl) (by decide) rfl rfl hl.1 (Nat.le_of_ble_eq_true rfl) dX4_readInto_33 ⟨Nat.zero_le _, Nat.zero_le _⟩ rfl rfl (fun H locs hG hS => ?_)
  replace hG : GH Γ (cS M X1 G J S C P Q1) R O _ := hG
  refine lv_if_eq (tgt := 47) hx hb dX4_readInto_36 (by decide) (fun c_3 => ?_) (fun c_3 => absurd (by decide) c_3)
  refine lv_aload_n hx hb dX4_readInto_47 rfl (lv_at hl 0 rfl) ?_
  refine go_get (C := RX4) (T := TX4) (ci := 4) hx hb hts in_X4 hown hK hG (hC.1 476 (by decide) (by decide)) (show gC 476 = (4, 19, 0) from rfl) (by decide) rfl 2 (by decide) rfl k_1 (fun _ h => h) (v := X1 2) (cS_a19 _ _ _ _ _ _ _ _ _) dX4_readInto_48 ?_
  exact g_iret hx hb hrt hlocks hS hG rfl rfl dX4_readInto_51

set_option maxHeartbeats 4000000 in
set_option maxRecDepth 100000 in
theorem mX4_readInto_p {l : Launch} {Γ : gX} (M : Nat → Nat → Int32) (R : Nat → Nat → Option Nat) (O : Int64) (hC : LC Γ R) (X G J S C P Q : Nat → Int32) (h1 : ¬ fX4_takeSign_v (upd (upd X 2 0) 3 0) G 82 = 0) (h2 : ¬ fX4_takeSize_v (fX4_takeSign_X (upd (upd X 2 0) 3 0) G 82) G (fX2_beNew_P Q) = 0) (X1 Q1 X2 Q2 : Nat → Int32) (h3 : tsM 1 (fX4_takeSize_X (fX4_takeSign_X (upd (upd X 2 0) 3 0) G 82) G (fX2_beNew_P Q)) G (fX4_takeSize_Q (fX4_takeSign_X (upd (upd X 2 0) 3 0) G 82) G (fX2_beNew_P Q)) X1 Q1) (h4 : tpM 0 X1 G Q1 X2 Q2) : gMet l Γ yX4_readInto wsX4_readInto 5 111 [.ref (gad Γ 476), .ref (gad Γ (25 * 1))] (cS M X G J S C P Q) R O (some (.int (X2 2))) (cS M X2 G J S C P Q2) R O := by
  refine g_start (cc := cX4_readInto) (maxL := 2) (ret := (some .int)) (by decide) rfl (Nat.le_of_ble_eq_true rfl) ?_
  intro p e s m below meth c ls hx hb hml hrt hts hown hlocks hname hK hZ hG hS hl
  have hl : lv_has ls 2 [(0, .ref (gad Γ 476)), (1, .ref (gad Γ (25 * 1)))] := hl
  have hown : s.vm.findClass RX4 = some m.cls := hown
  have hF : CallFix p m c cX4_readInto 2 s _ wsX4_readInto RX4 := ⟨hx, hb, hml, hown, hts⟩
  have k_1 : (Cond.fieldLink RX4 23 "RoadDust$Text" "at" "I").before _ s = true := hts _ (by decide +kernel)
  have in_X4 : ∀ w ∈ wsX40, w ∈ wsX4_readInto := by decide +kernel
  have k_3 : (Cond.fieldLink RX4 26 "RoadDust$Text" "told" "I").before _ s = true := hts _ (by decide +kernel)
  have hV0 := hC.2.1 0 (by decide)
  have hV1 := hC.2.1 1 (by decide)
  refine lv_aload_n hx hb dX4_readInto_0 rfl (lv_at hl 0 rfl) ?_
  refine lv_iconst (v := 0) hx hb dX4_readInto_1 (by decide) ?_
  refine go_put (M2 := cS M (upd X 2 0) G J S C P Q) (C := RX4) (T := TX4) (ci := 4) hx hb hts in_X4 tyX4 tyX4_ok nmX4 hown hK hG hS (hC.1 476 (by decide) (by decide)) (show gC 476 = (4, 19, 0) from rfl) (by decide) rfl 2 (by decide) k_1 (fun _ h => h) rfl rfl (by decide +kernel) (cS_p19 _ _ _ _ _ _ _ _ _ _) dX4_readInto_2 (fun H locs hG hS => ?_)
  refine lv_aload_n hx hb dX4_readInto_5 rfl (lv_at hl 0 rfl) ?_
  refine lv_iconst (v := 0) hx hb dX4_readInto_6 (by decide) ?_
  refine go_put (M2 := cS M (upd (upd X 2 0) 3 0) G J S C P Q) (C := RX4) (T := TX4) (ci := 4) hx hb hts in_X4 tyX4 tyX4_ok nmX4 hown hK hG hS (hC.1 476 (by decide) (by decide)) (show gC 476 = (4, 19, 0) from rfl) (by decide) rfl 3 (by decide) k_3 (fun _ h => h) rfl rfl (by decide +kernel) (cS_p19 _ _ _ _ _ _ _ _ _ _) dX4_readInto_7 (fun H locs hG hS => ?_)
  refine lv_aload_n hx hb dX4_readInto_10 rfl (lv_at hl 1 rfl) ?_
  replace hG := g_st (show _ = va_up (cS M (upd (upd X 2 0) 3 0) G J S C P Q) 1 Q from (cS_u1 _ _ _ _ _ _ _ _ _).symm) hG
  refine g_callV (As := []) (rest := []) (st1 := []) hF (mX2_beNew (cS M (upd (upd X 2 0) 3 0) G J S C P Q) R O hV1 Q ) (cwV 0 hts gX4_readInto_X2_beNew rfl rfl rfl (by decide +kernel) ⟨Nat.le_of_ble_eq_true rfl, Nat.le_of_ble_eq_true rfl⟩) hK hZ hG hS hV1.c0 (gC_Rd hV1.1) (by decide) rfl rfl hl.1 (Nat.le_of_ble_eq_true rfl) dX4_readInto_11 ⟨Nat.zero_le _, Nat.zero_le _⟩ rfl rfl (fun H locs hG hS => ?_)
  replace hG : GH Γ (cS M (upd (upd X 2 0) 3 0) G J S C P (fX2_beNew_P Q )) R O _ := g_st (cS_u1 _ _ _ _ _ _ _ _ _) hG
  refine lv_aload_n hx hb dX4_readInto_14 rfl (lv_at hl 0 rfl) ?_
  refine lv_bipush (v := 82) hx hb dX4_readInto_15 (by decide) ?_
  refine g_callV (As := [.int 82]) (rest := []) (st1 := [.int (fX4_takeSign_v (upd (upd X 2 0) 3 0) G 82)]) hF (mX4_takeSign M R O hC (upd (upd X 2 0) 3 0) G J S C P (fX2_beNew_P Q ) 82 ) (cwV 1 hts gX4_readInto_X4_takeSign rfl rfl rfl (by decide +kernel) ⟨Nat.le_of_ble_eq_true rfl, Nat.le_of_ble_eq_true rfl⟩) hK hZ hG hS (hC.1 476 (by decide) (by decide)) (show gC 476 = (4, 19, 0) from rfl) (by decide) rfl rfl hl.1 (Nat.le_of_ble_eq_true rfl) dX4_readInto_17 ⟨Nat.zero_le _, Nat.zero_le _⟩ rfl rfl (fun H locs hG hS => ?_)
  refine lv_if_eq (tgt := 47) hx hb dX4_readInto_20 (by decide) (fun c_1 => absurd c_1 h1) (fun c_1 => ?_)
  refine lv_aload_n hx hb dX4_readInto_23 rfl (lv_at hl 0 rfl) ?_
  refine lv_aload_n hx hb dX4_readInto_24 rfl (lv_at hl 1 rfl) ?_
  refine g_callV (As := [.ref (gad Γ (25 * 1))]) (rest := []) (st1 := [.int (fX4_takeSize_v (fX4_takeSign_X (upd (upd X 2 0) 3 0) G 82) G (fX2_beNew_P Q ) )]) hF (mX4_takeSize M R O hC (fX4_takeSign_X (upd (upd X 2 0) 3 0) G 82) G J S C P (fX2_beNew_P Q )  ) (cwV 1 hts gX4_readInto_X4_takeSize rfl rfl rfl (by decide +kernel) ⟨Nat.le_of_ble_eq_true rfl, Nat.le_of_ble_eq_true rfl⟩) hK hZ hG hS (hC.1 476 (by decide) (by decide)) (show gC 476 = (4, 19, 0) from rfl) (by decide) rfl rfl hl.1 (Nat.le_of_ble_eq_true rfl) dX4_readInto_25 ⟨Nat.zero_le _, Nat.zero_le _⟩ rfl rfl (fun H locs hG hS => ?_)
  refine lv_if_eq (tgt := 47) hx hb dX4_readInto_28 (by decide) (fun c_2 => absurd c_2 h2) (fun c_2 => ?_)
  refine lv_aload_n hx hb dX4_readInto_31 rfl (lv_at hl 0 rfl) ?_
  refine lv_aload_n hx hb dX4_readInto_32 rfl (lv_at hl 1 rfl) ?_
  refine g_callV (As := [.ref (gad Γ (25 * 1))]) (rest := []) (st1 := [.int 1]) hF (h3 _ _ M R O hC J S C P) (cwV 1 hts gX4_readInto_X4_takeSurfaces rfl rfl rfl (by decide +kernel) ⟨Nat.le_of_ble_eq_true rfl, Nat.le_of_ble_eq_true rfl⟩) hK hZ hG hS (hC.1 476 (by decide) (by decide)) (show gC 476 = (4, 19, 0) from rfl) (by decide) rfl rfl hl.1 (Nat.le_of_ble_eq_true rfl) dX4_readInto_33 ⟨Nat.zero_le _, Nat.zero_le _⟩ rfl rfl (fun H locs hG hS => ?_)
  replace hG : GH Γ (cS M X1 G J S C P Q1) R O _ := hG
  refine lv_if_eq (tgt := 47) hx hb dX4_readInto_36 (by decide) (fun c_3 => absurd c_3 (by decide)) (fun c_3 => ?_)
  refine lv_aload_n hx hb dX4_readInto_39 rfl (lv_at hl 0 rfl) ?_
  refine lv_aload_n hx hb dX4_readInto_40 rfl (lv_at hl 1 rfl) ?_
  refine g_callV (As := [.ref (gad Γ (25 * 1))]) (rest := []) (st1 := [.int 0]) hF (h4 _ _ M R O hC J S C P) (cwV 1 hts gX4_readInto_X4_takeParts rfl rfl rfl (by decide +kernel) ⟨Nat.le_of_ble_eq_true rfl, Nat.le_of_ble_eq_true rfl⟩) hK hZ hG hS (hC.1 476 (by decide) (by decide)) (show gC 476 = (4, 19, 0) from rfl) (by decide) rfl rfl hl.1 (Nat.le_of_ble_eq_true rfl) dX4_readInto_41 ⟨Nat.zero_le _, Nat.zero_le _⟩ rfl rfl (fun H locs hG hS => ?_)
  replace hG : GH Γ (cS M X2 G J S C P Q2) R O _ := hG
  refine lv_if_ne (tgt := 52) hx hb dX4_readInto_44 (by decide) (fun c_4 => absurd (by decide) c_4) (fun c_4 => ?_)
  refine lv_aload_n hx hb dX4_readInto_47 rfl (lv_at hl 0 rfl) ?_
  refine go_get (C := RX4) (T := TX4) (ci := 4) hx hb hts in_X4 hown hK hG (hC.1 476 (by decide) (by decide)) (show gC 476 = (4, 19, 0) from rfl) (by decide) rfl 2 (by decide) rfl k_1 (fun _ h => h) (v := X2 2) (cS_a19 _ _ _ _ _ _ _ _ _) dX4_readInto_48 ?_
  exact g_iret hx hb hrt hlocks hS hG rfl rfl dX4_readInto_51

set_option maxHeartbeats 4000000 in
set_option maxRecDepth 100000 in
theorem mX4_readInto_y {l : Launch} {Γ : gX} (M : Nat → Nat → Int32) (R : Nat → Nat → Option Nat) (O : Int64) (hC : LC Γ R) (X G J S C P Q : Nat → Int32) (h1 : ¬ fX4_takeSign_v (upd (upd X 2 0) 3 0) G 82 = 0) (h2 : ¬ fX4_takeSize_v (fX4_takeSign_X (upd (upd X 2 0) 3 0) G 82) G (fX2_beNew_P Q) = 0) (X1 Q1 X2 Q2 : Nat → Int32) (h3 : tsM 1 (fX4_takeSize_X (fX4_takeSign_X (upd (upd X 2 0) 3 0) G 82) G (fX2_beNew_P Q)) G (fX4_takeSize_Q (fX4_takeSign_X (upd (upd X 2 0) 3 0) G 82) G (fX2_beNew_P Q)) X1 Q1) (h4 : tpM 1 X1 G Q1 X2 Q2) : gMet l Γ yX4_readInto wsX4_readInto 5 111 [.ref (gad Γ 476), .ref (gad Γ (25 * 1))] (cS M X G J S C P Q) R O (some (.int (-9))) (cS M X2 G J S C P (if X2 3 = 0 then Q2 else fX2_tellFillingPlaces_P Q2 (X2 3))) R O := by
  refine g_start (cc := cX4_readInto) (maxL := 2) (ret := (some .int)) (by decide) rfl (Nat.le_of_ble_eq_true rfl) ?_
  intro p e s m below meth c ls hx hb hml hrt hts hown hlocks hname hK hZ hG hS hl
  have hl : lv_has ls 2 [(0, .ref (gad Γ 476)), (1, .ref (gad Γ (25 * 1)))] := hl
  have hown : s.vm.findClass RX4 = some m.cls := hown
  have hF : CallFix p m c cX4_readInto 2 s _ wsX4_readInto RX4 := ⟨hx, hb, hml, hown, hts⟩
  have k_1 : (Cond.fieldLink RX4 23 "RoadDust$Text" "at" "I").before _ s = true := hts _ (by decide +kernel)
  have in_X4 : ∀ w ∈ wsX40, w ∈ wsX4_readInto := by decide +kernel
  have k_3 : (Cond.fieldLink RX4 26 "RoadDust$Text" "told" "I").before _ s = true := hts _ (by decide +kernel)
  have hV0 := hC.2.1 0 (by decide)
  have hV1 := hC.2.1 1 (by decide)
  refine lv_aload_n hx hb dX4_readInto_0 rfl (lv_at hl 0 rfl) ?_
  refine lv_iconst (v := 0) hx hb dX4_readInto_1 (by decide) ?_
  refine go_put (M2 := cS M (upd X 2 0) G J S C P Q) (C := RX4) (T := TX4) (ci := 4) hx hb hts in_X4 tyX4 tyX4_ok nmX4 hown hK hG hS (hC.1 476 (by decide) (by decide)) (show gC 476 = (4, 19, 0) from rfl) (by decide) rfl 2 (by decide) k_1 (fun _ h => h) rfl rfl (by decide +kernel) (cS_p19 _ _ _ _ _ _ _ _ _ _) dX4_readInto_2 (fun H locs hG hS => ?_)
  refine lv_aload_n hx hb dX4_readInto_5 rfl (lv_at hl 0 rfl) ?_
  refine lv_iconst (v := 0) hx hb dX4_readInto_6 (by decide) ?_
  refine go_put (M2 := cS M (upd (upd X 2 0) 3 0) G J S C P Q) (C := RX4) (T := TX4) (ci := 4) hx hb hts in_X4 tyX4 tyX4_ok nmX4 hown hK hG hS (hC.1 476 (by decide) (by decide)) (show gC 476 = (4, 19, 0) from rfl) (by decide) rfl 3 (by decide) k_3 (fun _ h => h) rfl rfl (by decide +kernel) (cS_p19 _ _ _ _ _ _ _ _ _ _) dX4_readInto_7 (fun H locs hG hS => ?_)
  refine lv_aload_n hx hb dX4_readInto_10 rfl (lv_at hl 1 rfl) ?_
  replace hG := g_st (show _ = va_up (cS M (upd (upd X 2 0) 3 0) G J S C P Q) 1 Q from (cS_u1 _ _ _ _ _ _ _ _ _).symm) hG
  refine g_callV (As := []) (rest := []) (st1 := []) hF (mX2_beNew (cS M (upd (upd X 2 0) 3 0) G J S C P Q) R O hV1 Q ) (cwV 0 hts gX4_readInto_X2_beNew rfl rfl rfl (by decide +kernel) ⟨Nat.le_of_ble_eq_true rfl, Nat.le_of_ble_eq_true rfl⟩) hK hZ hG hS hV1.c0 (gC_Rd hV1.1) (by decide) rfl rfl hl.1 (Nat.le_of_ble_eq_true rfl) dX4_readInto_11 ⟨Nat.zero_le _, Nat.zero_le _⟩ rfl rfl (fun H locs hG hS => ?_)
  replace hG : GH Γ (cS M (upd (upd X 2 0) 3 0) G J S C P (fX2_beNew_P Q )) R O _ := g_st (cS_u1 _ _ _ _ _ _ _ _ _) hG
  refine lv_aload_n hx hb dX4_readInto_14 rfl (lv_at hl 0 rfl) ?_
  refine lv_bipush (v := 82) hx hb dX4_readInto_15 (by decide) ?_
  refine g_callV (As := [.int 82]) (rest := []) (st1 := [.int (fX4_takeSign_v (upd (upd X 2 0) 3 0) G 82)]) hF (mX4_takeSign M R O hC (upd (upd X 2 0) 3 0) G J S C P (fX2_beNew_P Q ) 82 ) (cwV 1 hts gX4_readInto_X4_takeSign rfl rfl rfl (by decide +kernel) ⟨Nat.le_of_ble_eq_true rfl, Nat.le_of_ble_eq_true rfl⟩) hK hZ hG hS (hC.1 476 (by decide) (by decide)) (show gC 476 = (4, 19, 0) from rfl) (by decide) rfl rfl hl.1 (Nat.le_of_ble_eq_true rfl) dX4_readInto_17 ⟨Nat.zero_le _, Nat.zero_le _⟩ rfl rfl (fun H locs hG hS => ?_)
  refine lv_if_eq (tgt := 47) hx hb dX4_readInto_20 (by decide) (fun c_1 => absurd c_1 h1) (fun c_1 => ?_)
  refine lv_aload_n hx hb dX4_readInto_23 rfl (lv_at hl 0 rfl) ?_
  refine lv_aload_n hx hb dX4_readInto_24 rfl (lv_at hl 1 rfl) ?_
  refine g_callV (As := [.ref (gad Γ (25 * 1))]) (rest := []) (st1 := [.int (fX4_takeSize_v (fX4_takeSign_X (upd (upd X 2 0) 3 0) G 82) G (fX2_beNew_P Q ) )]) hF (mX4_takeSize M R O hC (fX4_takeSign_X (upd (upd X 2 0) 3 0) G 82) G J S C P (fX2_beNew_P Q )  ) (cwV 1 hts gX4_readInto_X4_takeSize rfl rfl rfl (by decide +kernel) ⟨Nat.le_of_ble_eq_true rfl, Nat.le_of_ble_eq_true rfl⟩) hK hZ hG hS (hC.1 476 (by decide) (by decide)) (show gC 476 = (4, 19, 0) from rfl) (by decide) rfl rfl hl.1 (Nat.le_of_ble_eq_true rfl) dX4_readInto_25 ⟨Nat.zero_le _, Nat.zero_le _⟩ rfl rfl (fun H locs hG hS => ?_)
  refine lv_if_eq (tgt := 47) hx hb dX4_readInto_28 (by decide) (fun c_2 => absurd c_2 h2) (fun c_2 => ?_)
  refine lv_aload_n hx hb dX4_readInto_31 rfl (lv_at hl 0 rfl) ?_
  refine lv_aload_n hx hb dX4_readInto_32 rfl (lv_at hl 1 rfl) ?_
  refine g_callV (As := [.ref (gad Γ (25 * 1))]) (rest := []) (st1 := [.int 1]) hF (h3 _ _ M R O hC J S C P) (cwV 1 hts gX4_readInto_X4_takeSurfaces rfl rfl rfl (by decide +kernel) ⟨Nat.le_of_ble_eq_true rfl, Nat.le_of_ble_eq_true rfl⟩) hK hZ hG hS (hC.1 476 (by decide) (by decide)) (show gC 476 = (4, 19, 0) from rfl) (by decide) rfl rfl hl.1 (Nat.le_of_ble_eq_true rfl) dX4_readInto_33 ⟨Nat.zero_le _, Nat.zero_le _⟩ rfl rfl (fun H locs hG hS => ?_)
  replace hG : GH Γ (cS M X1 G J S C P Q1) R O _ := hG
  refine lv_if_eq (tgt := 47) hx hb dX4_readInto_36 (by decide) (fun c_3 => absurd c_3 (by decide)) (fun c_3 => ?_)
  refine lv_aload_n hx hb dX4_readInto_39 rfl (lv_at hl 0 rfl) ?_
  refine lv_aload_n hx hb dX4_readInto_40 rfl (lv_at hl 1 rfl) ?_
  refine g_callV (As := [.ref (gad Γ (25 * 1))]) (rest := []) (st1 := [.int 1]) hF (h4 _ _ M R O hC J S C P) (cwV 1 hts gX4_readInto_X4_takeParts rfl rfl rfl (by decide +kernel) ⟨Nat.le_of_ble_eq_true rfl, Nat.le_of_ble_eq_true rfl⟩) hK hZ hG hS (hC.1 476 (by decide) (by decide)) (show gC 476 = (4, 19, 0) from rfl) (by decide) rfl rfl hl.1 (Nat.le_of_ble_eq_true rfl) dX4_readInto_41 ⟨Nat.zero_le _, Nat.zero_le _⟩ rfl rfl (fun H locs hG hS => ?_)
  replace hG : GH Γ (cS M X2 G J S C P Q2) R O _ := hG
  refine lv_if_ne (tgt := 52) hx hb dX4_readInto_44 (by decide) (fun c_4 => ?_) (fun c_4 => absurd c_4 (by decide))
  refine lv_aload_n hx hb dX4_readInto_52 rfl (lv_at hl 0 rfl) ?_
  refine go_get (C := RX4) (T := TX4) (ci := 4) hx hb hts in_X4 hown hK hG (hC.1 476 (by decide) (by decide)) (show gC 476 = (4, 19, 0) from rfl) (by decide) rfl 3 (by decide) rfl k_3 (fun _ h => h) (v := X2 3) (cS_a19 _ _ _ _ _ _ _ _ _) dX4_readInto_53 ?_
  refine lv_if_eq (tgt := 67) hx hb dX4_readInto_56 (by decide) (fun c_5 => ?_) (fun c_5 => ?_)
  · --T
    refine lv_bipush (v := (-9)) hx hb dX4_readInto_67 (by decide) ?_
    exact g_iret hx hb hrt hlocks hS hG rfl (cS_c rfl rfl rfl rfl rfl rfl (by rw [if_pos c_5])) dX4_readInto_69
  · --F
    refine lv_aload_n hx hb dX4_readInto_59 rfl (lv_at hl 1 rfl) ?_
    refine lv_aload_n hx hb dX4_readInto_60 rfl (lv_at hl 0 rfl) ?_
    refine go_get (C := RX4) (T := TX4) (ci := 4) hx hb hts in_X4 hown hK hG (hC.1 476 (by decide) (by decide)) (show gC 476 = (4, 19, 0) from rfl) (by decide) rfl 3 (by decide) rfl k_3 (fun _ h => h) (v := X2 3) (cS_a19 _ _ _ _ _ _ _ _ _) dX4_readInto_61 ?_
    replace hG := g_st (show _ = va_up (cS M X2 G J S C P Q2) 1 Q2 from (cS_u1 _ _ _ _ _ _ _ _ _).symm) hG
    refine g_callV (As := [.int (X2 3)]) (rest := []) (st1 := []) hF (mX2_tellFillingPlaces (cS M X2 G J S C P Q2) R O hV1 Q2 (X2 3)) (cwV 1 hts gX4_readInto_X2_tellFillingPlaces rfl rfl rfl (by decide +kernel) ⟨Nat.le_of_ble_eq_true rfl, Nat.le_of_ble_eq_true rfl⟩) hK hZ hG hS hV1.c0 (gC_Rd hV1.1) (by decide) rfl rfl hl.1 (Nat.le_of_ble_eq_true rfl) dX4_readInto_64 ⟨Nat.zero_le _, Nat.zero_le _⟩ rfl rfl (fun H locs hG hS => ?_)
    replace hG : GH Γ (cS M X2 G J S C P (fX2_tellFillingPlaces_P Q2 (X2 3))) R O _ := g_st (cS_u1 _ _ _ _ _ _ _ _ _) hG
    refine lv_bipush (v := (-9)) hx hb dX4_readInto_67 (by decide) ?_
    exact g_iret hx hb hrt hlocks hS hG rfl (cS_c rfl rfl rfl rfl rfl rfl (by rw [if_neg c_5])) dX4_readInto_69

def riM (v : Int32) (X G Q X1 Q1 : Nat → Int32) : Prop := ∀ (l : Launch) (Γ : gX) (M : Nat → Nat → Int32) (R : Nat → Nat → Option Nat) (O : Int64), LC Γ R → ∀ J S C P : Nat → Int32, gMet l Γ yX4_readInto wsX4_readInto 5 111 [.ref (gad Γ 476), .ref (gad Γ (25 * 1))] (cS M X G J S C P Q) R O (some (.int v)) (cS M X1 G J S C P Q1) R O
