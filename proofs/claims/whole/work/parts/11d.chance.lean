/-! THE REFERENCE: chance, simulations. Laid by gen/p11.py. -/
def rho (x : Int64) : Nat := x.toBitVec.toNat / 2 ^ 33
theorem rho_lt (x : Int64) : rho x < 2 ^ 31 := by
  unfold rho
  have := x.toBitVec.isLt
  omega
theorem rho_pl (x : Int64) : ((x.toUInt64 >>> ((33 : Int32).toInt64.toUInt64 &&& Int64.toUInt64 63)).toInt64).toInt32 = nI (rho x) := by
  apply Int32.toBitVec_inj.mp
  apply BitVec.eq_of_toNat_eq
  have h1 : ((33 : Int32).toInt64.toUInt64 &&& Int64.toUInt64 63) = 33 := by decide
  rw [h1]
  have h2 := rho_lt x
  rw [pk_tn (by omega)]
  show (BitVec.signExtend 32 (x.toUInt64 >>> 33).toBitVec).toNat = rho x
  rw [BitVec.signExtend_eq_setWidth_of_le _ (by decide), BitVec.toNat_setWidth]
  rw [UInt64.toBitVec_shiftRight]
  show (x.toBitVec >>> ((33 : UInt64).toBitVec % 64)).toNat % 2 ^ 32 = rho x
  rw [show ((33 : UInt64).toBitVec % 64) = 33#64 by decide]
  show (x.toBitVec.toNat >>> (33#64).toNat) % 2 ^ 32 = rho x
  rw [show (33#64).toNat = 33 from rfl, Nat.shiftRight_eq_div_pow]
  show x.toBitVec.toNat / 2 ^ 33 % 2 ^ 32 = rho x
  unfold rho at h2 ⊢
  exact Nat.mod_eq_of_lt (by omega)
theorem rem_pl {n : Int32} {ρ d k : Nat} (hρ : ρ < 2 ^ 31) (hd0 : 0 < d) (hd : d < 2 ^ 31) (h : n = nI k) (hk : 0 < k) (hk2 : k < 2 ^ 31) : remI (nI ρ / nI d) n = nI (ρ / d % k) := by
  subst h
  rw [pk_div hρ hd0 hd]
  exact pk_rem (Nat.lt_of_le_of_lt (Nat.div_le_self _ _) hρ) hk hk2
theorem ne0_pl {n : Int32} {k : Nat} (h : n = nI k) (h0 : ¬ n = 0) : 0 < k := by
  rcases Nat.eq_zero_or_pos k with q | q
  · subst q; exact absurd (h.trans nI_0) h0
  · exact q
theorem drv_pl {V : Nat → Int32} {ρ : Nat} (x y : Int32) (hρ : ρ < 2 ^ 31) (hV : WS V) (hS0 : ¬ V 0 = 0) : remI (nI ρ / 2048) (upd (upd V 5 x) 6 y 0) = nI (remI (nI ρ / 2048) (upd (upd V 5 x) 6 y 0)).toNatClampNeg ∧ (remI (nI ρ / 2048) (upd (upd V 5 x) 6 y 0)).toNatClampNeg < 10 := by
  have v0 := hV.1.2
  have s0 := ne0_pl hV.1.1 hS0
  have q_0 := Nat.mod_lt (ρ / 2048) s0
  rw [upd_nw _ _ (by decide), upd_nw _ _ (by decide), show (2048 : Int32) = nI 2048 from rfl, rem_pl (d := 2048) hρ (by decide) (by decide) hV.1.1 s0 (by omega), nI_clamp (by omega)]
  exact ⟨rfl, by omega⟩
def fX7_change_V (A T D N V I K B : Nat → Int32) (ρ : Nat) : Nat → Int32 := if ((upd (upd V 5 (remI (nI ρ) 21)) 6 (remI ((nI ρ) / 32) 10)) 2) = 0 then upd (upd V 5 (remI (nI ρ) 21)) 6 (remI ((nI ρ) / 32) 10) else if (fX7_less_v 5 ((upd (upd V 5 (remI (nI ρ) 21)) 6 (remI ((nI ρ) / 32) 10)) ((122 + 3 * (ρ / 512 % (V 2).toNatClampNeg)) + 1))) ≤ 0 then upd (upd V 5 (remI (nI ρ) 21)) 6 (remI ((nI ρ) / 32) 10) else fX7_sprayOn_P (fX7_driveOn_P (upd (upd V 5 (remI (nI ρ) 21)) 6 (remI ((nI ρ) / 32) 10)) (ρ / 512 % (V 2).toNatClampNeg) (remI ((nI ρ) / 2048) ((upd (upd V 5 (remI (nI ρ) 21)) 6 (remI ((nI ρ) / 32) 10)) 0))) (ρ / 512 % (V 2).toNatClampNeg) (fX7_less_v 5 ((upd (upd V 5 (remI (nI ρ) 21)) 6 (remI ((nI ρ) / 32) 10)) ((122 + 3 * (ρ / 512 % (V 2).toNatClampNeg)) + 1)))
set_option maxHeartbeats 4000000 in
set_option maxRecDepth 100000 in
theorem mX7_change {l : Launch} {Γ : gX} (M : Nat → Nat → Int32) (R : Nat → Nat → Option Nat) (O : Int64) (hL : LM Γ R) (A T D N V I K B : Nat → Int32) (ρ : Nat) (hρ : ρ < 2 ^ 31) {t : Int32} (ht : t = nI ρ) (hV : WS V) (hS0 : ¬ V 0 = 0) : gMet l Γ yX7_change wsX7_change 3 66 [.ref (gad Γ 483), .int t] (mS M A T D N V I K B) R O none (mS M A T D N (fX7_change_V A T D N V I K B ρ) I K B) R O := by
  subst ht
  refine g_start (cc := cX7_change) (maxL := 4) (ret := none) (by decide) rfl (Nat.le_of_ble_eq_true rfl) ?_
  intro p e s m below meth c ls hx hb hml hrt hts hown hlocks hname hK hZ hG hS hl
  have hl : lv_has ls 4 [(0, .ref (gad Γ 483)), (1, .int (nI ρ))] := hl
  have hown : s.vm.findClass RX7 = some m.cls := hown
  have hF : CallFix p m c cX7_change 4 s _ wsX7_change RX7 := ⟨hx, hb, hml, hown, hts⟩
  have k_1 : (Cond.fieldLink RX7 19 "RoadDustModel" "trial" "[I").before _ s = true := hts _ (by decide +kernel)
  have in_X7 : ∀ w ∈ wsX70, w ∈ wsX7_change := by decide +kernel
  have v2 := hV.2.2.1.2
  have v0 := hV.1.2
  have s0 := ne0_pl hV.1.1 hS0
  have q_0 := Nat.mod_lt (ρ / 2048) s0
  refine lv_aload_n hx hb dX7_change_0 rfl (lv_at hl 0 rfl) ?_
  refine gM_getr hx hb hts in_X7 hown hK hL hG 6 (by decide) rfl hL.2.2.2.2.1 k_1 (fun _ h => h) dX7_change_1 ?_
  refine lv_iconst (v := 5) hx hb dX7_change_4 (by decide) ?_
  refine lv_iload_n hx hb dX7_change_5 rfl (lv_at hl 1 rfl) ?_
  refine lv_bipush (v := 21) hx hb dX7_change_6 (by decide) ?_
  refine lv_irem hx hb dX7_change_8 (by decide) ?_
  refine gm_ast (M2 := mS M A T D N (upd V 5 (remI (nI ρ) 21)) I K B) hx hb hK hG hS (hL.1 487 (by decide) (by decide)) (show gC 487 = (9, 28, 0) from rfl) (show gLen 487 = 131 from rfl) (by decide) (j := 5) rfl (by omega) (mS_p28 _ _ _ _ _ _ _ _ _ _ _) dX7_change_9 (fun H locs hG hS => ?_)
  refine lv_aload_n hx hb dX7_change_10 rfl (lv_at hl 0 rfl) ?_
  refine gM_getr hx hb hts in_X7 hown hK hL hG 6 (by decide) rfl hL.2.2.2.2.1 k_1 (fun _ h => h) dX7_change_11 ?_
  refine lv_bipush (v := 6) hx hb dX7_change_14 (by decide) ?_
  refine lv_iload_n hx hb dX7_change_16 rfl (lv_at hl 1 rfl) ?_
  refine lv_bipush (v := 32) hx hb dX7_change_17 (by decide) ?_
  refine lv_idiv hx hb dX7_change_19 (by decide) ?_
  refine lv_bipush (v := 10) hx hb dX7_change_20 (by decide) ?_
  refine lv_irem hx hb dX7_change_22 (by decide) ?_
  refine gm_ast (M2 := mS M A T D N (upd (upd V 5 (remI (nI ρ) 21)) 6 (remI ((nI ρ) / 32) 10)) I K B) hx hb hK hG hS (hL.1 487 (by decide) (by decide)) (show gC 487 = (9, 28, 0) from rfl) (show gLen 487 = 131 from rfl) (by decide) (j := 6) rfl (by omega) (mS_p28 _ _ _ _ _ _ _ _ _ _ _) dX7_change_23 (fun H locs hG hS => ?_)
  refine lv_aload_n hx hb dX7_change_24 rfl (lv_at hl 0 rfl) ?_
  refine gM_getr hx hb hts in_X7 hown hK hL hG 6 (by decide) rfl hL.2.2.2.2.1 k_1 (fun _ h => h) dX7_change_25 ?_
  refine lv_iconst (v := 2) hx hb dX7_change_28 (by decide) ?_
  refine gm_ald hx hb hK hG (hL.1 487 (by decide) (by decide)) (show gC 487 = (9, 28, 0) from rfl) (show gLen 487 = 131 from rfl) (by decide) (j := 2) rfl (by omega) (v := (upd (upd V 5 (remI (nI ρ) 21)) 6 (remI ((nI ρ) / 32) 10)) 2) (mS_a28 _ _ _ _ _ _ _ _ _ _) dX7_change_29 ?_
  refine lv_if_ne (tgt := 34) hx hb dX7_change_30 (by decide) (fun c_1 => ?_) (fun c_1 => ?_)
  · --T
    refine lv_iload_n hx hb dX7_change_34 rfl (lv_at hl 1 rfl) ?_
    refine lv_sipush (v := 512) hx hb dX7_change_35 (by decide) ?_
    refine lv_idiv hx hb dX7_change_38 (by decide) ?_
    refine lv_aload_n hx hb dX7_change_39 rfl (lv_at hl 0 rfl) ?_
    refine gM_getr hx hb hts in_X7 hown hK hL hG 6 (by decide) rfl hL.2.2.2.2.1 k_1 (fun _ h => h) dX7_change_40 ?_
    refine lv_iconst (v := 2) hx hb dX7_change_43 (by decide) ?_
    refine gm_ald hx hb hK hG (hL.1 487 (by decide) (by decide)) (show gC 487 = (9, 28, 0) from rfl) (show gLen 487 = 131 from rfl) (by decide) (j := 2) rfl (by omega) (v := (upd (upd V 5 (remI (nI ρ) 21)) 6 (remI ((nI ρ) / 32) 10)) 2) (mS_a28 _ _ _ _ _ _ _ _ _ _) dX7_change_44 ?_
    refine lv_irem hx hb dX7_change_45 c_1 ?_
    refine lv_istore_n (lv' := [(2, .int (remI ((nI ρ) / 512) ((upd (upd V 5 (remI (nI ρ) 21)) 6 (remI ((nI ρ) / 32) 10)) 2))), (0, .ref (gad Γ 483)), (1, .int (nI ρ))]) hx hb dX7_change_46 rfl hl (by decide) rfl (fun ls hl => ?_)
    refine lv_iconst (v := 5) hx hb dX7_change_47 (by decide) ?_
    refine lv_aload_n hx hb dX7_change_48 rfl (lv_at hl 1 rfl) ?_
    refine gM_getr hx hb hts in_X7 hown hK hL hG 6 (by decide) rfl hL.2.2.2.2.1 k_1 (fun _ h => h) dX7_change_49 ?_
    have q_1 := Nat.mod_lt (ρ / 512) (ne0_pl hV.2.2.1.1 c_1)
    refine lv_iload_n hx hb dX7_change_52 rfl (lv_at hl 0 rfl) ?_
    refine g_callS (As := [.int (remI ((nI ρ) / 512) ((upd (upd V 5 (remI (nI ρ) 21)) 6 (remI ((nI ρ) / 32) 10)) 2))]) (rest := [.ref (gad Γ 487), .int 5]) (st1 := [.int (nI (122 + 3 * (ρ / 512 % (V 2).toNatClampNeg))), .ref (gad Γ 487), .int 5]) hF (mX7_wagonAt _ R O (ρ / 512 % (V 2).toNatClampNeg) (rem_pl (d := 512) hρ (by decide) (by decide) hV.2.2.1.1 (ne0_pl hV.2.2.1.1 c_1) (by omega))) (va_cwS 1 hts gX7_change_X7_wagonAt rfl rfl rfl (by decide +kernel) ⟨Nat.le_of_ble_eq_true rfl, Nat.le_of_ble_eq_true rfl⟩) hK hZ hG hS rfl hl.1 (Nat.le_of_ble_eq_true rfl) dX7_change_53 ⟨Nat.zero_le _, Nat.zero_le _⟩ rfl rfl (fun H locs hG hS => ?_)
    refine lv_iconst (v := 1) hx hb dX7_change_56 (by decide) ?_
    refine lv_iadd hx hb dX7_change_57 ?_
    refine g_top (show _ = nI ((122 + 3 * (ρ / 512 % (V 2).toNatClampNeg)) + 1) from nI_add _ _) ?_
    refine gm_ald hx hb hK hG (hL.1 487 (by decide) (by decide)) (show gC 487 = (9, 28, 0) from rfl) (show gLen 487 = 131 from rfl) (by decide) (j := (122 + 3 * (ρ / 512 % (V 2).toNatClampNeg)) + 1) rfl (by omega) (v := (upd (upd V 5 (remI (nI ρ) 21)) 6 (remI ((nI ρ) / 32) 10)) ((122 + 3 * (ρ / 512 % (V 2).toNatClampNeg)) + 1)) (mS_a28 _ _ _ _ _ _ _ _ _ _) dX7_change_58 ?_
    refine g_callS (As := [.int 5, .int ((upd (upd V 5 (remI (nI ρ) 21)) 6 (remI ((nI ρ) / 32) 10)) ((122 + 3 * (ρ / 512 % (V 2).toNatClampNeg)) + 1))]) (rest := []) (st1 := [.int (fX7_less_v 5 ((upd (upd V 5 (remI (nI ρ) 21)) 6 (remI ((nI ρ) / 32) 10)) ((122 + 3 * (ρ / 512 % (V 2).toNatClampNeg)) + 1)))]) hF (mX7_less _ R O 5 ((upd (upd V 5 (remI (nI ρ) 21)) 6 (remI ((nI ρ) / 32) 10)) ((122 + 3 * (ρ / 512 % (V 2).toNatClampNeg)) + 1))) (va_cwS 2 hts gX7_change_X7_less rfl rfl rfl (by decide +kernel) ⟨Nat.le_of_ble_eq_true rfl, Nat.le_of_ble_eq_true rfl⟩) hK hZ hG hS rfl hl.1 (Nat.le_of_ble_eq_true rfl) dX7_change_59 ⟨Nat.zero_le _, Nat.zero_le _⟩ rfl rfl (fun H locs hG hS => ?_)
    refine lv_istore_n (lv' := [(3, .int (fX7_less_v 5 ((upd (upd V 5 (remI (nI ρ) 21)) 6 (remI ((nI ρ) / 32) 10)) ((122 + 3 * (ρ / 512 % (V 2).toNatClampNeg)) + 1)))), (2, .int (remI ((nI ρ) / 512) ((upd (upd V 5 (remI (nI ρ) 21)) 6 (remI ((nI ρ) / 32) 10)) 2))), (0, .ref (gad Γ 483)), (1, .int (nI ρ))]) hx hb dX7_change_62 rfl hl (by decide) rfl (fun ls hl => ?_)
    refine lv_iload_n hx hb dX7_change_63 rfl (lv_at hl 0 rfl) ?_
    refine lv_if_le (tgt := 98) hx hb dX7_change_64 (by decide) (fun c_2 => ?_) (fun c_2 => ?_)
    · --T
      exact g_vret hx hb hrt hlocks hS hG (mS_c rfl rfl rfl rfl (by unfold fX7_change_V; rw [if_neg c_1, if_pos c_2]) rfl rfl rfl) rfl dX7_change_98
    · --F
      refine lv_aload_n hx hb dX7_change_67 rfl (lv_at hl 2 rfl) ?_
      refine gM_getr hx hb hts in_X7 hown hK hL hG 6 (by decide) rfl hL.2.2.2.2.1 k_1 (fun _ h => h) dX7_change_68 ?_
      refine lv_iload_n hx hb dX7_change_71 rfl (lv_at hl 1 rfl) ?_
      refine lv_iload_n hx hb dX7_change_72 rfl (lv_at hl 3 rfl) ?_
      refine lv_sipush (v := 2048) hx hb dX7_change_73 (by decide) ?_
      refine lv_idiv hx hb dX7_change_76 (by decide) ?_
      refine lv_aload_n hx hb dX7_change_77 rfl (lv_at hl 2 rfl) ?_
      refine gM_getr hx hb hts in_X7 hown hK hL hG 6 (by decide) rfl hL.2.2.2.2.1 k_1 (fun _ h => h) dX7_change_78 ?_
      refine lv_iconst (v := 0) hx hb dX7_change_81 (by decide) ?_
      refine gm_ald hx hb hK hG (hL.1 487 (by decide) (by decide)) (show gC 487 = (9, 28, 0) from rfl) (show gLen 487 = 131 from rfl) (by decide) (j := 0) rfl (by omega) (v := (upd (upd V 5 (remI (nI ρ) 21)) 6 (remI ((nI ρ) / 32) 10)) 0) (mS_a28 _ _ _ _ _ _ _ _ _ _) dX7_change_82 ?_
      refine lv_irem hx hb dX7_change_83 hS0 ?_
      refine g_callS (As := [.ref (gad Γ 487), .int (remI ((nI ρ) / 512) ((upd (upd V 5 (remI (nI ρ) 21)) 6 (remI ((nI ρ) / 32) 10)) 2)), .int (remI ((nI ρ) / 2048) ((upd (upd V 5 (remI (nI ρ) 21)) 6 (remI ((nI ρ) / 32) 10)) 0))]) (rest := []) (st1 := [.int (fX7_driveOn_v (upd (upd V 5 (remI (nI ρ) 21)) 6 (remI ((nI ρ) / 32) 10)) (ρ / 512 % (V 2).toNatClampNeg) (remI ((nI ρ) / 2048) ((upd (upd V 5 (remI (nI ρ) 21)) 6 (remI ((nI ρ) / 32) 10)) 0)))]) hF (mX7_driveOn (mS M A T D N (upd (upd V 5 (remI (nI ρ) 21)) 6 (remI ((nI ρ) / 32) 10)) I K B) R O (hL.1 487 (by decide) (by decide)) (show gC 487 = (9, 28, 0) from rfl) (show gLen 487 = 131 from rfl) (upd (upd V 5 (remI (nI ρ) 21)) 6 (remI ((nI ρ) / 32) 10)) (ρ / 512 % (V 2).toNatClampNeg) (rem_pl (d := 512) hρ (by decide) (by decide) hV.2.2.1.1 (ne0_pl hV.2.2.1.1 c_1) (by omega)) (by omega) (remI ((nI ρ) / 2048) ((upd (upd V 5 (remI (nI ρ) 21)) 6 (remI ((nI ρ) / 32) 10)) 0)) (WS.up (by unfold kw; omega) (WS.up (by unfold kw; omega) hV))) (va_cwS 3 hts gX7_change_X7_driveOn rfl rfl rfl (by decide +kernel) ⟨Nat.le_of_ble_eq_true rfl, Nat.le_of_ble_eq_true rfl⟩) hK hZ (g_st (show _ = va_up (mS M A T D N (upd (upd V 5 (remI (nI ρ) 21)) 6 (remI ((nI ρ) / 32) 10)) I K B) 28 (upd (upd V 5 (remI (nI ρ) 21)) 6 (remI ((nI ρ) / 32) 10)) from (mS_u28 _ _ _ _ _ _ _ _ _ _).symm) hG) hS rfl hl.1 (Nat.le_of_ble_eq_true rfl) dX7_change_84 ⟨Nat.zero_le _, Nat.zero_le _⟩ rfl rfl (fun H locs hG hS => ?_)
      replace hG : GH Γ (mS M A T D N (fX7_driveOn_P (upd (upd V 5 (remI (nI ρ) 21)) 6 (remI ((nI ρ) / 32) 10)) (ρ / 512 % (V 2).toNatClampNeg) (remI ((nI ρ) / 2048) ((upd (upd V 5 (remI (nI ρ) 21)) 6 (remI ((nI ρ) / 32) 10)) 0))) I K B) R O H := g_st (mS_u28 _ _ _ _ _ _ _ _ _ _) hG
      refine lv_pop hx hb dX7_change_87 rfl ?_
      refine lv_aload_n hx hb dX7_change_88 rfl (lv_at hl 2 rfl) ?_
      refine gM_getr hx hb hts in_X7 hown hK hL hG 6 (by decide) rfl hL.2.2.2.2.1 k_1 (fun _ h => h) dX7_change_89 ?_
      refine lv_iload_n hx hb dX7_change_92 rfl (lv_at hl 1 rfl) ?_
      refine lv_iload_n hx hb dX7_change_93 rfl (lv_at hl 0 rfl) ?_
      refine g_callS (As := [.ref (gad Γ 487), .int (remI ((nI ρ) / 512) ((upd (upd V 5 (remI (nI ρ) 21)) 6 (remI ((nI ρ) / 32) 10)) 2)), .int (fX7_less_v 5 ((upd (upd V 5 (remI (nI ρ) 21)) 6 (remI ((nI ρ) / 32) 10)) ((122 + 3 * (ρ / 512 % (V 2).toNatClampNeg)) + 1)))]) (rest := []) (st1 := [.int (fX7_sprayOn_v (fX7_driveOn_P (upd (upd V 5 (remI (nI ρ) 21)) 6 (remI ((nI ρ) / 32) 10)) (ρ / 512 % (V 2).toNatClampNeg) (remI ((nI ρ) / 2048) ((upd (upd V 5 (remI (nI ρ) 21)) 6 (remI ((nI ρ) / 32) 10)) 0))) (ρ / 512 % (V 2).toNatClampNeg) (fX7_less_v 5 ((upd (upd V 5 (remI (nI ρ) 21)) 6 (remI ((nI ρ) / 32) 10)) ((122 + 3 * (ρ / 512 % (V 2).toNatClampNeg)) + 1))))]) hF (mX7_sprayOn (mS M A T D N (fX7_driveOn_P (upd (upd V 5 (remI (nI ρ) 21)) 6 (remI ((nI ρ) / 32) 10)) (ρ / 512 % (V 2).toNatClampNeg) (remI ((nI ρ) / 2048) ((upd (upd V 5 (remI (nI ρ) 21)) 6 (remI ((nI ρ) / 32) 10)) 0))) I K B) R O (hL.1 487 (by decide) (by decide)) (show gC 487 = (9, 28, 0) from rfl) (show gLen 487 = 131 from rfl) (fX7_driveOn_P (upd (upd V 5 (remI (nI ρ) 21)) 6 (remI ((nI ρ) / 32) 10)) (ρ / 512 % (V 2).toNatClampNeg) (remI ((nI ρ) / 2048) ((upd (upd V 5 (remI (nI ρ) 21)) 6 (remI ((nI ρ) / 32) 10)) 0))) (ρ / 512 % (V 2).toNatClampNeg) (rem_pl (d := 512) hρ (by decide) (by decide) hV.2.2.1.1 (ne0_pl hV.2.2.1.1 c_1) (by omega)) (by omega) (fX7_less_v 5 ((upd (upd V 5 (remI (nI ρ) 21)) 6 (remI ((nI ρ) / 32) 10)) ((122 + 3 * (ρ / 512 % (V 2).toNatClampNeg)) + 1))) (WS_drive (WS.up (by unfold kw; omega) (WS.up (by unfold kw; omega) hV)) (by omega) (drv_pl _ _ hρ hV hS0).1 (drv_pl _ _ hρ hV hS0).2)) (va_cwS 3 hts gX7_change_X7_sprayOn rfl rfl rfl (by decide +kernel) ⟨Nat.le_of_ble_eq_true rfl, Nat.le_of_ble_eq_true rfl⟩) hK hZ (g_st (show _ = va_up (mS M A T D N (fX7_driveOn_P (upd (upd V 5 (remI (nI ρ) 21)) 6 (remI ((nI ρ) / 32) 10)) (ρ / 512 % (V 2).toNatClampNeg) (remI ((nI ρ) / 2048) ((upd (upd V 5 (remI (nI ρ) 21)) 6 (remI ((nI ρ) / 32) 10)) 0))) I K B) 28 (fX7_driveOn_P (upd (upd V 5 (remI (nI ρ) 21)) 6 (remI ((nI ρ) / 32) 10)) (ρ / 512 % (V 2).toNatClampNeg) (remI ((nI ρ) / 2048) ((upd (upd V 5 (remI (nI ρ) 21)) 6 (remI ((nI ρ) / 32) 10)) 0))) from (mS_u28 _ _ _ _ _ _ _ _ _ _).symm) hG) hS rfl hl.1 (Nat.le_of_ble_eq_true rfl) dX7_change_94 ⟨Nat.zero_le _, Nat.zero_le _⟩ rfl rfl (fun H locs hG hS => ?_)
      replace hG : GH Γ (mS M A T D N (fX7_sprayOn_P (fX7_driveOn_P (upd (upd V 5 (remI (nI ρ) 21)) 6 (remI ((nI ρ) / 32) 10)) (ρ / 512 % (V 2).toNatClampNeg) (remI ((nI ρ) / 2048) ((upd (upd V 5 (remI (nI ρ) 21)) 6 (remI ((nI ρ) / 32) 10)) 0))) (ρ / 512 % (V 2).toNatClampNeg) (fX7_less_v 5 ((upd (upd V 5 (remI (nI ρ) 21)) 6 (remI ((nI ρ) / 32) 10)) ((122 + 3 * (ρ / 512 % (V 2).toNatClampNeg)) + 1)))) I K B) R O H := g_st (mS_u28 _ _ _ _ _ _ _ _ _ _) hG
      refine lv_pop hx hb dX7_change_97 rfl ?_
      exact g_vret hx hb hrt hlocks hS hG (mS_c rfl rfl rfl rfl (by unfold fX7_change_V; rw [if_neg c_1, if_neg c_2]) rfl rfl rfl) rfl dX7_change_98
  · --F
    exact g_vret hx hb hrt hlocks hS hG (mS_c rfl rfl rfl rfl (by unfold fX7_change_V; rw [if_pos c_1]) rfl rfl rfl) rfl dX7_change_33

def fX7_chg (V : Nat → Int32) (ρ : Nat) : Nat → Int32 := fX7_change_V V V V V V V V V ρ
theorem WS_chg {V : Nat → Int32} {ρ : Nat} (hρ : ρ < 2 ^ 31) (hV : WS V) (hS0 : ¬ V 0 = 0) : WS (fX7_chg V ρ) ∧ fX7_chg V ρ 0 = V 0 := by
  have v2 := hV.2.2.1.2
  have v0 := hV.1.2
  have s0 := ne0_pl hV.1.1 hS0
  have q_0 := Nat.mod_lt (ρ / 2048) s0
  unfold fX7_chg fX7_change_V
  split
  · exact ⟨WS.up (by unfold kw; omega) (WS.up (by unfold kw; omega) hV), by rw [upd_nw _ _ (by decide), upd_nw _ _ (by decide)]⟩
  · rename_i c_1
    have q_1 := Nat.mod_lt (ρ / 512) (ne0_pl hV.2.2.1.1 c_1)
    split
    · exact ⟨WS.up (by unfold kw; omega) (WS.up (by unfold kw; omega) hV), by rw [upd_nw _ _ (by decide), upd_nw _ _ (by decide)]⟩
    · refine ⟨WS_spray (by omega) (WS_drive (WS.up (by unfold kw; omega) (WS.up (by unfold kw; omega) hV)) (by omega) (drv_pl _ _ hρ hV hS0).1 (drv_pl _ _ hρ hV hS0).2), ?_⟩
      unfold fX7_sprayOn_P fX7_wet_P fX7_driveOn_P
      (repeat' split) <;> (repeat rw [upd_nw _ _ (by omega)])
def lcg (x : Int64) : Nat → Int64
  | 0 => x
  | k + 1 => (lcg x k) * 6364136223846793005 + 1442695040888963407
theorem fX7_hourOn_0 {P : Nat → Int32} (hW : WS P) : fX7_hourOn_P P 0 = P 0 := by
  have wD : WS (fX7_raise_P (fX7_dry_P P)) := WS_raise (WS_dry hW)
  have wD8 := wD.2.1.2
  have hH : ∀ k, k ≤ 8 → fX7_hourH_L (fX7_raise_P (fX7_dry_P P)) k 0 = (fX7_raise_P (fX7_dry_P P)) 0 := by
    intro k
    induction k with
    | zero => intro _; rfl
    | succ k ih =>
      intro hk
      have wk := (fX7_hourH_L8 wD k (by omega)).1
      refine Eq.trans ?_ (ih (by omega))
      show fX7_hourH_S (fX7_hourH_L (fX7_raise_P (fX7_dry_P P)) k) k 0 = _
      unfold fX7_hourH_S fX7_complain_P
      (repeat' split) <;> (repeat rw [upd_nw _ _ (by omega)])
  have e0 := hH _ wD8
  have wH := (fX7_hourH_L8 wD _ wD8).1
  have w3 := wH.1.2
  have e1 := fX7_hourS_L8 (fX7_hourH_L (fX7_raise_P (fX7_dry_P P)) (fX7_raise_P (fX7_dry_P P) 1).toNatClampNeg) _ w3 0 (Or.inl (by unfold kw; omega))
  have wS := wH.of (fun j h => fX7_hourS_L8 _ _ w3 j (Or.inl h))
  have eD : fX7_raise_P (fX7_dry_P P) 0 = P 0 := (fX7_raise_Lh _ _ (WS_dry hW).1.2 0 (by unfold kw; omega)).trans (fX7_dry_Lh _ _ hW.1.2 0 (by unfold kw; omega))
  rw [← eD, ← e0, ← e1]
  unfold fX7_hourOn_P
  generalize fX7_hourS_L (fX7_hourH_L (fX7_raise_P (fX7_dry_P P)) (fX7_raise_P (fX7_dry_P P) 1).toNatClampNeg) (fX7_hourH_L (fX7_raise_P (fX7_dry_P P)) (fX7_raise_P (fX7_dry_P P) 1).toNatClampNeg 0).toNatClampNeg = X at wS ⊢
  have wS : WS X := wS
  split
  · have wC := WS.up (j := 9) (v := 0) (by unfold kw; omega) (WS.up (j := 3) (v := (upd (upd X 4 (X 4 + 1)) 4 0 3 + 1)) (by unfold kw; omega) (WS.up (j := 4) (v := 0) (by unfold kw; omega) (WS.up (j := 4) (v := X 4 + 1) (by unfold kw; omega) wS)))
    rw [fX7_hourW_L8 _ _ wC.2.2.1.2 0 (Or.inl (by unfold kw; omega))]
    repeat rw [upd_nw _ _ (by decide)]
  · have wC := WS.up (j := 4) (v := X 4 + 1) (by unfold kw; omega) wS
    rw [fX7_hourW_L8 _ _ wC.2.2.1.2 0 (Or.inl (by unfold kw; omega))]
    rw [upd_nw _ _ (by decide)]
def fX7_sim_S (a : Int64) (Pk : Nat → Int32) (k : Nat) : Nat → Int32 := fX7_hourOn_P (fX7_chg Pk (rho (lcg a (k + 1))))
def fX7_sim_L (a : Int64) (P : Nat → Int32) : Nat → Nat → Int32
  | 0 => P
  | k + 1 => fX7_sim_S a (fX7_sim_L a P k) k
theorem fX7_sim_WS {P : Nat → Int32} (x : Int64) (hW : WS P) (h0 : ¬ P 0 = 0) : ∀ k, WS (fX7_sim_L x P k) ∧ fX7_sim_L x P k 0 = P 0
  | 0 => ⟨hW, rfl⟩
  | k + 1 => by
    obtain ⟨h1, h2⟩ := fX7_sim_WS x hW h0 k
    obtain ⟨h3, h4⟩ := WS_chg (rho_lt (lcg x (k + 1))) h1 (by rw [h2]; exact h0)
    show WS (fX7_sim_S x (fX7_sim_L x P k) k) ∧ fX7_sim_S x (fX7_sim_L x P k) k 0 = P 0
    unfold fX7_sim_S
    exact ⟨fX7_hourOn_kw h3, (fX7_hourOn_0 h3).trans (h4.trans h2)⟩
def fX7_simulate_v (A T D N V I K B : Nat → Int32) (a : Int64) (d : Int32) : Int32 := if (fX7_in_v d.toInt64 1 99) = 0 then 0 else if (N 1) = 0 then (10000 * (((fX7_sim_L a (fX7_copyPage_P N V 0 0) d.toNatClampNeg) 10) - (N 10))) + (fX7_less_v 0 9999) else (10000 * (((fX7_sim_L a (fX7_copyPage_P N V 0 0) d.toNatClampNeg) 10) - (N 10))) + (fX7_less_v (((fX7_sim_L a (fX7_copyPage_P N V 0 0) d.toNatClampNeg) 84) - (N 84)) 9999)
def fX7_simulate_A (A T D N V I K B : Nat → Int32) (a : Int64) (d : Int32) : Nat → Int32 := if (fX7_in_v d.toInt64 1 99) = 0 then upd A 0 1 else if (N 1) = 0 then upd A 0 0 else upd A 0 0
def fX7_simulate_V (A T D N V I K B : Nat → Int32) (a : Int64) (d : Int32) : Nat → Int32 := if (fX7_in_v d.toInt64 1 99) = 0 then V else if (N 1) = 0 then fX7_sim_L a (fX7_copyPage_P N V 0 0) d.toNatClampNeg else fX7_sim_L a (fX7_copyPage_P N V 0 0) d.toNatClampNeg
set_option maxHeartbeats 4000000 in
set_option maxRecDepth 100000 in
theorem mX7_simulate {l : Launch} {Γ : gX} (M : Nat → Nat → Int32) (R : Nat → Nat → Option Nat) (O : Int64) (hL : LM Γ R) (A T D N V I K B : Nat → Int32) (a : Int64) (d : Int32) (hN : WS N) (hN0 : ¬ N 0 = 0) : gMet l Γ yX7_simulate wsX7_simulate 5 111 [.ref (gad Γ 483), .long a, .int d] (mS M A T D N V I K B) R O (some (.int (fX7_simulate_v A T D N V I K B a d))) (mS M (fX7_simulate_A A T D N V I K B a d) T D N (fX7_simulate_V A T D N V I K B a d) I K B) R O := by
  refine g_start (cc := cX7_simulate) (maxL := 7) (ret := (some .int)) (by decide) rfl (Nat.le_of_ble_eq_true rfl) ?_
  intro p e s m below meth c ls hx hb hml hrt hts hown hlocks hname hK hZ hG hS hl
  have hl : lv_has ls 7 [(0, .ref (gad Γ 483)), (1, .long a), (3, .int d)] := hl
  have hown : s.vm.findClass RX7 = some m.cls := hown
  have hF : CallFix p m c cX7_simulate 7 s _ wsX7_simulate RX7 := ⟨hx, hb, hml, hown, hts⟩
  have k_1 : (Cond.constantLong RX7 169 (99)).before _ s = true := hts _ (by decide +kernel)
  have k_2 : (Cond.fieldLink RX7 16 "RoadDustModel" "now" "[I").before _ s = true := hts _ (by decide +kernel)
  have in_X7 : ∀ w ∈ wsX70, w ∈ wsX7_simulate := by decide +kernel
  have k_4 : (Cond.fieldLink RX7 19 "RoadDustModel" "trial" "[I").before _ s = true := hts _ (by decide +kernel)
  have k_5 : (Cond.constantLong RX7 211 (6364136223846793005)).before _ s = true := hts _ (by decide +kernel)
  have k_6 : (Cond.constantLong RX7 213 (1442695040888963407)).before _ s = true := hts _ (by decide +kernel)
  have n0 := hN.1.2
  have n1 := hN.2.1.2
  have n2 := hN.2.2.1.2
  refine lv_aload_n hx hb dX7_simulate_0 rfl (lv_at hl 0 rfl) ?_
  refine lv_iload_n hx hb dX7_simulate_1 rfl (lv_at hl 2 rfl) ?_
  refine lv_i2l hx hb dX7_simulate_2 rfl ?_
  refine lv_lconst (v := 1) hx hb dX7_simulate_3 (by decide) ?_
  refine lv_ldc2 hx hb hown k_1 dX7_simulate_4 ?_
  refine g_callS (As := [.long d.toInt64, .long 1, .long 99]) (rest := [.ref (gad Γ 483)]) (st1 := [.int (fX7_in_v d.toInt64 1 99), .ref (gad Γ 483)]) hF (mX7_in _ R O d.toInt64 1 99) (va_cwS 3 hts gX7_simulate_X7_in rfl rfl rfl (by decide +kernel) ⟨Nat.le_of_ble_eq_true rfl, Nat.le_of_ble_eq_true rfl⟩) hK hZ hG hS rfl hl.1 (Nat.le_of_ble_eq_true rfl) dX7_simulate_7 ⟨Nat.zero_le _, Nat.zero_le _⟩ rfl rfl (fun H locs hG hS => ?_)
  refine lv_if_eq (tgt := 17) hx hb dX7_simulate_10 (by decide) (fun c_1 => ?_) (fun c_1 => ?_)
  · --T
    refine lv_iconst (v := 1) hx hb dX7_simulate_17 (by decide) ?_
    refine g_callV (As := [.int 1]) (rest := []) (st1 := [.int 1]) hF (mX7_refused_l M R O hL A T D N V I K B 1 1 (by decide)) (cwV 1 hts gX7_simulate_X7_refused rfl rfl rfl (by decide +kernel) ⟨Nat.le_of_ble_eq_true rfl, Nat.le_of_ble_eq_true rfl⟩) hK hZ hG hS (hL.1 483 (by decide) (by decide)) (show gC 483 = (7, 24, 0) from rfl) (by decide) rfl rfl hl.1 (Nat.le_of_ble_eq_true rfl) dX7_simulate_18 ⟨Nat.zero_le _, Nat.zero_le _⟩ rfl rfl (fun H locs hG hS => ?_)
    refine lv_if_eq (tgt := 26) hx hb dX7_simulate_21 (by decide) (fun c_2 => absurd c_2 (by decide)) (fun c_2 => ?_)
    refine lv_iconst (v := 0) hx hb dX7_simulate_24 (by decide) ?_
    exact g_iret hx hb hrt hlocks hS hG (by unfold fX7_simulate_v; rw [if_pos c_1]) (mS_c (by unfold fX7_simulate_A; rw [if_pos c_1]) rfl rfl rfl (by unfold fX7_simulate_V; rw [if_pos c_1]) rfl rfl rfl) dX7_simulate_25
  · --F
    refine lv_iconst (v := 0) hx hb dX7_simulate_13 (by decide) ?_
    refine lv_goto (tgt := 18) hx hb dX7_simulate_14 (by decide) ?_
    refine g_callV (As := [.int 0]) (rest := []) (st1 := [.int 0]) hF (mX7_refused_l M R O hL A T D N V I K B 0 0 (by decide)) (cwV 1 hts gX7_simulate_X7_refused rfl rfl rfl (by decide +kernel) ⟨Nat.le_of_ble_eq_true rfl, Nat.le_of_ble_eq_true rfl⟩) hK hZ hG hS (hL.1 483 (by decide) (by decide)) (show gC 483 = (7, 24, 0) from rfl) (by decide) rfl rfl hl.1 (Nat.le_of_ble_eq_true rfl) dX7_simulate_18 ⟨Nat.zero_le _, Nat.zero_le _⟩ rfl rfl (fun H locs hG hS => ?_)
    refine lv_if_eq (tgt := 26) hx hb dX7_simulate_21 (by decide) (fun c_3 => ?_) (fun c_3 => absurd (by decide) c_3)
    refine lv_aload_n hx hb dX7_simulate_26 rfl (lv_at hl 0 rfl) ?_
    refine gM_getr hx hb hts in_X7 hown hK hL hG 5 (by decide) rfl hL.2.2.2.1 k_2 (fun _ h => h) dX7_simulate_27 ?_
    refine lv_iconst (v := 0) hx hb dX7_simulate_30 (by decide) ?_
    refine lv_aload_n hx hb dX7_simulate_31 rfl (lv_at hl 0 rfl) ?_
    refine gM_getr hx hb hts in_X7 hown hK hL hG 6 (by decide) rfl hL.2.2.2.2.1 k_4 (fun _ h => h) dX7_simulate_32 ?_
    refine lv_iconst (v := 0) hx hb dX7_simulate_35 (by decide) ?_
    refine g_callS (As := [.ref (gad Γ 486), .int 0, .ref (gad Γ 487), .int 0]) (rest := []) (st1 := []) hF (mX7_copyPage_q (mS M (upd A 0 0) T D N V I K B) R O (hL.1 486 (by decide) (by decide)) (show gC 486 = (9, 27, 0) from rfl) (show gLen 486 = 131 from rfl) (hL.1 487 (by decide) (by decide)) (show gC 487 = (9, 28, 0) from rfl) (show gLen 487 = 131 from rfl) (by decide) 0 0 rfl rfl (by omega) (by omega) (by decide) (by decide) V _ (mS_b27 _ _ _ _ _ _ _ _ _)) (va_cwS 4 hts gX7_simulate_X7_copyPage rfl rfl rfl (by decide +kernel) ⟨Nat.le_of_ble_eq_true rfl, Nat.le_of_ble_eq_true rfl⟩) hK hZ (g_st (show _ = va_up (mS M (upd A 0 0) T D N V I K B) 28 V from (mS_u28 _ _ _ _ _ _ _ _ _ _).symm) hG) hS rfl hl.1 (Nat.le_of_ble_eq_true rfl) dX7_simulate_36 ⟨Nat.zero_le _, Nat.zero_le _⟩ rfl rfl (fun H locs hG hS => ?_)
    replace hG : GH Γ (mS M (upd A 0 0) T D N (fX7_copyPage_P N V 0 0) I K B) R O H := g_st (mS_u28 _ _ _ _ _ _ _ _ _ _) hG
    refine lv_lload_n hx hb dX7_simulate_39 rfl (lv_at hl 1 rfl) ?_
    refine lv_lstore (lv' := [(4, .long a), (0, .ref (gad Γ 483)), (1, .long a), (3, .int d)]) hx hb dX7_simulate_40 hl (by decide) rfl (fun ls hl => ?_)
    refine lv_iconst (v := 0) hx hb dX7_simulate_42 (by decide) ?_
    refine lv_istore (lv' := [(6, .int 0), (4, .long a), (0, .ref (gad Γ 483)), (1, .long a), (3, .int d)]) hx hb dX7_simulate_43 hl (by decide) rfl (fun ls hl => ?_)
    refine g_loop (N := d.toNatClampNeg) (fun k H locs ls => GH Γ (mS M (upd A 0 0) T D N (fX7_sim_L a (fX7_copyPage_P N V 0 0) k) I K B) R O H ∧ va_S (gA Γ) s.heap H locs ∧ lv_has ls 7 [(0, .ref (gad Γ 483)), (1, .long a), (3, .int d), (4, .long (lcg a k)), (6, .int (nI k))]) ?_ ?_ 0 (Nat.zero_le _) _ _ _ ⟨hG, hS, lv_sub hl [2, 3, 4, 1, 0] rfl⟩
    · rintro H locs ls ⟨hG, hS, hl⟩
      refine lv_iload hx hb dX7_simulate_45 (lv_at hl 4 rfl) ?_
      refine lv_iload_n hx hb dX7_simulate_47 rfl (lv_at hl 2 rfl) ?_
      refine lv_icmp_ge (tgt := 86) hx hb dX7_simulate_48 (by decide) (fun c_4 => ?_) (fun c_4 => absurd (cl_le _) c_4)
      refine lv_aload_n hx hb dX7_simulate_86 rfl (lv_at hl 0 rfl) ?_
      refine gM_getr hx hb hts in_X7 hown hK hL hG 5 (by decide) rfl hL.2.2.2.1 k_2 (fun _ h => h) dX7_simulate_87 ?_
      refine lv_iconst (v := 1) hx hb dX7_simulate_90 (by decide) ?_
      refine gm_ald hx hb hK hG (hL.1 486 (by decide) (by decide)) (show gC 486 = (9, 27, 0) from rfl) (show gLen 486 = 131 from rfl) (by decide) (j := 1) rfl (by omega) (v := N 1) (mS_a27 _ _ _ _ _ _ _ _ _ _) dX7_simulate_91 ?_
      refine lv_if_ne (tgt := 99) hx hb dX7_simulate_92 (by decide) (fun c_5 => ?_) (fun c_5 => ?_)
      · --T
        refine lv_aload_n hx hb dX7_simulate_99 rfl (lv_at hl 0 rfl) ?_
        refine gM_getr hx hb hts in_X7 hown hK hL hG 6 (by decide) rfl hL.2.2.2.2.1 k_4 (fun _ h => h) dX7_simulate_100 ?_
        refine lv_bipush (v := 84) hx hb dX7_simulate_103 (by decide) ?_
        refine gm_ald hx hb hK hG (hL.1 487 (by decide) (by decide)) (show gC 487 = (9, 28, 0) from rfl) (show gLen 487 = 131 from rfl) (by decide) (j := 84) rfl (by omega) (v := (fX7_sim_L a (fX7_copyPage_P N V 0 0) d.toNatClampNeg) 84) (mS_a28 _ _ _ _ _ _ _ _ _ _) dX7_simulate_105 ?_
        refine lv_aload_n hx hb dX7_simulate_106 rfl (lv_at hl 0 rfl) ?_
        refine gM_getr hx hb hts in_X7 hown hK hL hG 5 (by decide) rfl hL.2.2.2.1 k_2 (fun _ h => h) dX7_simulate_107 ?_
        refine lv_bipush (v := 84) hx hb dX7_simulate_110 (by decide) ?_
        refine gm_ald hx hb hK hG (hL.1 486 (by decide) (by decide)) (show gC 486 = (9, 27, 0) from rfl) (show gLen 486 = 131 from rfl) (by decide) (j := 84) rfl (by omega) (v := N 84) (mS_a27 _ _ _ _ _ _ _ _ _ _) dX7_simulate_112 ?_
        refine lv_isub hx hb dX7_simulate_113 ?_
        refine lv_istore (lv' := [(6, .int (((fX7_sim_L a (fX7_copyPage_P N V 0 0) d.toNatClampNeg) 84) - (N 84))), (0, .ref (gad Γ 483)), (1, .long a), (3, .int d), (4, .long (lcg a d.toNatClampNeg))]) hx hb dX7_simulate_114 hl (by decide) rfl (fun ls hl => ?_)
        refine lv_sipush (v := 10000) hx hb dX7_simulate_116 (by decide) ?_
        refine lv_aload_n hx hb dX7_simulate_119 rfl (lv_at hl 1 rfl) ?_
        refine gM_getr hx hb hts in_X7 hown hK hL hG 6 (by decide) rfl hL.2.2.2.2.1 k_4 (fun _ h => h) dX7_simulate_120 ?_
        refine lv_bipush (v := 10) hx hb dX7_simulate_123 (by decide) ?_
        refine gm_ald hx hb hK hG (hL.1 487 (by decide) (by decide)) (show gC 487 = (9, 28, 0) from rfl) (show gLen 487 = 131 from rfl) (by decide) (j := 10) rfl (by omega) (v := (fX7_sim_L a (fX7_copyPage_P N V 0 0) d.toNatClampNeg) 10) (mS_a28 _ _ _ _ _ _ _ _ _ _) dX7_simulate_125 ?_
        refine lv_aload_n hx hb dX7_simulate_126 rfl (lv_at hl 1 rfl) ?_
        refine gM_getr hx hb hts in_X7 hown hK hL hG 5 (by decide) rfl hL.2.2.2.1 k_2 (fun _ h => h) dX7_simulate_127 ?_
        refine lv_bipush (v := 10) hx hb dX7_simulate_130 (by decide) ?_
        refine gm_ald hx hb hK hG (hL.1 486 (by decide) (by decide)) (show gC 486 = (9, 27, 0) from rfl) (show gLen 486 = 131 from rfl) (by decide) (j := 10) rfl (by omega) (v := N 10) (mS_a27 _ _ _ _ _ _ _ _ _ _) dX7_simulate_132 ?_
        refine lv_isub hx hb dX7_simulate_133 ?_
        refine lv_imul hx hb dX7_simulate_134 ?_
        refine lv_iload hx hb dX7_simulate_135 (lv_at hl 0 rfl) ?_
        refine lv_sipush (v := 9999) hx hb dX7_simulate_137 (by decide) ?_
        refine g_callS (As := [.int (((fX7_sim_L a (fX7_copyPage_P N V 0 0) d.toNatClampNeg) 84) - (N 84)), .int 9999]) (rest := [.int (10000 * (((fX7_sim_L a (fX7_copyPage_P N V 0 0) d.toNatClampNeg) 10) - (N 10)))]) (st1 := [.int (fX7_less_v (((fX7_sim_L a (fX7_copyPage_P N V 0 0) d.toNatClampNeg) 84) - (N 84)) 9999), .int (10000 * (((fX7_sim_L a (fX7_copyPage_P N V 0 0) d.toNatClampNeg) 10) - (N 10)))]) hF (mX7_less _ R O (((fX7_sim_L a (fX7_copyPage_P N V 0 0) d.toNatClampNeg) 84) - (N 84)) 9999) (va_cwS 2 hts gX7_simulate_X7_less rfl rfl rfl (by decide +kernel) ⟨Nat.le_of_ble_eq_true rfl, Nat.le_of_ble_eq_true rfl⟩) hK hZ hG hS rfl hl.1 (Nat.le_of_ble_eq_true rfl) dX7_simulate_140 ⟨Nat.zero_le _, Nat.zero_le _⟩ rfl rfl (fun H locs hG hS => ?_)
        refine lv_iadd hx hb dX7_simulate_143 ?_
        exact g_iret hx hb hrt hlocks hS hG (by unfold fX7_simulate_v; rw [if_neg c_1, if_neg c_5]) (mS_c (by unfold fX7_simulate_A; rw [if_neg c_1, if_neg c_5]) rfl rfl rfl (by unfold fX7_simulate_V; rw [if_neg c_1, if_neg c_5]) rfl rfl rfl) dX7_simulate_144
      · --F
        refine lv_iconst (v := 0) hx hb dX7_simulate_95 (by decide) ?_
        refine lv_goto (tgt := 114) hx hb dX7_simulate_96 (by decide) ?_
        refine lv_istore (lv' := [(6, .int 0), (0, .ref (gad Γ 483)), (1, .long a), (3, .int d), (4, .long (lcg a d.toNatClampNeg))]) hx hb dX7_simulate_114 hl (by decide) rfl (fun ls hl => ?_)
        refine lv_sipush (v := 10000) hx hb dX7_simulate_116 (by decide) ?_
        refine lv_aload_n hx hb dX7_simulate_119 rfl (lv_at hl 1 rfl) ?_
        refine gM_getr hx hb hts in_X7 hown hK hL hG 6 (by decide) rfl hL.2.2.2.2.1 k_4 (fun _ h => h) dX7_simulate_120 ?_
        refine lv_bipush (v := 10) hx hb dX7_simulate_123 (by decide) ?_
        refine gm_ald hx hb hK hG (hL.1 487 (by decide) (by decide)) (show gC 487 = (9, 28, 0) from rfl) (show gLen 487 = 131 from rfl) (by decide) (j := 10) rfl (by omega) (v := (fX7_sim_L a (fX7_copyPage_P N V 0 0) d.toNatClampNeg) 10) (mS_a28 _ _ _ _ _ _ _ _ _ _) dX7_simulate_125 ?_
        refine lv_aload_n hx hb dX7_simulate_126 rfl (lv_at hl 1 rfl) ?_
        refine gM_getr hx hb hts in_X7 hown hK hL hG 5 (by decide) rfl hL.2.2.2.1 k_2 (fun _ h => h) dX7_simulate_127 ?_
        refine lv_bipush (v := 10) hx hb dX7_simulate_130 (by decide) ?_
        refine gm_ald hx hb hK hG (hL.1 486 (by decide) (by decide)) (show gC 486 = (9, 27, 0) from rfl) (show gLen 486 = 131 from rfl) (by decide) (j := 10) rfl (by omega) (v := N 10) (mS_a27 _ _ _ _ _ _ _ _ _ _) dX7_simulate_132 ?_
        refine lv_isub hx hb dX7_simulate_133 ?_
        refine lv_imul hx hb dX7_simulate_134 ?_
        refine lv_iload hx hb dX7_simulate_135 (lv_at hl 0 rfl) ?_
        refine lv_sipush (v := 9999) hx hb dX7_simulate_137 (by decide) ?_
        refine g_callS (As := [.int 0, .int 9999]) (rest := [.int (10000 * (((fX7_sim_L a (fX7_copyPage_P N V 0 0) d.toNatClampNeg) 10) - (N 10)))]) (st1 := [.int (fX7_less_v 0 9999), .int (10000 * (((fX7_sim_L a (fX7_copyPage_P N V 0 0) d.toNatClampNeg) 10) - (N 10)))]) hF (mX7_less _ R O 0 9999) (va_cwS 2 hts gX7_simulate_X7_less rfl rfl rfl (by decide +kernel) ⟨Nat.le_of_ble_eq_true rfl, Nat.le_of_ble_eq_true rfl⟩) hK hZ hG hS rfl hl.1 (Nat.le_of_ble_eq_true rfl) dX7_simulate_140 ⟨Nat.zero_le _, Nat.zero_le _⟩ rfl rfl (fun H locs hG hS => ?_)
        refine lv_iadd hx hb dX7_simulate_143 ?_
        exact g_iret hx hb hrt hlocks hS hG (by unfold fX7_simulate_v; rw [if_neg c_1, if_pos c_5]) (mS_c (by unfold fX7_simulate_A; rw [if_neg c_1, if_pos c_5]) rfl rfl rfl (by unfold fX7_simulate_V; rw [if_neg c_1, if_pos c_5]) rfl rfl rfl) dX7_simulate_144
    · rintro k hk_k ih_k H locs ls ⟨hG, hS, hl⟩
      refine lv_iload hx hb dX7_simulate_45 (lv_at hl 4 rfl) ?_
      refine lv_iload_n hx hb dX7_simulate_47 rfl (lv_at hl 2 rfl) ?_
      refine lv_icmp_ge (tgt := 86) hx hb dX7_simulate_48 (by decide) (fun c_6 => absurd c_6 (cl_ge hk_k)) (fun c_6 => ?_)
      refine lv_lload hx hb dX7_simulate_51 (lv_at hl 3 rfl) ?_
      refine lv_ldc2 hx hb hown k_5 dX7_simulate_53 ?_
      refine lv_lmul hx hb dX7_simulate_56 ?_
      refine lv_ldc2 hx hb hown k_6 dX7_simulate_57 ?_
      refine lv_ladd hx hb dX7_simulate_60 ?_
      refine lv_lstore (lv' := [(4, .long (((lcg a k) * 6364136223846793005) + 1442695040888963407)), (0, .ref (gad Γ 483)), (1, .long a), (3, .int d), (6, .int (nI k))]) hx hb dX7_simulate_61 hl (by decide) rfl (fun ls hl => ?_)
      refine lv_aload_n hx hb dX7_simulate_63 rfl (lv_at hl 1 rfl) ?_
      refine lv_lload hx hb dX7_simulate_64 (lv_at hl 0 rfl) ?_
      refine lv_bipush (v := 33) hx hb dX7_simulate_66 (by decide) ?_
      refine lv_lushr hx hb dX7_simulate_68 rfl ?_
      refine lv_l2i hx hb dX7_simulate_69 rfl ?_
      refine g_callV (As := [.int ((((((lcg a k) * 6364136223846793005) + 1442695040888963407).toUInt64 >>> ((33 : Int32).toInt64.toUInt64 &&& Int64.toUInt64 63)).toInt64).toInt32)]) (rest := []) (st1 := []) hF (mX7_change M R O hL (upd A 0 0) T D N (fX7_sim_L a (fX7_copyPage_P N V 0 0) k) I K B (rho (lcg a (k + 1))) (rho_lt _) (rho_pl (lcg a (k + 1))) (fX7_sim_WS a (WS_cp hN) (by rw [cp_at, if_pos (by omega)]; exact hN0) k).1 (by rw [(fX7_sim_WS a (WS_cp hN) (by rw [cp_at, if_pos (by omega)]; exact hN0) k).2, cp_at, if_pos (by omega)]; exact hN0)) (cwV 1 hts gX7_simulate_X7_change rfl rfl rfl (by decide +kernel) ⟨Nat.le_of_ble_eq_true rfl, Nat.le_of_ble_eq_true rfl⟩) hK hZ hG hS (hL.1 483 (by decide) (by decide)) (show gC 483 = (7, 24, 0) from rfl) (by decide) rfl rfl hl.1 (Nat.le_of_ble_eq_true rfl) dX7_simulate_70 ⟨Nat.zero_le _, Nat.zero_le _⟩ rfl rfl (fun H locs hG hS => ?_)
      replace hG : GH Γ (mS M (upd A 0 0) T D N (fX7_chg (fX7_sim_L a (fX7_copyPage_P N V 0 0) k) (rho (lcg a (k + 1)))) I K B) R O H := hG
      refine lv_aload_n hx hb dX7_simulate_73 rfl (lv_at hl 1 rfl) ?_
      refine gM_getr hx hb hts in_X7 hown hK hL hG 6 (by decide) rfl hL.2.2.2.2.1 k_4 (fun _ h => h) dX7_simulate_74 ?_
      refine g_callS (As := [.ref (gad Γ 487)]) (rest := []) (st1 := []) hF (mX7_hourOn (mS M (upd A 0 0) T D N (fX7_chg (fX7_sim_L a (fX7_copyPage_P N V 0 0) k) (rho (lcg a (k + 1)))) I K B) R O (hL.1 487 (by decide) (by decide)) (show gC 487 = (9, 28, 0) from rfl) (show gLen 487 = 131 from rfl) (fX7_chg (fX7_sim_L a (fX7_copyPage_P N V 0 0) k) (rho (lcg a (k + 1)))) (WS_chg (rho_lt _) (fX7_sim_WS a (WS_cp hN) (by rw [cp_at, if_pos (by omega)]; exact hN0) k).1 (by rw [(fX7_sim_WS a (WS_cp hN) (by rw [cp_at, if_pos (by omega)]; exact hN0) k).2, cp_at, if_pos (by omega)]; exact hN0)).1) (va_cwS 1 hts gX7_simulate_X7_hourOn rfl rfl rfl (by decide +kernel) ⟨Nat.le_of_ble_eq_true rfl, Nat.le_of_ble_eq_true rfl⟩) hK hZ (g_st (show _ = va_up (mS M (upd A 0 0) T D N (fX7_chg (fX7_sim_L a (fX7_copyPage_P N V 0 0) k) (rho (lcg a (k + 1)))) I K B) 28 (fX7_chg (fX7_sim_L a (fX7_copyPage_P N V 0 0) k) (rho (lcg a (k + 1)))) from (mS_u28 _ _ _ _ _ _ _ _ _ _).symm) hG) hS rfl hl.1 (Nat.le_of_ble_eq_true rfl) dX7_simulate_77 ⟨Nat.zero_le _, Nat.zero_le _⟩ rfl rfl (fun H locs hG hS => ?_)
      replace hG : GH Γ (mS M (upd A 0 0) T D N (fX7_hourOn_P (fX7_chg (fX7_sim_L a (fX7_copyPage_P N V 0 0) k) (rho (lcg a (k + 1))))) I K B) R O H := g_st (mS_u28 _ _ _ _ _ _ _ _ _ _) hG
      refine lv_iinc (v := nI (k + 1)) (lv' := [(6, .int (nI (k + 1))), (4, .long (((lcg a k) * 6364136223846793005) + 1442695040888963407)), (0, .ref (gad Γ 483)), (1, .long a), (3, .int d)]) hx hb dX7_simulate_80 hl (k := 4) rfl (nI_1 _) (by decide) rfl (fun ls hl => ?_)
      refine lv_goto (tgt := 45) hx hb dX7_simulate_83 (by decide) ?_
      exact ih_k _ _ _ ⟨hG, hS, lv_sub hl [2, 3, 4, 1, 0] rfl⟩

