/-! THE REFERENCE: actions. Laid by gen/p10.py. -/
theorem mul_pl {x : Int32} {n k : Nat} (h : x = nI k) : nI n * x = nI (n * k) := by subst h; exact pk_mul _ _
theorem sub1_pl {x : Int32} {k : Nat} (h : x = nI k) (h0 : ¬ x = 0) : x - 1 = nI (k - 1) := by
  subst h
  cases k with
  | zero => exact absurd nI_0 h0
  | succ k => exact nI_pred k
theorem WS_hourW {Q : Nat → Int32} (wC : WS Q) {n : Nat} (hn : n = (Q 2).toNatClampNeg) : WS (fX7_hourW_L Q n) := by
  subst hn
  exact wC.of (fun j h => fX7_hourW_L8 _ _ wC.2.2.1.2 j (Or.inl h))
theorem fX7_hourOn_kw {P : Nat → Int32} (hW : WS P) : WS (fX7_hourOn_P P) := by
  have wD : WS (fX7_raise_P (fX7_dry_P P)) := WS_raise (WS_dry hW)
  have wD8 := wD.2.1.2
  have wH := (fX7_hourH_L8 wD _ wD8).1
  have w3 := wH.1.2
  have wS := wH.of (fun j h => fX7_hourS_L8 _ _ w3 j (Or.inl h))
  unfold fX7_hourOn_P
  generalize fX7_hourS_L (fX7_hourH_L (fX7_raise_P (fX7_dry_P P)) (fX7_raise_P (fX7_dry_P P) 1).toNatClampNeg) (fX7_hourH_L (fX7_raise_P (fX7_dry_P P)) (fX7_raise_P (fX7_dry_P P) 1).toNatClampNeg 0).toNatClampNeg = X at wS ⊢
  have wS : WS X := wS
  split
  · exact WS_hourW (WS.up (by unfold kw; omega) (WS.up (by unfold kw; omega) (WS.up (by unfold kw; omega) (WS.up (by unfold kw; omega) wS)))) rfl
  · exact WS_hourW (WS.up (by unfold kw; omega) wS) rfl
theorem WS_spray {P : Nat → Int32} {k : Nat} {a : Int32} (hk : k < 3) (hW : WS P) : WS (fX7_sprayOn_P P k a) := by
  have h2 := (hW.2.2.2.2 k hk).2
  unfold fX7_sprayOn_P
  (repeat' split) <;> first | exact hW | (have hX := WS.up (j := 11) (v := (upd (upd P (122 + 3 * k + 2) (P (122 + 3 * k + 2) - 1)) (122 + 3 * k + 1) (upd P (122 + 3 * k + 2) (P (122 + 3 * k + 2) - 1) (122 + 3 * k + 1) - a) 11 + a)) (by unfold kw; omega) (WS.up (j := 122 + 3 * k + 1) (v := (upd P (122 + 3 * k + 2) (P (122 + 3 * k + 2) - 1) (122 + 3 * k + 1) - a)) (by unfold kw; omega) (WS.up (j := 122 + 3 * k + 2) (v := P (122 + 3 * k + 2) - 1) (by unfold kw; omega) hW)); exact WS_wet (hX.2.2.2.2 k hk).2 hX)
def fX7_note_S  (Pk : Nat → Int32) (k : Nat) : Nat → Int32 := upd Pk k (Pk (k + 131))
def fX7_note_L  (P : Nat → Int32) : Nat → Nat → Int32
  | 0 => P
  | k + 1 => fX7_note_S  (fX7_note_L  P k) k
def fX7_note_A (A T D N V I K B : Nat → Int32)  : Nat → Int32 := if (A 8) = 14 then upd (upd A 8 ((A 8) - 1)) 8 (((upd A 8 ((A 8) - 1)) 8) + 1) else upd A 8 ((A 8) + 1)
def fX7_note_I (A T D N V I K B : Nat → Int32)  : Nat → Int32 := if (A 8) = 14 then fX7_copyPage_P N (fX7_note_L  I 1703) 0 1703 else fX7_copyPage_P N I 0 (131 * (A 8).toNatClampNeg)
set_option maxHeartbeats 4000000 in
set_option maxRecDepth 100000 in
theorem mX7_note {l : Launch} {Γ : gX} (M : Nat → Nat → Int32) (R : Nat → Nat → Option Nat) (O : Int64) (hL : LM Γ R) (A T D N V I K B : Nat → Int32) (hA : A 8 = nI (A 8).toNatClampNeg) (hA14 : (A 8).toNatClampNeg ≤ 14) : gMet l Γ yX7_note wsX7_note 1 24 [.ref (gad Γ 483)] (mS M A T D N V I K B) R O none (mS M (fX7_note_A A T D N V I K B ) T D N V (fX7_note_I A T D N V I K B ) K B) R O := by
  refine g_start (cc := cX7_note) (maxL := 2) (ret := none) (by decide) rfl (Nat.le_of_ble_eq_true rfl) ?_
  intro p e s m below meth c ls hx hb hml hrt hts hown hlocks hname hK hZ hG hS hl
  have hl : lv_has ls 2 [(0, .ref (gad Γ 483))] := hl
  have hown : s.vm.findClass RX7 = some m.cls := hown
  have hF : CallFix p m c cX7_note 2 s _ wsX7_note RX7 := ⟨hx, hb, hml, hown, hts⟩
  have k_1 : (Cond.fieldLink RX7 143 "RoadDustModel" "acts" "I").before _ s = true := hts _ (by decide +kernel)
  have in_X7 : ∀ w ∈ wsX70, w ∈ wsX7_note := by decide +kernel
  have k_3 : (Cond.fieldLink RX7 16 "RoadDustModel" "now" "[I").before _ s = true := hts _ (by decide +kernel)
  have k_4 : (Cond.fieldLink RX7 22 "RoadDustModel" "diary" "[I").before _ s = true := hts _ (by decide +kernel)
  refine lv_aload_n hx hb dX7_note_0 rfl (lv_at hl 0 rfl) ?_
  refine gM_get hx hb hts in_X7 hown hK hL hG 8 (by decide) rfl k_1 (fun _ h => h) dX7_note_1 ?_
  refine lv_bipush (v := 14) hx hb dX7_note_4 (by decide) ?_
  refine lv_icmp_ne (tgt := 50) hx hb dX7_note_6 (by decide) (fun c_1 => ?_) (fun c_1 => ?_)
  · --T
    have q_1 := ne_lt (n := 14) hA hA14 (by decide) c_1
    refine lv_aload_n hx hb dX7_note_50 rfl (lv_at hl 0 rfl) ?_
    refine gM_getr hx hb hts in_X7 hown hK hL hG 5 (by decide) rfl hL.2.2.2.1 k_3 (fun _ h => h) dX7_note_51 ?_
    refine lv_iconst (v := 0) hx hb dX7_note_54 (by decide) ?_
    refine lv_aload_n hx hb dX7_note_55 rfl (lv_at hl 0 rfl) ?_
    refine gM_getr hx hb hts in_X7 hown hK hL hG 7 (by decide) rfl hL.2.2.2.2.2.1 k_4 (fun _ h => h) dX7_note_56 ?_
    refine lv_sipush (v := 131) hx hb dX7_note_59 (by decide) ?_
    refine lv_aload_n hx hb dX7_note_62 rfl (lv_at hl 0 rfl) ?_
    refine gM_get hx hb hts in_X7 hown hK hL hG 8 (by decide) rfl k_1 (fun _ h => h) dX7_note_63 ?_
    refine lv_imul hx hb dX7_note_66 ?_
    refine g_callS (As := [.ref (gad Γ 486), .int 0, .ref (gad Γ 488), .int (131 * (A 8))]) (rest := []) (st1 := []) hF (mX7_copyPage (mS M A T D N V I K B) R O (hL.1 486 (by decide) (by decide)) (show gC 486 = (9, 27, 0) from rfl) (show gLen 486 = 131 from rfl) (hL.1 488 (by decide) (by decide)) (show gC 488 = (9, 29, 0) from rfl) (show gLen 488 = 1834 from rfl) (by decide) 0 (131 * (A 8).toNatClampNeg) rfl (mul_pl hA) (by omega) (by omega) (by decide) (by decide) I) (va_cwS 4 hts gX7_note_X7_copyPage rfl rfl rfl (by decide +kernel) ⟨Nat.le_of_ble_eq_true rfl, Nat.le_of_ble_eq_true rfl⟩) hK hZ (g_st (show _ = va_up (mS M A T D N V I K B) 29 I from (mS_u29 _ _ _ _ _ _ _ _ _ _).symm) hG) hS rfl hl.1 (Nat.le_of_ble_eq_true rfl) dX7_note_67 ⟨Nat.zero_le _, Nat.zero_le _⟩ rfl rfl (fun H locs hG hS => ?_)
    replace hG : GH Γ (mS M A T D N V (fX7_copyPage_P N I 0 (131 * (A 8).toNatClampNeg)) K B) R O H := g_st (mS_u29 _ _ _ _ _ _ _ _ _ _) hG
    refine lv_aload_n hx hb dX7_note_70 rfl (lv_at hl 0 rfl) ?_
    refine lv_dup hx hb dX7_note_71 rfl ?_
    refine gM_get hx hb hts in_X7 hown hK hL hG 8 (by decide) rfl k_1 (fun _ h => h) dX7_note_72 ?_
    refine lv_iconst (v := 1) hx hb dX7_note_75 (by decide) ?_
    refine lv_iadd hx hb dX7_note_76 ?_
    refine gM_put hx hb hts in_X7 hown hK hL hG hS 8 (by decide) rfl k_1 (fun _ h => h) rfl (by decide +kernel) dX7_note_77 (fun H locs hG hS => ?_)
    exact g_vret hx hb hrt hlocks hS hG (mS_c (by unfold fX7_note_A; rw [if_neg c_1]) rfl rfl rfl rfl (by unfold fX7_note_I; rw [if_neg c_1]) rfl rfl) rfl dX7_note_80
  · --F
    refine lv_iconst (v := 0) hx hb dX7_note_9 (by decide) ?_
    refine lv_istore_n (lv' := [(1, .int 0), (0, .ref (gad Γ 483))]) hx hb dX7_note_10 rfl hl (by decide) rfl (fun ls hl => ?_)
    refine g_loop (N := 1703) (fun k H locs ls => GH Γ (mS M A T D N V (fX7_note_L  I k) K B) R O H ∧ va_S (gA Γ) s.heap H locs ∧ lv_has ls 2 [(0, .ref (gad Γ 483)), (1, .int (nI k))]) ?_ ?_ 0 (Nat.zero_le _) _ _ _ ⟨hG, hS, lv_sub hl [1, 0] rfl⟩
    · rintro H locs ls ⟨hG, hS, hl⟩
      refine lv_iload_n hx hb dX7_note_11 rfl (lv_at hl 1 rfl) ?_
      refine lv_sipush (v := 1703) hx hb dX7_note_12 (by decide) ?_
      refine lv_icmp_ge (tgt := 40) hx hb dX7_note_15 (by decide) (fun c_2 => ?_) (fun c_2 => absurd (nI_le (Nat.le_refl _) (by decide)) c_2)
      refine lv_aload_n hx hb dX7_note_40 rfl (lv_at hl 0 rfl) ?_
      refine lv_dup hx hb dX7_note_41 rfl ?_
      refine gM_get hx hb hts in_X7 hown hK hL hG 8 (by decide) rfl k_1 (fun _ h => h) dX7_note_42 ?_
      refine lv_iconst (v := 1) hx hb dX7_note_45 (by decide) ?_
      refine lv_isub hx hb dX7_note_46 ?_
      refine gM_put hx hb hts in_X7 hown hK hL hG hS 8 (by decide) rfl k_1 (fun _ h => h) rfl (by decide +kernel) dX7_note_47 (fun H locs hG hS => ?_)
      refine lv_aload_n hx hb dX7_note_50 rfl (lv_at hl 0 rfl) ?_
      refine gM_getr hx hb hts in_X7 hown hK hL hG 5 (by decide) rfl hL.2.2.2.1 k_3 (fun _ h => h) dX7_note_51 ?_
      refine lv_iconst (v := 0) hx hb dX7_note_54 (by decide) ?_
      refine lv_aload_n hx hb dX7_note_55 rfl (lv_at hl 0 rfl) ?_
      refine gM_getr hx hb hts in_X7 hown hK hL hG 7 (by decide) rfl hL.2.2.2.2.2.1 k_4 (fun _ h => h) dX7_note_56 ?_
      refine lv_sipush (v := 131) hx hb dX7_note_59 (by decide) ?_
      refine lv_aload_n hx hb dX7_note_62 rfl (lv_at hl 0 rfl) ?_
      refine gM_get hx hb hts in_X7 hown hK hL hG 8 (by decide) rfl k_1 (fun _ h => h) dX7_note_63 ?_
      refine lv_imul hx hb dX7_note_66 ?_
      refine g_callS (As := [.ref (gad Γ 486), .int 0, .ref (gad Γ 488), .int (131 * ((upd A 8 ((A 8) - 1)) 8))]) (rest := []) (st1 := []) hF (mX7_copyPage (mS M (upd A 8 ((A 8) - 1)) T D N V (fX7_note_L  I 1703) K B) R O (hL.1 486 (by decide) (by decide)) (show gC 486 = (9, 27, 0) from rfl) (show gLen 486 = 131 from rfl) (hL.1 488 (by decide) (by decide)) (show gC 488 = (9, 29, 0) from rfl) (show gLen 488 = 1834 from rfl) (by decide) 0 1703 rfl (by rw [show ((upd A 8 ((A 8) - 1)) 8) = A 8 - 1 from rfl, c_1]; rfl) (by omega) (by omega) (by decide) (by decide) (fX7_note_L  I 1703)) (va_cwS 4 hts gX7_note_X7_copyPage rfl rfl rfl (by decide +kernel) ⟨Nat.le_of_ble_eq_true rfl, Nat.le_of_ble_eq_true rfl⟩) hK hZ (g_st (show _ = va_up (mS M (upd A 8 ((A 8) - 1)) T D N V (fX7_note_L  I 1703) K B) 29 (fX7_note_L  I 1703) from (mS_u29 _ _ _ _ _ _ _ _ _ _).symm) hG) hS rfl hl.1 (Nat.le_of_ble_eq_true rfl) dX7_note_67 ⟨Nat.zero_le _, Nat.zero_le _⟩ rfl rfl (fun H locs hG hS => ?_)
      replace hG : GH Γ (mS M (upd A 8 ((A 8) - 1)) T D N V (fX7_copyPage_P N (fX7_note_L  I 1703) 0 1703) K B) R O H := g_st (mS_u29 _ _ _ _ _ _ _ _ _ _) hG
      refine lv_aload_n hx hb dX7_note_70 rfl (lv_at hl 0 rfl) ?_
      refine lv_dup hx hb dX7_note_71 rfl ?_
      refine gM_get hx hb hts in_X7 hown hK hL hG 8 (by decide) rfl k_1 (fun _ h => h) dX7_note_72 ?_
      refine lv_iconst (v := 1) hx hb dX7_note_75 (by decide) ?_
      refine lv_iadd hx hb dX7_note_76 ?_
      refine gM_put hx hb hts in_X7 hown hK hL hG hS 8 (by decide) rfl k_1 (fun _ h => h) rfl (by decide +kernel) dX7_note_77 (fun H locs hG hS => ?_)
      exact g_vret hx hb hrt hlocks hS hG (mS_c (by unfold fX7_note_A; rw [if_pos c_1]) rfl rfl rfl rfl (by unfold fX7_note_I; rw [if_pos c_1]) rfl rfl) rfl dX7_note_80
    · rintro k hk_k ih_k H locs ls ⟨hG, hS, hl⟩
      refine lv_iload_n hx hb dX7_note_11 rfl (lv_at hl 1 rfl) ?_
      refine lv_sipush (v := 1703) hx hb dX7_note_12 (by decide) ?_
      refine lv_icmp_ge (tgt := 40) hx hb dX7_note_15 (by decide) (fun c_3 => absurd c_3 (nI_ge hk_k (by decide))) (fun c_3 => ?_)
      refine lv_aload_n hx hb dX7_note_18 rfl (lv_at hl 0 rfl) ?_
      refine gM_getr hx hb hts in_X7 hown hK hL hG 7 (by decide) rfl hL.2.2.2.2.2.1 k_4 (fun _ h => h) dX7_note_19 ?_
      refine lv_iload_n hx hb dX7_note_22 rfl (lv_at hl 1 rfl) ?_
      refine lv_aload_n hx hb dX7_note_23 rfl (lv_at hl 0 rfl) ?_
      refine gM_getr hx hb hts in_X7 hown hK hL hG 7 (by decide) rfl hL.2.2.2.2.2.1 k_4 (fun _ h => h) dX7_note_24 ?_
      refine lv_iload_n hx hb dX7_note_27 rfl (lv_at hl 1 rfl) ?_
      refine lv_sipush (v := 131) hx hb dX7_note_28 (by decide) ?_
      refine lv_iadd hx hb dX7_note_31 ?_
      refine g_top (show _ = nI (k + 131) from nI_add _ _) ?_
      refine gm_ald hx hb hK hG (hL.1 488 (by decide) (by decide)) (show gC 488 = (9, 29, 0) from rfl) (show gLen 488 = 1834 from rfl) (by decide) (j := k + 131) rfl (by omega) (v := (fX7_note_L  I k) (k + 131)) rfl dX7_note_32 ?_
      refine gm_ast (M2 := mS M A T D N V (upd (fX7_note_L  I k) k ((fX7_note_L  I k) (k + 131))) K B) hx hb hK hG hS (hL.1 488 (by decide) (by decide)) (show gC 488 = (9, 29, 0) from rfl) (show gLen 488 = 1834 from rfl) (by decide) (j := k) rfl (by omega) (mS_p29 _ _ _ _ _ _ _ _ _ _ _) dX7_note_33 (fun H locs hG hS => ?_)
      refine lv_iinc (v := nI (k + 1)) (lv' := [(1, .int (nI (k + 1))), (0, .ref (gad Γ 483))]) hx hb dX7_note_34 hl (k := 1) rfl (nI_1 _) (by decide) rfl (fun ls hl => ?_)
      refine lv_goto (tgt := 11) hx hb dX7_note_37 (by decide) ?_
      exact ih_k _ _ _ ⟨hG, hS, lv_sub hl [1, 0] rfl⟩

def fX7_addHouse_v (A T D N V I K B : Nat → Int32) (a d : Int32) : Int32 := if (fX7_isSegment_v N a) = 0 then 0 else if (fX7_in_v d.toInt64 0 9) = 0 then 0 else if (N 1) = 8 then 0 else ((fX7_houseOn_P N a d) 1) - 1
def fX7_addHouse_A (A T D N V I K B : Nat → Int32) (a d : Int32) : Nat → Int32 := if (fX7_isSegment_v N a) = 0 then upd A 0 1 else if (fX7_in_v d.toInt64 0 9) = 0 then upd A 0 2 else if (N 1) = 8 then upd A 0 3 else fX7_note_A (upd A 0 0) T D N V I K B 
def fX7_addHouse_N (A T D N V I K B : Nat → Int32) (a d : Int32) : Nat → Int32 := if (fX7_isSegment_v N a) = 0 then N else if (fX7_in_v d.toInt64 0 9) = 0 then N else if (N 1) = 8 then N else fX7_houseOn_P N a d
def fX7_addHouse_I (A T D N V I K B : Nat → Int32) (a d : Int32) : Nat → Int32 := if (fX7_isSegment_v N a) = 0 then I else if (fX7_in_v d.toInt64 0 9) = 0 then I else if (N 1) = 8 then I else fX7_note_I (upd A 0 0) T D N V I K B 
set_option maxHeartbeats 4000000 in
set_option maxRecDepth 100000 in
theorem mX7_addHouse {l : Launch} {Γ : gX} (M : Nat → Nat → Int32) (R : Nat → Nat → Option Nat) (O : Int64) (hL : LM Γ R) (A T D N V I K B : Nat → Int32) (a d : Int32) (hN : WS N) (hA : A 8 = nI (A 8).toNatClampNeg) (hA14 : (A 8).toNatClampNeg ≤ 14) : gMet l Γ yX7_addHouse wsX7_addHouse 2 46 [.ref (gad Γ 483), .int a, .int d] (mS M A T D N V I K B) R O (some (.int (fX7_addHouse_v A T D N V I K B a d))) (mS M (fX7_addHouse_A A T D N V I K B a d) T D (fX7_addHouse_N A T D N V I K B a d) V (fX7_addHouse_I A T D N V I K B a d) K B) R O := by
  refine g_start (cc := cX7_addHouse) (maxL := 3) (ret := (some .int)) (by decide) rfl (Nat.le_of_ble_eq_true rfl) ?_
  intro p e s m below meth c ls hx hb hml hrt hts hown hlocks hname hK hZ hG hS hl
  have hl : lv_has ls 3 [(0, .ref (gad Γ 483)), (1, .int a), (2, .int d)] := hl
  have hown : s.vm.findClass RX7 = some m.cls := hown
  have hF : CallFix p m c cX7_addHouse 3 s _ wsX7_addHouse RX7 := ⟨hx, hb, hml, hown, hts⟩
  have k_1 : (Cond.fieldLink RX7 16 "RoadDustModel" "now" "[I").before _ s = true := hts _ (by decide +kernel)
  have in_X7 : ∀ w ∈ wsX70, w ∈ wsX7_addHouse := by decide +kernel
  have k_3 : (Cond.constantLong RX7 102 (9)).before _ s = true := hts _ (by decide +kernel)
  have n0 := hN.1.2
  have n1 := hN.2.1.2
  have n2 := hN.2.2.1.2
  refine lv_aload_n hx hb dX7_addHouse_0 rfl (lv_at hl 0 rfl) ?_
  refine lv_aload_n hx hb dX7_addHouse_1 rfl (lv_at hl 0 rfl) ?_
  refine gM_getr hx hb hts in_X7 hown hK hL hG 5 (by decide) rfl hL.2.2.2.1 k_1 (fun _ h => h) dX7_addHouse_2 ?_
  refine lv_iload_n hx hb dX7_addHouse_5 rfl (lv_at hl 1 rfl) ?_
  refine g_callS (As := [.ref (gad Γ 486), .int a]) (rest := [.ref (gad Γ 483)]) (st1 := [.int (fX7_isSegment_v N a), .ref (gad Γ 483)]) hF (mX7_isSegment (mS M A T D N V I K B) R O (hL.1 486 (by decide) (by decide)) (show gC 486 = (9, 27, 0) from rfl) (show gLen 486 = 131 from rfl) N a) (va_cwS 2 hts gX7_addHouse_X7_isSegment rfl rfl rfl (by decide +kernel) ⟨Nat.le_of_ble_eq_true rfl, Nat.le_of_ble_eq_true rfl⟩) hK hZ (g_st (show _ = va_up (mS M A T D N V I K B) 27 N from (mS_u27 _ _ _ _ _ _ _ _ _ _).symm) hG) hS rfl hl.1 (Nat.le_of_ble_eq_true rfl) dX7_addHouse_6 ⟨Nat.zero_le _, Nat.zero_le _⟩ rfl rfl (fun H locs hG hS => ?_)
  replace hG : GH Γ (mS M A T D N V I K B) R O H := g_st (mS_u27 _ _ _ _ _ _ _ _ _ _) hG
  refine lv_if_ne (tgt := 16) hx hb dX7_addHouse_9 (by decide) (fun c_1 => ?_) (fun c_1 => ?_)
  · --T
    refine lv_iload_n hx hb dX7_addHouse_16 rfl (lv_at hl 2 rfl) ?_
    refine lv_i2l hx hb dX7_addHouse_17 rfl ?_
    refine lv_lconst (v := 0) hx hb dX7_addHouse_18 (by decide) ?_
    refine lv_ldc2 hx hb hown k_3 dX7_addHouse_19 ?_
    refine g_callS (As := [.long d.toInt64, .long 0, .long 9]) (rest := [.ref (gad Γ 483)]) (st1 := [.int (fX7_in_v d.toInt64 0 9), .ref (gad Γ 483)]) hF (mX7_in _ R O d.toInt64 0 9) (va_cwS 3 hts gX7_addHouse_X7_in rfl rfl rfl (by decide +kernel) ⟨Nat.le_of_ble_eq_true rfl, Nat.le_of_ble_eq_true rfl⟩) hK hZ hG hS rfl hl.1 (Nat.le_of_ble_eq_true rfl) dX7_addHouse_22 ⟨Nat.zero_le _, Nat.zero_le _⟩ rfl rfl (fun H locs hG hS => ?_)
    refine lv_if_ne (tgt := 32) hx hb dX7_addHouse_25 (by decide) (fun c_2 => ?_) (fun c_2 => ?_)
    · --T
      refine lv_aload_n hx hb dX7_addHouse_32 rfl (lv_at hl 0 rfl) ?_
      refine gM_getr hx hb hts in_X7 hown hK hL hG 5 (by decide) rfl hL.2.2.2.1 k_1 (fun _ h => h) dX7_addHouse_33 ?_
      refine lv_iconst (v := 1) hx hb dX7_addHouse_36 (by decide) ?_
      refine gm_ald hx hb hK hG (hL.1 486 (by decide) (by decide)) (show gC 486 = (9, 27, 0) from rfl) (show gLen 486 = 131 from rfl) (by decide) (j := 1) rfl (by omega) (v := N 1) rfl dX7_addHouse_37 ?_
      refine lv_bipush (v := 8) hx hb dX7_addHouse_38 (by decide) ?_
      refine lv_icmp_ne (tgt := 47) hx hb dX7_addHouse_40 (by decide) (fun c_3 => ?_) (fun c_3 => ?_)
      · --T
        refine lv_iconst (v := 0) hx hb dX7_addHouse_47 (by decide) ?_
        refine g_callV (As := [.int 0]) (rest := []) (st1 := [.int 0]) hF (mX7_refused_l M R O hL A T D N V I K B 0 0 (by decide)) (cwV 1 hts gX7_addHouse_X7_refused rfl rfl rfl (by decide +kernel) ⟨Nat.le_of_ble_eq_true rfl, Nat.le_of_ble_eq_true rfl⟩) hK hZ hG hS (hL.1 483 (by decide) (by decide)) (show gC 483 = (7, 24, 0) from rfl) (by decide) rfl rfl hl.1 (Nat.le_of_ble_eq_true rfl) dX7_addHouse_48 ⟨Nat.zero_le _, Nat.zero_le _⟩ rfl rfl (fun H locs hG hS => ?_)
        refine lv_if_eq (tgt := 56) hx hb dX7_addHouse_51 (by decide) (fun c_4 => ?_) (fun c_4 => absurd (by decide) c_4)
        refine lv_aload_n hx hb dX7_addHouse_56 rfl (lv_at hl 0 rfl) ?_
        refine g_callV (As := []) (rest := []) (st1 := []) hF (mX7_note M R O hL (upd A 0 0) T D N V I K B  hA hA14) (cwV 0 hts gX7_addHouse_X7_note rfl rfl rfl (by decide +kernel) ⟨Nat.le_of_ble_eq_true rfl, Nat.le_of_ble_eq_true rfl⟩) hK hZ hG hS (hL.1 483 (by decide) (by decide)) (show gC 483 = (7, 24, 0) from rfl) (by decide) rfl rfl hl.1 (Nat.le_of_ble_eq_true rfl) dX7_addHouse_57 ⟨Nat.zero_le _, Nat.zero_le _⟩ rfl rfl (fun H locs hG hS => ?_)
        refine lv_aload_n hx hb dX7_addHouse_60 rfl (lv_at hl 0 rfl) ?_
        refine gM_getr hx hb hts in_X7 hown hK hL hG 5 (by decide) rfl hL.2.2.2.1 k_1 (fun _ h => h) dX7_addHouse_61 ?_
        refine lv_iload_n hx hb dX7_addHouse_64 rfl (lv_at hl 1 rfl) ?_
        refine lv_iload_n hx hb dX7_addHouse_65 rfl (lv_at hl 2 rfl) ?_
        refine g_callS (As := [.ref (gad Γ 486), .int a, .int d]) (rest := []) (st1 := []) hF (mX7_houseOn (mS M (fX7_note_A (upd A 0 0) T D N V I K B ) T D N V (fX7_note_I (upd A 0 0) T D N V I K B ) K B) R O (hL.1 486 (by decide) (by decide)) (show gC 486 = (9, 27, 0) from rfl) (show gLen 486 = 131 from rfl) N a d hN (ne_lt (n := 8) hN.2.1.1 hN.2.1.2 (by decide) c_3)) (va_cwS 3 hts gX7_addHouse_X7_houseOn rfl rfl rfl (by decide +kernel) ⟨Nat.le_of_ble_eq_true rfl, Nat.le_of_ble_eq_true rfl⟩) hK hZ (g_st (show _ = va_up (mS M (fX7_note_A (upd A 0 0) T D N V I K B ) T D N V (fX7_note_I (upd A 0 0) T D N V I K B ) K B) 27 N from (mS_u27 _ _ _ _ _ _ _ _ _ _).symm) hG) hS rfl hl.1 (Nat.le_of_ble_eq_true rfl) dX7_addHouse_66 ⟨Nat.zero_le _, Nat.zero_le _⟩ rfl rfl (fun H locs hG hS => ?_)
        replace hG : GH Γ (mS M (fX7_note_A (upd A 0 0) T D N V I K B ) T D (fX7_houseOn_P N a d) V (fX7_note_I (upd A 0 0) T D N V I K B ) K B) R O H := g_st (mS_u27 _ _ _ _ _ _ _ _ _ _) hG
        refine lv_aload_n hx hb dX7_addHouse_69 rfl (lv_at hl 0 rfl) ?_
        refine gM_getr hx hb hts in_X7 hown hK hL hG 5 (by decide) rfl hL.2.2.2.1 k_1 (fun _ h => h) dX7_addHouse_70 ?_
        refine lv_iconst (v := 1) hx hb dX7_addHouse_73 (by decide) ?_
        refine gm_ald hx hb hK hG (hL.1 486 (by decide) (by decide)) (show gC 486 = (9, 27, 0) from rfl) (show gLen 486 = 131 from rfl) (by decide) (j := 1) rfl (by omega) (v := (fX7_houseOn_P N a d) 1) rfl dX7_addHouse_74 ?_
        refine lv_iconst (v := 1) hx hb dX7_addHouse_75 (by decide) ?_
        refine lv_isub hx hb dX7_addHouse_76 ?_
        exact g_iret hx hb hrt hlocks hS hG (by unfold fX7_addHouse_v; rw [if_neg c_1, if_neg c_2, if_neg c_3]) (mS_c (by unfold fX7_addHouse_A; rw [if_neg c_1, if_neg c_2, if_neg c_3]) rfl rfl (by unfold fX7_addHouse_N; rw [if_neg c_1, if_neg c_2, if_neg c_3]) rfl (by unfold fX7_addHouse_I; rw [if_neg c_1, if_neg c_2, if_neg c_3]) rfl rfl) dX7_addHouse_77
      · --F
        refine lv_iconst (v := 3) hx hb dX7_addHouse_43 (by decide) ?_
        refine lv_goto (tgt := 48) hx hb dX7_addHouse_44 (by decide) ?_
        refine g_callV (As := [.int 3]) (rest := []) (st1 := [.int 1]) hF (mX7_refused_l M R O hL A T D N V I K B 3 1 (by decide)) (cwV 1 hts gX7_addHouse_X7_refused rfl rfl rfl (by decide +kernel) ⟨Nat.le_of_ble_eq_true rfl, Nat.le_of_ble_eq_true rfl⟩) hK hZ hG hS (hL.1 483 (by decide) (by decide)) (show gC 483 = (7, 24, 0) from rfl) (by decide) rfl rfl hl.1 (Nat.le_of_ble_eq_true rfl) dX7_addHouse_48 ⟨Nat.zero_le _, Nat.zero_le _⟩ rfl rfl (fun H locs hG hS => ?_)
        refine lv_if_eq (tgt := 56) hx hb dX7_addHouse_51 (by decide) (fun c_5 => absurd c_5 (by decide)) (fun c_5 => ?_)
        refine lv_iconst (v := 0) hx hb dX7_addHouse_54 (by decide) ?_
        exact g_iret hx hb hrt hlocks hS hG (by unfold fX7_addHouse_v; rw [if_neg c_1, if_neg c_2, if_pos c_3]) (mS_c (by unfold fX7_addHouse_A; rw [if_neg c_1, if_neg c_2, if_pos c_3]) rfl rfl (by unfold fX7_addHouse_N; rw [if_neg c_1, if_neg c_2, if_pos c_3]) rfl (by unfold fX7_addHouse_I; rw [if_neg c_1, if_neg c_2, if_pos c_3]) rfl rfl) dX7_addHouse_55
    · --F
      refine lv_iconst (v := 2) hx hb dX7_addHouse_28 (by decide) ?_
      refine lv_goto (tgt := 48) hx hb dX7_addHouse_29 (by decide) ?_
      refine g_callV (As := [.int 2]) (rest := []) (st1 := [.int 1]) hF (mX7_refused_l M R O hL A T D N V I K B 2 1 (by decide)) (cwV 1 hts gX7_addHouse_X7_refused rfl rfl rfl (by decide +kernel) ⟨Nat.le_of_ble_eq_true rfl, Nat.le_of_ble_eq_true rfl⟩) hK hZ hG hS (hL.1 483 (by decide) (by decide)) (show gC 483 = (7, 24, 0) from rfl) (by decide) rfl rfl hl.1 (Nat.le_of_ble_eq_true rfl) dX7_addHouse_48 ⟨Nat.zero_le _, Nat.zero_le _⟩ rfl rfl (fun H locs hG hS => ?_)
      refine lv_if_eq (tgt := 56) hx hb dX7_addHouse_51 (by decide) (fun c_6 => absurd c_6 (by decide)) (fun c_6 => ?_)
      refine lv_iconst (v := 0) hx hb dX7_addHouse_54 (by decide) ?_
      exact g_iret hx hb hrt hlocks hS hG (by unfold fX7_addHouse_v; rw [if_neg c_1, if_pos c_2]) (mS_c (by unfold fX7_addHouse_A; rw [if_neg c_1, if_pos c_2]) rfl rfl (by unfold fX7_addHouse_N; rw [if_neg c_1, if_pos c_2]) rfl (by unfold fX7_addHouse_I; rw [if_neg c_1, if_pos c_2]) rfl rfl) dX7_addHouse_55
  · --F
    refine lv_iconst (v := 1) hx hb dX7_addHouse_12 (by decide) ?_
    refine lv_goto (tgt := 48) hx hb dX7_addHouse_13 (by decide) ?_
    refine g_callV (As := [.int 1]) (rest := []) (st1 := [.int 1]) hF (mX7_refused_l M R O hL A T D N V I K B 1 1 (by decide)) (cwV 1 hts gX7_addHouse_X7_refused rfl rfl rfl (by decide +kernel) ⟨Nat.le_of_ble_eq_true rfl, Nat.le_of_ble_eq_true rfl⟩) hK hZ hG hS (hL.1 483 (by decide) (by decide)) (show gC 483 = (7, 24, 0) from rfl) (by decide) rfl rfl hl.1 (Nat.le_of_ble_eq_true rfl) dX7_addHouse_48 ⟨Nat.zero_le _, Nat.zero_le _⟩ rfl rfl (fun H locs hG hS => ?_)
    refine lv_if_eq (tgt := 56) hx hb dX7_addHouse_51 (by decide) (fun c_7 => absurd c_7 (by decide)) (fun c_7 => ?_)
    refine lv_iconst (v := 0) hx hb dX7_addHouse_54 (by decide) ?_
    exact g_iret hx hb hrt hlocks hS hG (by unfold fX7_addHouse_v; rw [if_pos c_1]) (mS_c (by unfold fX7_addHouse_A; rw [if_pos c_1]) rfl rfl (by unfold fX7_addHouse_N; rw [if_pos c_1]) rfl (by unfold fX7_addHouse_I; rw [if_pos c_1]) rfl rfl) dX7_addHouse_55

def fX7_addWagon_v (A T D N V I K B : Nat → Int32) (a : Int32) : Int32 := if (fX7_isSegment_v N a) = 0 then 0 else if (N 2) = 3 then 0 else ((fX7_wagonOn_P N a) 2) - 1
def fX7_addWagon_A (A T D N V I K B : Nat → Int32) (a : Int32) : Nat → Int32 := if (fX7_isSegment_v N a) = 0 then upd A 0 1 else if (N 2) = 3 then upd A 0 2 else fX7_note_A (upd A 0 0) T D N V I K B 
def fX7_addWagon_N (A T D N V I K B : Nat → Int32) (a : Int32) : Nat → Int32 := if (fX7_isSegment_v N a) = 0 then N else if (N 2) = 3 then N else fX7_wagonOn_P N a
def fX7_addWagon_I (A T D N V I K B : Nat → Int32) (a : Int32) : Nat → Int32 := if (fX7_isSegment_v N a) = 0 then I else if (N 2) = 3 then I else fX7_note_I (upd A 0 0) T D N V I K B 
set_option maxHeartbeats 4000000 in
set_option maxRecDepth 100000 in
theorem mX7_addWagon {l : Launch} {Γ : gX} (M : Nat → Nat → Int32) (R : Nat → Nat → Option Nat) (O : Int64) (hL : LM Γ R) (A T D N V I K B : Nat → Int32) (a : Int32) (hN : WS N) (hA : A 8 = nI (A 8).toNatClampNeg) (hA14 : (A 8).toNatClampNeg ≤ 14) : gMet l Γ yX7_addWagon wsX7_addWagon 2 46 [.ref (gad Γ 483), .int a] (mS M A T D N V I K B) R O (some (.int (fX7_addWagon_v A T D N V I K B a))) (mS M (fX7_addWagon_A A T D N V I K B a) T D (fX7_addWagon_N A T D N V I K B a) V (fX7_addWagon_I A T D N V I K B a) K B) R O := by
  refine g_start (cc := cX7_addWagon) (maxL := 2) (ret := (some .int)) (by decide) rfl (Nat.le_of_ble_eq_true rfl) ?_
  intro p e s m below meth c ls hx hb hml hrt hts hown hlocks hname hK hZ hG hS hl
  have hl : lv_has ls 2 [(0, .ref (gad Γ 483)), (1, .int a)] := hl
  have hown : s.vm.findClass RX7 = some m.cls := hown
  have hF : CallFix p m c cX7_addWagon 2 s _ wsX7_addWagon RX7 := ⟨hx, hb, hml, hown, hts⟩
  have k_1 : (Cond.fieldLink RX7 16 "RoadDustModel" "now" "[I").before _ s = true := hts _ (by decide +kernel)
  have in_X7 : ∀ w ∈ wsX70, w ∈ wsX7_addWagon := by decide +kernel
  have n0 := hN.1.2
  have n1 := hN.2.1.2
  have n2 := hN.2.2.1.2
  refine lv_aload_n hx hb dX7_addWagon_0 rfl (lv_at hl 0 rfl) ?_
  refine lv_aload_n hx hb dX7_addWagon_1 rfl (lv_at hl 0 rfl) ?_
  refine gM_getr hx hb hts in_X7 hown hK hL hG 5 (by decide) rfl hL.2.2.2.1 k_1 (fun _ h => h) dX7_addWagon_2 ?_
  refine lv_iload_n hx hb dX7_addWagon_5 rfl (lv_at hl 1 rfl) ?_
  refine g_callS (As := [.ref (gad Γ 486), .int a]) (rest := [.ref (gad Γ 483)]) (st1 := [.int (fX7_isSegment_v N a), .ref (gad Γ 483)]) hF (mX7_isSegment (mS M A T D N V I K B) R O (hL.1 486 (by decide) (by decide)) (show gC 486 = (9, 27, 0) from rfl) (show gLen 486 = 131 from rfl) N a) (va_cwS 2 hts gX7_addWagon_X7_isSegment rfl rfl rfl (by decide +kernel) ⟨Nat.le_of_ble_eq_true rfl, Nat.le_of_ble_eq_true rfl⟩) hK hZ (g_st (show _ = va_up (mS M A T D N V I K B) 27 N from (mS_u27 _ _ _ _ _ _ _ _ _ _).symm) hG) hS rfl hl.1 (Nat.le_of_ble_eq_true rfl) dX7_addWagon_6 ⟨Nat.zero_le _, Nat.zero_le _⟩ rfl rfl (fun H locs hG hS => ?_)
  replace hG : GH Γ (mS M A T D N V I K B) R O H := g_st (mS_u27 _ _ _ _ _ _ _ _ _ _) hG
  refine lv_if_ne (tgt := 16) hx hb dX7_addWagon_9 (by decide) (fun c_1 => ?_) (fun c_1 => ?_)
  · --T
    refine lv_aload_n hx hb dX7_addWagon_16 rfl (lv_at hl 0 rfl) ?_
    refine gM_getr hx hb hts in_X7 hown hK hL hG 5 (by decide) rfl hL.2.2.2.1 k_1 (fun _ h => h) dX7_addWagon_17 ?_
    refine lv_iconst (v := 2) hx hb dX7_addWagon_20 (by decide) ?_
    refine gm_ald hx hb hK hG (hL.1 486 (by decide) (by decide)) (show gC 486 = (9, 27, 0) from rfl) (show gLen 486 = 131 from rfl) (by decide) (j := 2) rfl (by omega) (v := N 2) rfl dX7_addWagon_21 ?_
    refine lv_iconst (v := 3) hx hb dX7_addWagon_22 (by decide) ?_
    refine lv_icmp_ne (tgt := 30) hx hb dX7_addWagon_23 (by decide) (fun c_2 => ?_) (fun c_2 => ?_)
    · --T
      refine lv_iconst (v := 0) hx hb dX7_addWagon_30 (by decide) ?_
      refine g_callV (As := [.int 0]) (rest := []) (st1 := [.int 0]) hF (mX7_refused_l M R O hL A T D N V I K B 0 0 (by decide)) (cwV 1 hts gX7_addWagon_X7_refused rfl rfl rfl (by decide +kernel) ⟨Nat.le_of_ble_eq_true rfl, Nat.le_of_ble_eq_true rfl⟩) hK hZ hG hS (hL.1 483 (by decide) (by decide)) (show gC 483 = (7, 24, 0) from rfl) (by decide) rfl rfl hl.1 (Nat.le_of_ble_eq_true rfl) dX7_addWagon_31 ⟨Nat.zero_le _, Nat.zero_le _⟩ rfl rfl (fun H locs hG hS => ?_)
      refine lv_if_eq (tgt := 39) hx hb dX7_addWagon_34 (by decide) (fun c_3 => ?_) (fun c_3 => absurd (by decide) c_3)
      refine lv_aload_n hx hb dX7_addWagon_39 rfl (lv_at hl 0 rfl) ?_
      refine g_callV (As := []) (rest := []) (st1 := []) hF (mX7_note M R O hL (upd A 0 0) T D N V I K B  hA hA14) (cwV 0 hts gX7_addWagon_X7_note rfl rfl rfl (by decide +kernel) ⟨Nat.le_of_ble_eq_true rfl, Nat.le_of_ble_eq_true rfl⟩) hK hZ hG hS (hL.1 483 (by decide) (by decide)) (show gC 483 = (7, 24, 0) from rfl) (by decide) rfl rfl hl.1 (Nat.le_of_ble_eq_true rfl) dX7_addWagon_40 ⟨Nat.zero_le _, Nat.zero_le _⟩ rfl rfl (fun H locs hG hS => ?_)
      refine lv_aload_n hx hb dX7_addWagon_43 rfl (lv_at hl 0 rfl) ?_
      refine gM_getr hx hb hts in_X7 hown hK hL hG 5 (by decide) rfl hL.2.2.2.1 k_1 (fun _ h => h) dX7_addWagon_44 ?_
      refine lv_iload_n hx hb dX7_addWagon_47 rfl (lv_at hl 1 rfl) ?_
      refine g_callS (As := [.ref (gad Γ 486), .int a]) (rest := []) (st1 := []) hF (mX7_wagonOn (mS M (fX7_note_A (upd A 0 0) T D N V I K B ) T D N V (fX7_note_I (upd A 0 0) T D N V I K B ) K B) R O (hL.1 486 (by decide) (by decide)) (show gC 486 = (9, 27, 0) from rfl) (show gLen 486 = 131 from rfl) N a hN (ne_lt (n := 3) hN.2.2.1.1 hN.2.2.1.2 (by decide) c_2)) (va_cwS 2 hts gX7_addWagon_X7_wagonOn rfl rfl rfl (by decide +kernel) ⟨Nat.le_of_ble_eq_true rfl, Nat.le_of_ble_eq_true rfl⟩) hK hZ (g_st (show _ = va_up (mS M (fX7_note_A (upd A 0 0) T D N V I K B ) T D N V (fX7_note_I (upd A 0 0) T D N V I K B ) K B) 27 N from (mS_u27 _ _ _ _ _ _ _ _ _ _).symm) hG) hS rfl hl.1 (Nat.le_of_ble_eq_true rfl) dX7_addWagon_48 ⟨Nat.zero_le _, Nat.zero_le _⟩ rfl rfl (fun H locs hG hS => ?_)
      replace hG : GH Γ (mS M (fX7_note_A (upd A 0 0) T D N V I K B ) T D (fX7_wagonOn_P N a) V (fX7_note_I (upd A 0 0) T D N V I K B ) K B) R O H := g_st (mS_u27 _ _ _ _ _ _ _ _ _ _) hG
      refine lv_aload_n hx hb dX7_addWagon_51 rfl (lv_at hl 0 rfl) ?_
      refine gM_getr hx hb hts in_X7 hown hK hL hG 5 (by decide) rfl hL.2.2.2.1 k_1 (fun _ h => h) dX7_addWagon_52 ?_
      refine lv_iconst (v := 2) hx hb dX7_addWagon_55 (by decide) ?_
      refine gm_ald hx hb hK hG (hL.1 486 (by decide) (by decide)) (show gC 486 = (9, 27, 0) from rfl) (show gLen 486 = 131 from rfl) (by decide) (j := 2) rfl (by omega) (v := (fX7_wagonOn_P N a) 2) rfl dX7_addWagon_56 ?_
      refine lv_iconst (v := 1) hx hb dX7_addWagon_57 (by decide) ?_
      refine lv_isub hx hb dX7_addWagon_58 ?_
      exact g_iret hx hb hrt hlocks hS hG (by unfold fX7_addWagon_v; rw [if_neg c_1, if_neg c_2]) (mS_c (by unfold fX7_addWagon_A; rw [if_neg c_1, if_neg c_2]) rfl rfl (by unfold fX7_addWagon_N; rw [if_neg c_1, if_neg c_2]) rfl (by unfold fX7_addWagon_I; rw [if_neg c_1, if_neg c_2]) rfl rfl) dX7_addWagon_59
    · --F
      refine lv_iconst (v := 2) hx hb dX7_addWagon_26 (by decide) ?_
      refine lv_goto (tgt := 31) hx hb dX7_addWagon_27 (by decide) ?_
      refine g_callV (As := [.int 2]) (rest := []) (st1 := [.int 1]) hF (mX7_refused_l M R O hL A T D N V I K B 2 1 (by decide)) (cwV 1 hts gX7_addWagon_X7_refused rfl rfl rfl (by decide +kernel) ⟨Nat.le_of_ble_eq_true rfl, Nat.le_of_ble_eq_true rfl⟩) hK hZ hG hS (hL.1 483 (by decide) (by decide)) (show gC 483 = (7, 24, 0) from rfl) (by decide) rfl rfl hl.1 (Nat.le_of_ble_eq_true rfl) dX7_addWagon_31 ⟨Nat.zero_le _, Nat.zero_le _⟩ rfl rfl (fun H locs hG hS => ?_)
      refine lv_if_eq (tgt := 39) hx hb dX7_addWagon_34 (by decide) (fun c_4 => absurd c_4 (by decide)) (fun c_4 => ?_)
      refine lv_iconst (v := 0) hx hb dX7_addWagon_37 (by decide) ?_
      exact g_iret hx hb hrt hlocks hS hG (by unfold fX7_addWagon_v; rw [if_neg c_1, if_pos c_2]) (mS_c (by unfold fX7_addWagon_A; rw [if_neg c_1, if_pos c_2]) rfl rfl (by unfold fX7_addWagon_N; rw [if_neg c_1, if_pos c_2]) rfl (by unfold fX7_addWagon_I; rw [if_neg c_1, if_pos c_2]) rfl rfl) dX7_addWagon_38
  · --F
    refine lv_iconst (v := 1) hx hb dX7_addWagon_12 (by decide) ?_
    refine lv_goto (tgt := 31) hx hb dX7_addWagon_13 (by decide) ?_
    refine g_callV (As := [.int 1]) (rest := []) (st1 := [.int 1]) hF (mX7_refused_l M R O hL A T D N V I K B 1 1 (by decide)) (cwV 1 hts gX7_addWagon_X7_refused rfl rfl rfl (by decide +kernel) ⟨Nat.le_of_ble_eq_true rfl, Nat.le_of_ble_eq_true rfl⟩) hK hZ hG hS (hL.1 483 (by decide) (by decide)) (show gC 483 = (7, 24, 0) from rfl) (by decide) rfl rfl hl.1 (Nat.le_of_ble_eq_true rfl) dX7_addWagon_31 ⟨Nat.zero_le _, Nat.zero_le _⟩ rfl rfl (fun H locs hG hS => ?_)
    refine lv_if_eq (tgt := 39) hx hb dX7_addWagon_34 (by decide) (fun c_5 => absurd c_5 (by decide)) (fun c_5 => ?_)
    refine lv_iconst (v := 0) hx hb dX7_addWagon_37 (by decide) ?_
    exact g_iret hx hb hrt hlocks hS hG (by unfold fX7_addWagon_v; rw [if_pos c_1]) (mS_c (by unfold fX7_addWagon_A; rw [if_pos c_1]) rfl rfl (by unfold fX7_addWagon_N; rw [if_pos c_1]) rfl (by unfold fX7_addWagon_I; rw [if_pos c_1]) rfl rfl) dX7_addWagon_38

def fX7_setSurface_v (A T D N V I K B : Nat → Int32) (a d : Int32) : Int32 := if (fX7_isSegment_v N a) = 0 then 0 else if (fX7_in_v d.toInt64 0 2) = 0 then 0 else N (12 + 7 * a.toNatClampNeg)
def fX7_setSurface_A (A T D N V I K B : Nat → Int32) (a d : Int32) : Nat → Int32 := if (fX7_isSegment_v N a) = 0 then upd A 0 1 else if (fX7_in_v d.toInt64 0 2) = 0 then upd A 0 2 else fX7_note_A (upd A 0 0) T D N V I K B 
def fX7_setSurface_N (A T D N V I K B : Nat → Int32) (a d : Int32) : Nat → Int32 := if (fX7_isSegment_v N a) = 0 then N else if (fX7_in_v d.toInt64 0 2) = 0 then N else upd N (12 + 7 * a.toNatClampNeg) d
def fX7_setSurface_I (A T D N V I K B : Nat → Int32) (a d : Int32) : Nat → Int32 := if (fX7_isSegment_v N a) = 0 then I else if (fX7_in_v d.toInt64 0 2) = 0 then I else fX7_note_I (upd A 0 0) T D N V I K B 
set_option maxHeartbeats 4000000 in
set_option maxRecDepth 100000 in
theorem mX7_setSurface {l : Launch} {Γ : gX} (M : Nat → Nat → Int32) (R : Nat → Nat → Option Nat) (O : Int64) (hL : LM Γ R) (A T D N V I K B : Nat → Int32) (a d : Int32) (hN : WS N) (hA : A 8 = nI (A 8).toNatClampNeg) (hA14 : (A 8).toNatClampNeg ≤ 14) : gMet l Γ yX7_setSurface wsX7_setSurface 2 46 [.ref (gad Γ 483), .int a, .int d] (mS M A T D N V I K B) R O (some (.int (fX7_setSurface_v A T D N V I K B a d))) (mS M (fX7_setSurface_A A T D N V I K B a d) T D (fX7_setSurface_N A T D N V I K B a d) V (fX7_setSurface_I A T D N V I K B a d) K B) R O := by
  refine g_start (cc := cX7_setSurface) (maxL := 4) (ret := (some .int)) (by decide) rfl (Nat.le_of_ble_eq_true rfl) ?_
  intro p e s m below meth c ls hx hb hml hrt hts hown hlocks hname hK hZ hG hS hl
  have hl : lv_has ls 4 [(0, .ref (gad Γ 483)), (1, .int a), (2, .int d)] := hl
  have hown : s.vm.findClass RX7 = some m.cls := hown
  have hF : CallFix p m c cX7_setSurface 4 s _ wsX7_setSurface RX7 := ⟨hx, hb, hml, hown, hts⟩
  have k_1 : (Cond.fieldLink RX7 16 "RoadDustModel" "now" "[I").before _ s = true := hts _ (by decide +kernel)
  have in_X7 : ∀ w ∈ wsX70, w ∈ wsX7_setSurface := by decide +kernel
  have k_3 : (Cond.constantLong RX7 158 (2)).before _ s = true := hts _ (by decide +kernel)
  have n0 := hN.1.2
  have n1 := hN.2.1.2
  have n2 := hN.2.2.1.2
  refine lv_aload_n hx hb dX7_setSurface_0 rfl (lv_at hl 0 rfl) ?_
  refine lv_aload_n hx hb dX7_setSurface_1 rfl (lv_at hl 0 rfl) ?_
  refine gM_getr hx hb hts in_X7 hown hK hL hG 5 (by decide) rfl hL.2.2.2.1 k_1 (fun _ h => h) dX7_setSurface_2 ?_
  refine lv_iload_n hx hb dX7_setSurface_5 rfl (lv_at hl 1 rfl) ?_
  refine g_callS (As := [.ref (gad Γ 486), .int a]) (rest := [.ref (gad Γ 483)]) (st1 := [.int (fX7_isSegment_v N a), .ref (gad Γ 483)]) hF (mX7_isSegment (mS M A T D N V I K B) R O (hL.1 486 (by decide) (by decide)) (show gC 486 = (9, 27, 0) from rfl) (show gLen 486 = 131 from rfl) N a) (va_cwS 2 hts gX7_setSurface_X7_isSegment rfl rfl rfl (by decide +kernel) ⟨Nat.le_of_ble_eq_true rfl, Nat.le_of_ble_eq_true rfl⟩) hK hZ (g_st (show _ = va_up (mS M A T D N V I K B) 27 N from (mS_u27 _ _ _ _ _ _ _ _ _ _).symm) hG) hS rfl hl.1 (Nat.le_of_ble_eq_true rfl) dX7_setSurface_6 ⟨Nat.zero_le _, Nat.zero_le _⟩ rfl rfl (fun H locs hG hS => ?_)
  replace hG : GH Γ (mS M A T D N V I K B) R O H := g_st (mS_u27 _ _ _ _ _ _ _ _ _ _) hG
  refine lv_if_ne (tgt := 16) hx hb dX7_setSurface_9 (by decide) (fun c_1 => ?_) (fun c_1 => ?_)
  · --T
    refine lv_iload_n hx hb dX7_setSurface_16 rfl (lv_at hl 2 rfl) ?_
    refine lv_i2l hx hb dX7_setSurface_17 rfl ?_
    refine lv_lconst (v := 0) hx hb dX7_setSurface_18 (by decide) ?_
    refine lv_ldc2 hx hb hown k_3 dX7_setSurface_19 ?_
    refine g_callS (As := [.long d.toInt64, .long 0, .long 2]) (rest := [.ref (gad Γ 483)]) (st1 := [.int (fX7_in_v d.toInt64 0 2), .ref (gad Γ 483)]) hF (mX7_in _ R O d.toInt64 0 2) (va_cwS 3 hts gX7_setSurface_X7_in rfl rfl rfl (by decide +kernel) ⟨Nat.le_of_ble_eq_true rfl, Nat.le_of_ble_eq_true rfl⟩) hK hZ hG hS rfl hl.1 (Nat.le_of_ble_eq_true rfl) dX7_setSurface_22 ⟨Nat.zero_le _, Nat.zero_le _⟩ rfl rfl (fun H locs hG hS => ?_)
    refine lv_if_ne (tgt := 32) hx hb dX7_setSurface_25 (by decide) (fun c_2 => ?_) (fun c_2 => ?_)
    · --T
      refine lv_iconst (v := 0) hx hb dX7_setSurface_32 (by decide) ?_
      refine g_callV (As := [.int 0]) (rest := []) (st1 := [.int 0]) hF (mX7_refused_l M R O hL A T D N V I K B 0 0 (by decide)) (cwV 1 hts gX7_setSurface_X7_refused rfl rfl rfl (by decide +kernel) ⟨Nat.le_of_ble_eq_true rfl, Nat.le_of_ble_eq_true rfl⟩) hK hZ hG hS (hL.1 483 (by decide) (by decide)) (show gC 483 = (7, 24, 0) from rfl) (by decide) rfl rfl hl.1 (Nat.le_of_ble_eq_true rfl) dX7_setSurface_33 ⟨Nat.zero_le _, Nat.zero_le _⟩ rfl rfl (fun H locs hG hS => ?_)
      refine lv_if_eq (tgt := 41) hx hb dX7_setSurface_36 (by decide) (fun c_3 => ?_) (fun c_3 => absurd (by decide) c_3)
      have q_1 := (isPl hN.1.1 (by omega) c_1).2
      refine lv_aload_n hx hb dX7_setSurface_41 rfl (lv_at hl 0 rfl) ?_
      refine g_callV (As := []) (rest := []) (st1 := []) hF (mX7_note M R O hL (upd A 0 0) T D N V I K B  hA hA14) (cwV 0 hts gX7_setSurface_X7_note rfl rfl rfl (by decide +kernel) ⟨Nat.le_of_ble_eq_true rfl, Nat.le_of_ble_eq_true rfl⟩) hK hZ hG hS (hL.1 483 (by decide) (by decide)) (show gC 483 = (7, 24, 0) from rfl) (by decide) rfl rfl hl.1 (Nat.le_of_ble_eq_true rfl) dX7_setSurface_42 ⟨Nat.zero_le _, Nat.zero_le _⟩ rfl rfl (fun H locs hG hS => ?_)
      refine lv_aload_n hx hb dX7_setSurface_45 rfl (lv_at hl 0 rfl) ?_
      refine gM_getr hx hb hts in_X7 hown hK hL hG 5 (by decide) rfl hL.2.2.2.1 k_1 (fun _ h => h) dX7_setSurface_46 ?_
      refine lv_iload_n hx hb dX7_setSurface_49 rfl (lv_at hl 1 rfl) ?_
      refine g_callS (As := [.int a]) (rest := [.ref (gad Γ 486)]) (st1 := [.int (nI (12 + 7 * a.toNatClampNeg)), .ref (gad Γ 486)]) hF (mX7_segmentAt _ R O a.toNatClampNeg ((isPl hN.1.1 (by omega) c_1).1)) (va_cwS 1 hts gX7_setSurface_X7_segmentAt rfl rfl rfl (by decide +kernel) ⟨Nat.le_of_ble_eq_true rfl, Nat.le_of_ble_eq_true rfl⟩) hK hZ hG hS rfl hl.1 (Nat.le_of_ble_eq_true rfl) dX7_setSurface_50 ⟨Nat.zero_le _, Nat.zero_le _⟩ rfl rfl (fun H locs hG hS => ?_)
      refine gm_ald hx hb hK hG (hL.1 486 (by decide) (by decide)) (show gC 486 = (9, 27, 0) from rfl) (show gLen 486 = 131 from rfl) (by decide) (j := 12 + 7 * a.toNatClampNeg) rfl (by omega) (v := N (12 + 7 * a.toNatClampNeg)) rfl dX7_setSurface_53 ?_
      refine lv_istore_n (lv' := [(3, .int (N (12 + 7 * a.toNatClampNeg))), (0, .ref (gad Γ 483)), (1, .int a), (2, .int d)]) hx hb dX7_setSurface_54 rfl hl (by decide) rfl (fun ls hl => ?_)
      refine lv_aload_n hx hb dX7_setSurface_55 rfl (lv_at hl 1 rfl) ?_
      refine gM_getr hx hb hts in_X7 hown hK hL hG 5 (by decide) rfl hL.2.2.2.1 k_1 (fun _ h => h) dX7_setSurface_56 ?_
      refine lv_iload_n hx hb dX7_setSurface_59 rfl (lv_at hl 2 rfl) ?_
      refine g_callS (As := [.int a]) (rest := [.ref (gad Γ 486)]) (st1 := [.int (nI (12 + 7 * a.toNatClampNeg)), .ref (gad Γ 486)]) hF (mX7_segmentAt _ R O a.toNatClampNeg ((isPl hN.1.1 (by omega) c_1).1)) (va_cwS 1 hts gX7_setSurface_X7_segmentAt rfl rfl rfl (by decide +kernel) ⟨Nat.le_of_ble_eq_true rfl, Nat.le_of_ble_eq_true rfl⟩) hK hZ hG hS rfl hl.1 (Nat.le_of_ble_eq_true rfl) dX7_setSurface_60 ⟨Nat.zero_le _, Nat.zero_le _⟩ rfl rfl (fun H locs hG hS => ?_)
      refine lv_iload_n hx hb dX7_setSurface_63 rfl (lv_at hl 3 rfl) ?_
      refine gm_ast (M2 := mS M (fX7_note_A (upd A 0 0) T D N V I K B ) T D (upd N (12 + 7 * a.toNatClampNeg) d) V (fX7_note_I (upd A 0 0) T D N V I K B ) K B) hx hb hK hG hS (hL.1 486 (by decide) (by decide)) (show gC 486 = (9, 27, 0) from rfl) (show gLen 486 = 131 from rfl) (by decide) (j := 12 + 7 * a.toNatClampNeg) rfl (by omega) (mS_p27 _ _ _ _ _ _ _ _ _ _ _) dX7_setSurface_64 (fun H locs hG hS => ?_)
      refine lv_iload_n hx hb dX7_setSurface_65 rfl (lv_at hl 0 rfl) ?_
      exact g_iret hx hb hrt hlocks hS hG (by unfold fX7_setSurface_v; rw [if_neg c_1, if_neg c_2]) (mS_c (by unfold fX7_setSurface_A; rw [if_neg c_1, if_neg c_2]) rfl rfl (by unfold fX7_setSurface_N; rw [if_neg c_1, if_neg c_2]) rfl (by unfold fX7_setSurface_I; rw [if_neg c_1, if_neg c_2]) rfl rfl) dX7_setSurface_66
    · --F
      refine lv_iconst (v := 2) hx hb dX7_setSurface_28 (by decide) ?_
      refine lv_goto (tgt := 33) hx hb dX7_setSurface_29 (by decide) ?_
      refine g_callV (As := [.int 2]) (rest := []) (st1 := [.int 1]) hF (mX7_refused_l M R O hL A T D N V I K B 2 1 (by decide)) (cwV 1 hts gX7_setSurface_X7_refused rfl rfl rfl (by decide +kernel) ⟨Nat.le_of_ble_eq_true rfl, Nat.le_of_ble_eq_true rfl⟩) hK hZ hG hS (hL.1 483 (by decide) (by decide)) (show gC 483 = (7, 24, 0) from rfl) (by decide) rfl rfl hl.1 (Nat.le_of_ble_eq_true rfl) dX7_setSurface_33 ⟨Nat.zero_le _, Nat.zero_le _⟩ rfl rfl (fun H locs hG hS => ?_)
      refine lv_if_eq (tgt := 41) hx hb dX7_setSurface_36 (by decide) (fun c_4 => absurd c_4 (by decide)) (fun c_4 => ?_)
      refine lv_iconst (v := 0) hx hb dX7_setSurface_39 (by decide) ?_
      exact g_iret hx hb hrt hlocks hS hG (by unfold fX7_setSurface_v; rw [if_neg c_1, if_pos c_2]) (mS_c (by unfold fX7_setSurface_A; rw [if_neg c_1, if_pos c_2]) rfl rfl (by unfold fX7_setSurface_N; rw [if_neg c_1, if_pos c_2]) rfl (by unfold fX7_setSurface_I; rw [if_neg c_1, if_pos c_2]) rfl rfl) dX7_setSurface_40
  · --F
    refine lv_iconst (v := 1) hx hb dX7_setSurface_12 (by decide) ?_
    refine lv_goto (tgt := 33) hx hb dX7_setSurface_13 (by decide) ?_
    refine g_callV (As := [.int 1]) (rest := []) (st1 := [.int 1]) hF (mX7_refused_l M R O hL A T D N V I K B 1 1 (by decide)) (cwV 1 hts gX7_setSurface_X7_refused rfl rfl rfl (by decide +kernel) ⟨Nat.le_of_ble_eq_true rfl, Nat.le_of_ble_eq_true rfl⟩) hK hZ hG hS (hL.1 483 (by decide) (by decide)) (show gC 483 = (7, 24, 0) from rfl) (by decide) rfl rfl hl.1 (Nat.le_of_ble_eq_true rfl) dX7_setSurface_33 ⟨Nat.zero_le _, Nat.zero_le _⟩ rfl rfl (fun H locs hG hS => ?_)
    refine lv_if_eq (tgt := 41) hx hb dX7_setSurface_36 (by decide) (fun c_5 => absurd c_5 (by decide)) (fun c_5 => ?_)
    refine lv_iconst (v := 0) hx hb dX7_setSurface_39 (by decide) ?_
    exact g_iret hx hb hrt hlocks hS hG (by unfold fX7_setSurface_v; rw [if_pos c_1]) (mS_c (by unfold fX7_setSurface_A; rw [if_pos c_1]) rfl rfl (by unfold fX7_setSurface_N; rw [if_pos c_1]) rfl (by unfold fX7_setSurface_I; rw [if_pos c_1]) rfl rfl) dX7_setSurface_40

def fX7_setLimit_v (A T D N V I K B : Nat → Int32) (a d : Int32) : Int32 := if (fX7_isSegment_v N a) = 0 then 0 else if (fX7_in_v d.toInt64 1 5) = 0 then 0 else if d ≤ (5 - (N ((12 + 7 * a.toNatClampNeg) + 2))) then N ((12 + 7 * a.toNatClampNeg) + 1) else 0
def fX7_setLimit_A (A T D N V I K B : Nat → Int32) (a d : Int32) : Nat → Int32 := if (fX7_isSegment_v N a) = 0 then upd A 0 1 else if (fX7_in_v d.toInt64 1 5) = 0 then upd A 0 2 else if d ≤ (5 - (N ((12 + 7 * a.toNatClampNeg) + 2))) then fX7_note_A (upd A 0 0) T D N V I K B  else upd A 0 3
def fX7_setLimit_N (A T D N V I K B : Nat → Int32) (a d : Int32) : Nat → Int32 := if (fX7_isSegment_v N a) = 0 then N else if (fX7_in_v d.toInt64 1 5) = 0 then N else if d ≤ (5 - (N ((12 + 7 * a.toNatClampNeg) + 2))) then upd N ((12 + 7 * a.toNatClampNeg) + 1) d else N
def fX7_setLimit_I (A T D N V I K B : Nat → Int32) (a d : Int32) : Nat → Int32 := if (fX7_isSegment_v N a) = 0 then I else if (fX7_in_v d.toInt64 1 5) = 0 then I else if d ≤ (5 - (N ((12 + 7 * a.toNatClampNeg) + 2))) then fX7_note_I (upd A 0 0) T D N V I K B  else I
set_option maxHeartbeats 4000000 in
set_option maxRecDepth 100000 in
theorem mX7_setLimit {l : Launch} {Γ : gX} (M : Nat → Nat → Int32) (R : Nat → Nat → Option Nat) (O : Int64) (hL : LM Γ R) (A T D N V I K B : Nat → Int32) (a d : Int32) (hN : WS N) (hA : A 8 = nI (A 8).toNatClampNeg) (hA14 : (A 8).toNatClampNeg ≤ 14) : gMet l Γ yX7_setLimit wsX7_setLimit 2 46 [.ref (gad Γ 483), .int a, .int d] (mS M A T D N V I K B) R O (some (.int (fX7_setLimit_v A T D N V I K B a d))) (mS M (fX7_setLimit_A A T D N V I K B a d) T D (fX7_setLimit_N A T D N V I K B a d) V (fX7_setLimit_I A T D N V I K B a d) K B) R O := by
  refine g_start (cc := cX7_setLimit) (maxL := 4) (ret := (some .int)) (by decide) rfl (Nat.le_of_ble_eq_true rfl) ?_
  intro p e s m below meth c ls hx hb hml hrt hts hown hlocks hname hK hZ hG hS hl
  have hl : lv_has ls 4 [(0, .ref (gad Γ 483)), (1, .int a), (2, .int d)] := hl
  have hown : s.vm.findClass RX7 = some m.cls := hown
  have hF : CallFix p m c cX7_setLimit 4 s _ wsX7_setLimit RX7 := ⟨hx, hb, hml, hown, hts⟩
  have k_1 : (Cond.fieldLink RX7 16 "RoadDustModel" "now" "[I").before _ s = true := hts _ (by decide +kernel)
  have in_X7 : ∀ w ∈ wsX70, w ∈ wsX7_setLimit := by decide +kernel
  have k_3 : (Cond.constantLong RX7 163 (5)).before _ s = true := hts _ (by decide +kernel)
  have n0 := hN.1.2
  have n1 := hN.2.1.2
  have n2 := hN.2.2.1.2
  refine lv_aload_n hx hb dX7_setLimit_0 rfl (lv_at hl 0 rfl) ?_
  refine lv_aload_n hx hb dX7_setLimit_1 rfl (lv_at hl 0 rfl) ?_
  refine gM_getr hx hb hts in_X7 hown hK hL hG 5 (by decide) rfl hL.2.2.2.1 k_1 (fun _ h => h) dX7_setLimit_2 ?_
  refine lv_iload_n hx hb dX7_setLimit_5 rfl (lv_at hl 1 rfl) ?_
  refine g_callS (As := [.ref (gad Γ 486), .int a]) (rest := [.ref (gad Γ 483)]) (st1 := [.int (fX7_isSegment_v N a), .ref (gad Γ 483)]) hF (mX7_isSegment (mS M A T D N V I K B) R O (hL.1 486 (by decide) (by decide)) (show gC 486 = (9, 27, 0) from rfl) (show gLen 486 = 131 from rfl) N a) (va_cwS 2 hts gX7_setLimit_X7_isSegment rfl rfl rfl (by decide +kernel) ⟨Nat.le_of_ble_eq_true rfl, Nat.le_of_ble_eq_true rfl⟩) hK hZ (g_st (show _ = va_up (mS M A T D N V I K B) 27 N from (mS_u27 _ _ _ _ _ _ _ _ _ _).symm) hG) hS rfl hl.1 (Nat.le_of_ble_eq_true rfl) dX7_setLimit_6 ⟨Nat.zero_le _, Nat.zero_le _⟩ rfl rfl (fun H locs hG hS => ?_)
  replace hG : GH Γ (mS M A T D N V I K B) R O H := g_st (mS_u27 _ _ _ _ _ _ _ _ _ _) hG
  refine lv_if_ne (tgt := 16) hx hb dX7_setLimit_9 (by decide) (fun c_1 => ?_) (fun c_1 => ?_)
  · --T
    refine lv_iload_n hx hb dX7_setLimit_16 rfl (lv_at hl 2 rfl) ?_
    refine lv_i2l hx hb dX7_setLimit_17 rfl ?_
    refine lv_lconst (v := 1) hx hb dX7_setLimit_18 (by decide) ?_
    refine lv_ldc2 hx hb hown k_3 dX7_setLimit_19 ?_
    refine g_callS (As := [.long d.toInt64, .long 1, .long 5]) (rest := [.ref (gad Γ 483)]) (st1 := [.int (fX7_in_v d.toInt64 1 5), .ref (gad Γ 483)]) hF (mX7_in _ R O d.toInt64 1 5) (va_cwS 3 hts gX7_setLimit_X7_in rfl rfl rfl (by decide +kernel) ⟨Nat.le_of_ble_eq_true rfl, Nat.le_of_ble_eq_true rfl⟩) hK hZ hG hS rfl hl.1 (Nat.le_of_ble_eq_true rfl) dX7_setLimit_22 ⟨Nat.zero_le _, Nat.zero_le _⟩ rfl rfl (fun H locs hG hS => ?_)
    refine lv_if_ne (tgt := 32) hx hb dX7_setLimit_25 (by decide) (fun c_2 => ?_) (fun c_2 => ?_)
    · --T
      have q_1 := (isPl hN.1.1 (by omega) c_1).2
      refine lv_iload_n hx hb dX7_setLimit_32 rfl (lv_at hl 2 rfl) ?_
      refine lv_iconst (v := 5) hx hb dX7_setLimit_33 (by decide) ?_
      refine lv_aload_n hx hb dX7_setLimit_34 rfl (lv_at hl 0 rfl) ?_
      refine gM_getr hx hb hts in_X7 hown hK hL hG 5 (by decide) rfl hL.2.2.2.1 k_1 (fun _ h => h) dX7_setLimit_35 ?_
      refine lv_iload_n hx hb dX7_setLimit_38 rfl (lv_at hl 1 rfl) ?_
      refine g_callS (As := [.int a]) (rest := [.ref (gad Γ 486), .int 5, .int d, .ref (gad Γ 483)]) (st1 := [.int (nI (12 + 7 * a.toNatClampNeg)), .ref (gad Γ 486), .int 5, .int d, .ref (gad Γ 483)]) hF (mX7_segmentAt _ R O a.toNatClampNeg ((isPl hN.1.1 (by omega) c_1).1)) (va_cwS 1 hts gX7_setLimit_X7_segmentAt rfl rfl rfl (by decide +kernel) ⟨Nat.le_of_ble_eq_true rfl, Nat.le_of_ble_eq_true rfl⟩) hK hZ hG hS rfl hl.1 (Nat.le_of_ble_eq_true rfl) dX7_setLimit_39 ⟨Nat.zero_le _, Nat.zero_le _⟩ rfl rfl (fun H locs hG hS => ?_)
      refine lv_iconst (v := 2) hx hb dX7_setLimit_42 (by decide) ?_
      refine lv_iadd hx hb dX7_setLimit_43 ?_
      refine g_top (show _ = nI ((12 + 7 * a.toNatClampNeg) + 2) from nI_add _ _) ?_
      refine gm_ald hx hb hK hG (hL.1 486 (by decide) (by decide)) (show gC 486 = (9, 27, 0) from rfl) (show gLen 486 = 131 from rfl) (by decide) (j := (12 + 7 * a.toNatClampNeg) + 2) rfl (by omega) (v := N ((12 + 7 * a.toNatClampNeg) + 2)) rfl dX7_setLimit_44 ?_
      refine lv_isub hx hb dX7_setLimit_45 ?_
      refine lv_icmp_le (tgt := 53) hx hb dX7_setLimit_46 (by decide) (fun c_3 => ?_) (fun c_3 => ?_)
      · --T
        refine lv_iconst (v := 0) hx hb dX7_setLimit_53 (by decide) ?_
        refine g_callV (As := [.int 0]) (rest := []) (st1 := [.int 0]) hF (mX7_refused_l M R O hL A T D N V I K B 0 0 (by decide)) (cwV 1 hts gX7_setLimit_X7_refused rfl rfl rfl (by decide +kernel) ⟨Nat.le_of_ble_eq_true rfl, Nat.le_of_ble_eq_true rfl⟩) hK hZ hG hS (hL.1 483 (by decide) (by decide)) (show gC 483 = (7, 24, 0) from rfl) (by decide) rfl rfl hl.1 (Nat.le_of_ble_eq_true rfl) dX7_setLimit_54 ⟨Nat.zero_le _, Nat.zero_le _⟩ rfl rfl (fun H locs hG hS => ?_)
        refine lv_if_eq (tgt := 62) hx hb dX7_setLimit_57 (by decide) (fun c_4 => ?_) (fun c_4 => absurd (by decide) c_4)
        refine lv_aload_n hx hb dX7_setLimit_62 rfl (lv_at hl 0 rfl) ?_
        refine g_callV (As := []) (rest := []) (st1 := []) hF (mX7_note M R O hL (upd A 0 0) T D N V I K B  hA hA14) (cwV 0 hts gX7_setLimit_X7_note rfl rfl rfl (by decide +kernel) ⟨Nat.le_of_ble_eq_true rfl, Nat.le_of_ble_eq_true rfl⟩) hK hZ hG hS (hL.1 483 (by decide) (by decide)) (show gC 483 = (7, 24, 0) from rfl) (by decide) rfl rfl hl.1 (Nat.le_of_ble_eq_true rfl) dX7_setLimit_63 ⟨Nat.zero_le _, Nat.zero_le _⟩ rfl rfl (fun H locs hG hS => ?_)
        refine lv_aload_n hx hb dX7_setLimit_66 rfl (lv_at hl 0 rfl) ?_
        refine gM_getr hx hb hts in_X7 hown hK hL hG 5 (by decide) rfl hL.2.2.2.1 k_1 (fun _ h => h) dX7_setLimit_67 ?_
        refine lv_iload_n hx hb dX7_setLimit_70 rfl (lv_at hl 1 rfl) ?_
        refine g_callS (As := [.int a]) (rest := [.ref (gad Γ 486)]) (st1 := [.int (nI (12 + 7 * a.toNatClampNeg)), .ref (gad Γ 486)]) hF (mX7_segmentAt _ R O a.toNatClampNeg ((isPl hN.1.1 (by omega) c_1).1)) (va_cwS 1 hts gX7_setLimit_X7_segmentAt rfl rfl rfl (by decide +kernel) ⟨Nat.le_of_ble_eq_true rfl, Nat.le_of_ble_eq_true rfl⟩) hK hZ hG hS rfl hl.1 (Nat.le_of_ble_eq_true rfl) dX7_setLimit_71 ⟨Nat.zero_le _, Nat.zero_le _⟩ rfl rfl (fun H locs hG hS => ?_)
        refine lv_iconst (v := 1) hx hb dX7_setLimit_74 (by decide) ?_
        refine lv_iadd hx hb dX7_setLimit_75 ?_
        refine g_top (show _ = nI ((12 + 7 * a.toNatClampNeg) + 1) from nI_add _ _) ?_
        refine gm_ald hx hb hK hG (hL.1 486 (by decide) (by decide)) (show gC 486 = (9, 27, 0) from rfl) (show gLen 486 = 131 from rfl) (by decide) (j := (12 + 7 * a.toNatClampNeg) + 1) rfl (by omega) (v := N ((12 + 7 * a.toNatClampNeg) + 1)) rfl dX7_setLimit_76 ?_
        refine lv_istore_n (lv' := [(3, .int (N ((12 + 7 * a.toNatClampNeg) + 1))), (0, .ref (gad Γ 483)), (1, .int a), (2, .int d)]) hx hb dX7_setLimit_77 rfl hl (by decide) rfl (fun ls hl => ?_)
        refine lv_aload_n hx hb dX7_setLimit_78 rfl (lv_at hl 1 rfl) ?_
        refine gM_getr hx hb hts in_X7 hown hK hL hG 5 (by decide) rfl hL.2.2.2.1 k_1 (fun _ h => h) dX7_setLimit_79 ?_
        refine lv_iload_n hx hb dX7_setLimit_82 rfl (lv_at hl 2 rfl) ?_
        refine g_callS (As := [.int a]) (rest := [.ref (gad Γ 486)]) (st1 := [.int (nI (12 + 7 * a.toNatClampNeg)), .ref (gad Γ 486)]) hF (mX7_segmentAt _ R O a.toNatClampNeg ((isPl hN.1.1 (by omega) c_1).1)) (va_cwS 1 hts gX7_setLimit_X7_segmentAt rfl rfl rfl (by decide +kernel) ⟨Nat.le_of_ble_eq_true rfl, Nat.le_of_ble_eq_true rfl⟩) hK hZ hG hS rfl hl.1 (Nat.le_of_ble_eq_true rfl) dX7_setLimit_83 ⟨Nat.zero_le _, Nat.zero_le _⟩ rfl rfl (fun H locs hG hS => ?_)
        refine lv_iconst (v := 1) hx hb dX7_setLimit_86 (by decide) ?_
        refine lv_iadd hx hb dX7_setLimit_87 ?_
        refine g_top (show _ = nI ((12 + 7 * a.toNatClampNeg) + 1) from nI_add _ _) ?_
        refine lv_iload_n hx hb dX7_setLimit_88 rfl (lv_at hl 3 rfl) ?_
        refine gm_ast (M2 := mS M (fX7_note_A (upd A 0 0) T D N V I K B ) T D (upd N ((12 + 7 * a.toNatClampNeg) + 1) d) V (fX7_note_I (upd A 0 0) T D N V I K B ) K B) hx hb hK hG hS (hL.1 486 (by decide) (by decide)) (show gC 486 = (9, 27, 0) from rfl) (show gLen 486 = 131 from rfl) (by decide) (j := (12 + 7 * a.toNatClampNeg) + 1) rfl (by omega) (mS_p27 _ _ _ _ _ _ _ _ _ _ _) dX7_setLimit_89 (fun H locs hG hS => ?_)
        refine lv_iload_n hx hb dX7_setLimit_90 rfl (lv_at hl 0 rfl) ?_
        exact g_iret hx hb hrt hlocks hS hG (by unfold fX7_setLimit_v; rw [if_neg c_1, if_neg c_2, if_pos c_3]) (mS_c (by unfold fX7_setLimit_A; rw [if_neg c_1, if_neg c_2, if_pos c_3]) rfl rfl (by unfold fX7_setLimit_N; rw [if_neg c_1, if_neg c_2, if_pos c_3]) rfl (by unfold fX7_setLimit_I; rw [if_neg c_1, if_neg c_2, if_pos c_3]) rfl rfl) dX7_setLimit_91
      · --F
        refine lv_iconst (v := 3) hx hb dX7_setLimit_49 (by decide) ?_
        refine lv_goto (tgt := 54) hx hb dX7_setLimit_50 (by decide) ?_
        refine g_callV (As := [.int 3]) (rest := []) (st1 := [.int 1]) hF (mX7_refused_l M R O hL A T D N V I K B 3 1 (by decide)) (cwV 1 hts gX7_setLimit_X7_refused rfl rfl rfl (by decide +kernel) ⟨Nat.le_of_ble_eq_true rfl, Nat.le_of_ble_eq_true rfl⟩) hK hZ hG hS (hL.1 483 (by decide) (by decide)) (show gC 483 = (7, 24, 0) from rfl) (by decide) rfl rfl hl.1 (Nat.le_of_ble_eq_true rfl) dX7_setLimit_54 ⟨Nat.zero_le _, Nat.zero_le _⟩ rfl rfl (fun H locs hG hS => ?_)
        refine lv_if_eq (tgt := 62) hx hb dX7_setLimit_57 (by decide) (fun c_5 => absurd c_5 (by decide)) (fun c_5 => ?_)
        refine lv_iconst (v := 0) hx hb dX7_setLimit_60 (by decide) ?_
        exact g_iret hx hb hrt hlocks hS hG (by unfold fX7_setLimit_v; rw [if_neg c_1, if_neg c_2, if_neg c_3]) (mS_c (by unfold fX7_setLimit_A; rw [if_neg c_1, if_neg c_2, if_neg c_3]) rfl rfl (by unfold fX7_setLimit_N; rw [if_neg c_1, if_neg c_2, if_neg c_3]) rfl (by unfold fX7_setLimit_I; rw [if_neg c_1, if_neg c_2, if_neg c_3]) rfl rfl) dX7_setLimit_61
    · --F
      refine lv_iconst (v := 2) hx hb dX7_setLimit_28 (by decide) ?_
      refine lv_goto (tgt := 54) hx hb dX7_setLimit_29 (by decide) ?_
      refine g_callV (As := [.int 2]) (rest := []) (st1 := [.int 1]) hF (mX7_refused_l M R O hL A T D N V I K B 2 1 (by decide)) (cwV 1 hts gX7_setLimit_X7_refused rfl rfl rfl (by decide +kernel) ⟨Nat.le_of_ble_eq_true rfl, Nat.le_of_ble_eq_true rfl⟩) hK hZ hG hS (hL.1 483 (by decide) (by decide)) (show gC 483 = (7, 24, 0) from rfl) (by decide) rfl rfl hl.1 (Nat.le_of_ble_eq_true rfl) dX7_setLimit_54 ⟨Nat.zero_le _, Nat.zero_le _⟩ rfl rfl (fun H locs hG hS => ?_)
      refine lv_if_eq (tgt := 62) hx hb dX7_setLimit_57 (by decide) (fun c_6 => absurd c_6 (by decide)) (fun c_6 => ?_)
      refine lv_iconst (v := 0) hx hb dX7_setLimit_60 (by decide) ?_
      exact g_iret hx hb hrt hlocks hS hG (by unfold fX7_setLimit_v; rw [if_neg c_1, if_pos c_2]) (mS_c (by unfold fX7_setLimit_A; rw [if_neg c_1, if_pos c_2]) rfl rfl (by unfold fX7_setLimit_N; rw [if_neg c_1, if_pos c_2]) rfl (by unfold fX7_setLimit_I; rw [if_neg c_1, if_pos c_2]) rfl rfl) dX7_setLimit_61
  · --F
    refine lv_iconst (v := 1) hx hb dX7_setLimit_12 (by decide) ?_
    refine lv_goto (tgt := 54) hx hb dX7_setLimit_13 (by decide) ?_
    refine g_callV (As := [.int 1]) (rest := []) (st1 := [.int 1]) hF (mX7_refused_l M R O hL A T D N V I K B 1 1 (by decide)) (cwV 1 hts gX7_setLimit_X7_refused rfl rfl rfl (by decide +kernel) ⟨Nat.le_of_ble_eq_true rfl, Nat.le_of_ble_eq_true rfl⟩) hK hZ hG hS (hL.1 483 (by decide) (by decide)) (show gC 483 = (7, 24, 0) from rfl) (by decide) rfl rfl hl.1 (Nat.le_of_ble_eq_true rfl) dX7_setLimit_54 ⟨Nat.zero_le _, Nat.zero_le _⟩ rfl rfl (fun H locs hG hS => ?_)
    refine lv_if_eq (tgt := 62) hx hb dX7_setLimit_57 (by decide) (fun c_7 => absurd c_7 (by decide)) (fun c_7 => ?_)
    refine lv_iconst (v := 0) hx hb dX7_setLimit_60 (by decide) ?_
    exact g_iret hx hb hrt hlocks hS hG (by unfold fX7_setLimit_v; rw [if_pos c_1]) (mS_c (by unfold fX7_setLimit_A; rw [if_pos c_1]) rfl rfl (by unfold fX7_setLimit_N; rw [if_pos c_1]) rfl (by unfold fX7_setLimit_I; rw [if_pos c_1]) rfl rfl) dX7_setLimit_61

theorem set_pl {a d : Int32} (h : ¬ fX7_isSetting_v a d = 0) : a = nI a.toNatClampNeg ∧ a.toNatClampNeg < 9 := by
  unfold fX7_isSetting_v at h
  by_cases h5 : a = 5
  · subst h5; exact ⟨rfl, by decide⟩
  · by_cases h6 : a = 6
    · subst h6; exact ⟨rfl, by decide⟩
    · by_cases h7 : a = 7
      · subst h7; exact ⟨rfl, by decide⟩
      · by_cases h8 : a = 8
        · subst h8; exact ⟨rfl, by decide⟩
        · rw [if_neg h5, if_neg h6, if_neg h7, if_neg h8] at h
          exact absurd rfl h
def fX7_set_v (A T D N V I K B : Nat → Int32) (a d : Int32) : Int32 := if (fX7_isSetting_v a d) = 0 then 0 else N a.toNatClampNeg
def fX7_set_A (A T D N V I K B : Nat → Int32) (a d : Int32) : Nat → Int32 := if (fX7_isSetting_v a d) = 0 then upd A 0 1 else fX7_note_A (upd A 0 0) T D N V I K B 
def fX7_set_N (A T D N V I K B : Nat → Int32) (a d : Int32) : Nat → Int32 := if (fX7_isSetting_v a d) = 0 then N else upd N a.toNatClampNeg d
def fX7_set_I (A T D N V I K B : Nat → Int32) (a d : Int32) : Nat → Int32 := if (fX7_isSetting_v a d) = 0 then I else fX7_note_I (upd A 0 0) T D N V I K B 
set_option maxHeartbeats 4000000 in
set_option maxRecDepth 100000 in
theorem mX7_set {l : Launch} {Γ : gX} (M : Nat → Nat → Int32) (R : Nat → Nat → Option Nat) (O : Int64) (hL : LM Γ R) (A T D N V I K B : Nat → Int32) (a d : Int32) (hN : WS N) (hA : A 8 = nI (A 8).toNatClampNeg) (hA14 : (A 8).toNatClampNeg ≤ 14) : gMet l Γ yX7_set wsX7_set 2 46 [.ref (gad Γ 483), .int a, .int d] (mS M A T D N V I K B) R O (some (.int (fX7_set_v A T D N V I K B a d))) (mS M (fX7_set_A A T D N V I K B a d) T D (fX7_set_N A T D N V I K B a d) V (fX7_set_I A T D N V I K B a d) K B) R O := by
  refine g_start (cc := cX7_set) (maxL := 4) (ret := (some .int)) (by decide) rfl (Nat.le_of_ble_eq_true rfl) ?_
  intro p e s m below meth c ls hx hb hml hrt hts hown hlocks hname hK hZ hG hS hl
  have hl : lv_has ls 4 [(0, .ref (gad Γ 483)), (1, .int a), (2, .int d)] := hl
  have hown : s.vm.findClass RX7 = some m.cls := hown
  have hF : CallFix p m c cX7_set 4 s _ wsX7_set RX7 := ⟨hx, hb, hml, hown, hts⟩
  have k_1 : (Cond.fieldLink RX7 16 "RoadDustModel" "now" "[I").before _ s = true := hts _ (by decide +kernel)
  have in_X7 : ∀ w ∈ wsX70, w ∈ wsX7_set := by decide +kernel
  have n0 := hN.1.2
  have n1 := hN.2.1.2
  have n2 := hN.2.2.1.2
  refine lv_aload_n hx hb dX7_set_0 rfl (lv_at hl 0 rfl) ?_
  refine lv_iload_n hx hb dX7_set_1 rfl (lv_at hl 1 rfl) ?_
  refine lv_iload_n hx hb dX7_set_2 rfl (lv_at hl 2 rfl) ?_
  refine g_callS (As := [.int a, .int d]) (rest := [.ref (gad Γ 483)]) (st1 := [.int (fX7_isSetting_v a d), .ref (gad Γ 483)]) hF (mX7_isSetting _ R O a d) (va_cwS 2 hts gX7_set_X7_isSetting rfl rfl rfl (by decide +kernel) ⟨Nat.le_of_ble_eq_true rfl, Nat.le_of_ble_eq_true rfl⟩) hK hZ hG hS rfl hl.1 (Nat.le_of_ble_eq_true rfl) dX7_set_3 ⟨Nat.zero_le _, Nat.zero_le _⟩ rfl rfl (fun H locs hG hS => ?_)
  refine lv_if_eq (tgt := 13) hx hb dX7_set_6 (by decide) (fun c_1 => ?_) (fun c_1 => ?_)
  · --T
    refine lv_iconst (v := 1) hx hb dX7_set_13 (by decide) ?_
    refine g_callV (As := [.int 1]) (rest := []) (st1 := [.int 1]) hF (mX7_refused_l M R O hL A T D N V I K B 1 1 (by decide)) (cwV 1 hts gX7_set_X7_refused rfl rfl rfl (by decide +kernel) ⟨Nat.le_of_ble_eq_true rfl, Nat.le_of_ble_eq_true rfl⟩) hK hZ hG hS (hL.1 483 (by decide) (by decide)) (show gC 483 = (7, 24, 0) from rfl) (by decide) rfl rfl hl.1 (Nat.le_of_ble_eq_true rfl) dX7_set_14 ⟨Nat.zero_le _, Nat.zero_le _⟩ rfl rfl (fun H locs hG hS => ?_)
    refine lv_if_eq (tgt := 22) hx hb dX7_set_17 (by decide) (fun c_2 => absurd c_2 (by decide)) (fun c_2 => ?_)
    refine lv_iconst (v := 0) hx hb dX7_set_20 (by decide) ?_
    exact g_iret hx hb hrt hlocks hS hG (by unfold fX7_set_v; rw [if_pos c_1]) (mS_c (by unfold fX7_set_A; rw [if_pos c_1]) rfl rfl (by unfold fX7_set_N; rw [if_pos c_1]) rfl (by unfold fX7_set_I; rw [if_pos c_1]) rfl rfl) dX7_set_21
  · --F
    refine lv_iconst (v := 0) hx hb dX7_set_9 (by decide) ?_
    refine lv_goto (tgt := 14) hx hb dX7_set_10 (by decide) ?_
    refine g_callV (As := [.int 0]) (rest := []) (st1 := [.int 0]) hF (mX7_refused_l M R O hL A T D N V I K B 0 0 (by decide)) (cwV 1 hts gX7_set_X7_refused rfl rfl rfl (by decide +kernel) ⟨Nat.le_of_ble_eq_true rfl, Nat.le_of_ble_eq_true rfl⟩) hK hZ hG hS (hL.1 483 (by decide) (by decide)) (show gC 483 = (7, 24, 0) from rfl) (by decide) rfl rfl hl.1 (Nat.le_of_ble_eq_true rfl) dX7_set_14 ⟨Nat.zero_le _, Nat.zero_le _⟩ rfl rfl (fun H locs hG hS => ?_)
    refine lv_if_eq (tgt := 22) hx hb dX7_set_17 (by decide) (fun c_3 => ?_) (fun c_3 => absurd (by decide) c_3)
    have q_1 := (set_pl c_1).2
    refine lv_aload_n hx hb dX7_set_22 rfl (lv_at hl 0 rfl) ?_
    refine g_callV (As := []) (rest := []) (st1 := []) hF (mX7_note M R O hL (upd A 0 0) T D N V I K B  hA hA14) (cwV 0 hts gX7_set_X7_note rfl rfl rfl (by decide +kernel) ⟨Nat.le_of_ble_eq_true rfl, Nat.le_of_ble_eq_true rfl⟩) hK hZ hG hS (hL.1 483 (by decide) (by decide)) (show gC 483 = (7, 24, 0) from rfl) (by decide) rfl rfl hl.1 (Nat.le_of_ble_eq_true rfl) dX7_set_23 ⟨Nat.zero_le _, Nat.zero_le _⟩ rfl rfl (fun H locs hG hS => ?_)
    refine lv_aload_n hx hb dX7_set_26 rfl (lv_at hl 0 rfl) ?_
    refine gM_getr hx hb hts in_X7 hown hK hL hG 5 (by decide) rfl hL.2.2.2.1 k_1 (fun _ h => h) dX7_set_27 ?_
    refine lv_iload_n hx hb dX7_set_30 rfl (lv_at hl 1 rfl) ?_
    refine gm_ald hx hb hK hG (hL.1 486 (by decide) (by decide)) (show gC 486 = (9, 27, 0) from rfl) (show gLen 486 = 131 from rfl) (by decide) (j := a.toNatClampNeg) (set_pl c_1).1 (by omega) (v := N a.toNatClampNeg) rfl dX7_set_31 ?_
    refine lv_istore_n (lv' := [(3, .int (N a.toNatClampNeg)), (0, .ref (gad Γ 483)), (1, .int a), (2, .int d)]) hx hb dX7_set_32 rfl hl (by decide) rfl (fun ls hl => ?_)
    refine lv_aload_n hx hb dX7_set_33 rfl (lv_at hl 1 rfl) ?_
    refine gM_getr hx hb hts in_X7 hown hK hL hG 5 (by decide) rfl hL.2.2.2.1 k_1 (fun _ h => h) dX7_set_34 ?_
    refine lv_iload_n hx hb dX7_set_37 rfl (lv_at hl 2 rfl) ?_
    refine lv_iload_n hx hb dX7_set_38 rfl (lv_at hl 3 rfl) ?_
    refine gm_ast (M2 := mS M (fX7_note_A (upd A 0 0) T D N V I K B ) T D (upd N a.toNatClampNeg d) V (fX7_note_I (upd A 0 0) T D N V I K B ) K B) hx hb hK hG hS (hL.1 486 (by decide) (by decide)) (show gC 486 = (9, 27, 0) from rfl) (show gLen 486 = 131 from rfl) (by decide) (j := a.toNatClampNeg) (set_pl c_1).1 (by omega) (mS_p27 _ _ _ _ _ _ _ _ _ _ _) dX7_set_39 (fun H locs hG hS => ?_)
    refine lv_iload_n hx hb dX7_set_40 rfl (lv_at hl 0 rfl) ?_
    exact g_iret hx hb hrt hlocks hS hG (by unfold fX7_set_v; rw [if_neg c_1]) (mS_c (by unfold fX7_set_A; rw [if_neg c_1]) rfl rfl (by unfold fX7_set_N; rw [if_neg c_1]) rfl (by unfold fX7_set_I; rw [if_neg c_1]) rfl rfl) dX7_set_41

def fX7_drive_v (A T D N V I K B : Nat → Int32) (a d : Int32) : Int32 := if (fX7_isWagon_v N a) = 0 then 0 else if (fX7_isSegment_v N d) = 0 then 0 else if (fX7_far_v N a.toNatClampNeg d) ≤ (N ((122 + 3 * a.toNatClampNeg) + 2)) then (fX7_driveOn_P N a.toNatClampNeg d) ((122 + 3 * a.toNatClampNeg) + 2) else 0
def fX7_drive_A (A T D N V I K B : Nat → Int32) (a d : Int32) : Nat → Int32 := if (fX7_isWagon_v N a) = 0 then upd A 0 1 else if (fX7_isSegment_v N d) = 0 then upd A 0 1 else if (fX7_far_v N a.toNatClampNeg d) ≤ (N ((122 + 3 * a.toNatClampNeg) + 2)) then fX7_note_A (upd A 0 0) T D N V I K B  else upd A 0 2
def fX7_drive_N (A T D N V I K B : Nat → Int32) (a d : Int32) : Nat → Int32 := if (fX7_isWagon_v N a) = 0 then N else if (fX7_isSegment_v N d) = 0 then N else if (fX7_far_v N a.toNatClampNeg d) ≤ (N ((122 + 3 * a.toNatClampNeg) + 2)) then fX7_driveOn_P N a.toNatClampNeg d else N
def fX7_drive_I (A T D N V I K B : Nat → Int32) (a d : Int32) : Nat → Int32 := if (fX7_isWagon_v N a) = 0 then I else if (fX7_isSegment_v N d) = 0 then I else if (fX7_far_v N a.toNatClampNeg d) ≤ (N ((122 + 3 * a.toNatClampNeg) + 2)) then fX7_note_I (upd A 0 0) T D N V I K B  else I
set_option maxHeartbeats 4000000 in
set_option maxRecDepth 100000 in
theorem mX7_drive {l : Launch} {Γ : gX} (M : Nat → Nat → Int32) (R : Nat → Nat → Option Nat) (O : Int64) (hL : LM Γ R) (A T D N V I K B : Nat → Int32) (a d : Int32) (hN : WS N) (hA : A 8 = nI (A 8).toNatClampNeg) (hA14 : (A 8).toNatClampNeg ≤ 14) : gMet l Γ yX7_drive wsX7_drive 3 66 [.ref (gad Γ 483), .int a, .int d] (mS M A T D N V I K B) R O (some (.int (fX7_drive_v A T D N V I K B a d))) (mS M (fX7_drive_A A T D N V I K B a d) T D (fX7_drive_N A T D N V I K B a d) V (fX7_drive_I A T D N V I K B a d) K B) R O := by
  refine g_start (cc := cX7_drive) (maxL := 4) (ret := (some .int)) (by decide) rfl (Nat.le_of_ble_eq_true rfl) ?_
  intro p e s m below meth c ls hx hb hml hrt hts hown hlocks hname hK hZ hG hS hl
  have hl : lv_has ls 4 [(0, .ref (gad Γ 483)), (1, .int a), (2, .int d)] := hl
  have hown : s.vm.findClass RX7 = some m.cls := hown
  have hF : CallFix p m c cX7_drive 4 s _ wsX7_drive RX7 := ⟨hx, hb, hml, hown, hts⟩
  have k_1 : (Cond.fieldLink RX7 16 "RoadDustModel" "now" "[I").before _ s = true := hts _ (by decide +kernel)
  have in_X7 : ∀ w ∈ wsX70, w ∈ wsX7_drive := by decide +kernel
  have n0 := hN.1.2
  have n1 := hN.2.1.2
  have n2 := hN.2.2.1.2
  refine lv_aload_n hx hb dX7_drive_0 rfl (lv_at hl 0 rfl) ?_
  refine gM_getr hx hb hts in_X7 hown hK hL hG 5 (by decide) rfl hL.2.2.2.1 k_1 (fun _ h => h) dX7_drive_1 ?_
  refine lv_iload_n hx hb dX7_drive_4 rfl (lv_at hl 1 rfl) ?_
  refine g_callS (As := [.ref (gad Γ 486), .int a]) (rest := []) (st1 := [.int (fX7_isWagon_v N a)]) hF (mX7_isWagon (mS M A T D N V I K B) R O (hL.1 486 (by decide) (by decide)) (show gC 486 = (9, 27, 0) from rfl) (show gLen 486 = 131 from rfl) N a) (va_cwS 2 hts gX7_drive_X7_isWagon rfl rfl rfl (by decide +kernel) ⟨Nat.le_of_ble_eq_true rfl, Nat.le_of_ble_eq_true rfl⟩) hK hZ (g_st (show _ = va_up (mS M A T D N V I K B) 27 N from (mS_u27 _ _ _ _ _ _ _ _ _ _).symm) hG) hS rfl hl.1 (Nat.le_of_ble_eq_true rfl) dX7_drive_5 ⟨Nat.zero_le _, Nat.zero_le _⟩ rfl rfl (fun H locs hG hS => ?_)
  replace hG : GH Γ (mS M A T D N V I K B) R O H := g_st (mS_u27 _ _ _ _ _ _ _ _ _ _) hG
  refine lv_if_eq (tgt := 26) hx hb dX7_drive_8 (by decide) (fun c_1 => ?_) (fun c_1 => ?_)
  · --T
    refine lv_iconst (v := 0) hx hb dX7_drive_26 (by decide) ?_
    refine lv_istore_n (lv' := [(3, .int 0), (0, .ref (gad Γ 483)), (1, .int a), (2, .int d)]) hx hb dX7_drive_27 rfl hl (by decide) rfl (fun ls hl => ?_)
    refine lv_aload_n hx hb dX7_drive_28 rfl (lv_at hl 1 rfl) ?_
    refine lv_iload_n hx hb dX7_drive_29 rfl (lv_at hl 0 rfl) ?_
    refine lv_if_ne (tgt := 37) hx hb dX7_drive_30 (by decide) (fun c_2 => absurd (by decide) c_2) (fun c_2 => ?_)
    refine lv_iconst (v := 1) hx hb dX7_drive_33 (by decide) ?_
    refine lv_goto (tgt := 65) hx hb dX7_drive_34 (by decide) ?_
    refine g_callV (As := [.int 1]) (rest := []) (st1 := [.int 1]) hF (mX7_refused_l M R O hL A T D N V I K B 1 1 (by decide)) (cwV 1 hts gX7_drive_X7_refused rfl rfl rfl (by decide +kernel) ⟨Nat.le_of_ble_eq_true rfl, Nat.le_of_ble_eq_true rfl⟩) hK hZ hG hS (hL.1 483 (by decide) (by decide)) (show gC 483 = (7, 24, 0) from rfl) (by decide) rfl rfl hl.1 (Nat.le_of_ble_eq_true rfl) dX7_drive_65 ⟨Nat.zero_le _, Nat.zero_le _⟩ rfl rfl (fun H locs hG hS => ?_)
    refine lv_if_eq (tgt := 73) hx hb dX7_drive_68 (by decide) (fun c_3 => absurd c_3 (by decide)) (fun c_3 => ?_)
    refine lv_iconst (v := 0) hx hb dX7_drive_71 (by decide) ?_
    exact g_iret hx hb hrt hlocks hS hG (by unfold fX7_drive_v; rw [if_pos c_1]) (mS_c (by unfold fX7_drive_A; rw [if_pos c_1]) rfl rfl (by unfold fX7_drive_N; rw [if_pos c_1]) rfl (by unfold fX7_drive_I; rw [if_pos c_1]) rfl rfl) dX7_drive_72
  · --F
    refine lv_aload_n hx hb dX7_drive_11 rfl (lv_at hl 0 rfl) ?_
    refine gM_getr hx hb hts in_X7 hown hK hL hG 5 (by decide) rfl hL.2.2.2.1 k_1 (fun _ h => h) dX7_drive_12 ?_
    refine lv_iload_n hx hb dX7_drive_15 rfl (lv_at hl 2 rfl) ?_
    refine g_callS (As := [.ref (gad Γ 486), .int d]) (rest := []) (st1 := [.int (fX7_isSegment_v N d)]) hF (mX7_isSegment (mS M A T D N V I K B) R O (hL.1 486 (by decide) (by decide)) (show gC 486 = (9, 27, 0) from rfl) (show gLen 486 = 131 from rfl) N d) (va_cwS 2 hts gX7_drive_X7_isSegment rfl rfl rfl (by decide +kernel) ⟨Nat.le_of_ble_eq_true rfl, Nat.le_of_ble_eq_true rfl⟩) hK hZ (g_st (show _ = va_up (mS M A T D N V I K B) 27 N from (mS_u27 _ _ _ _ _ _ _ _ _ _).symm) hG) hS rfl hl.1 (Nat.le_of_ble_eq_true rfl) dX7_drive_16 ⟨Nat.zero_le _, Nat.zero_le _⟩ rfl rfl (fun H locs hG hS => ?_)
    replace hG : GH Γ (mS M A T D N V I K B) R O H := g_st (mS_u27 _ _ _ _ _ _ _ _ _ _) hG
    refine lv_if_eq (tgt := 26) hx hb dX7_drive_19 (by decide) (fun c_4 => ?_) (fun c_4 => ?_)
    · --T
      refine lv_iconst (v := 0) hx hb dX7_drive_26 (by decide) ?_
      refine lv_istore_n (lv' := [(3, .int 0), (0, .ref (gad Γ 483)), (1, .int a), (2, .int d)]) hx hb dX7_drive_27 rfl hl (by decide) rfl (fun ls hl => ?_)
      refine lv_aload_n hx hb dX7_drive_28 rfl (lv_at hl 1 rfl) ?_
      refine lv_iload_n hx hb dX7_drive_29 rfl (lv_at hl 0 rfl) ?_
      refine lv_if_ne (tgt := 37) hx hb dX7_drive_30 (by decide) (fun c_5 => absurd (by decide) c_5) (fun c_5 => ?_)
      refine lv_iconst (v := 1) hx hb dX7_drive_33 (by decide) ?_
      refine lv_goto (tgt := 65) hx hb dX7_drive_34 (by decide) ?_
      refine g_callV (As := [.int 1]) (rest := []) (st1 := [.int 1]) hF (mX7_refused_l M R O hL A T D N V I K B 1 1 (by decide)) (cwV 1 hts gX7_drive_X7_refused rfl rfl rfl (by decide +kernel) ⟨Nat.le_of_ble_eq_true rfl, Nat.le_of_ble_eq_true rfl⟩) hK hZ hG hS (hL.1 483 (by decide) (by decide)) (show gC 483 = (7, 24, 0) from rfl) (by decide) rfl rfl hl.1 (Nat.le_of_ble_eq_true rfl) dX7_drive_65 ⟨Nat.zero_le _, Nat.zero_le _⟩ rfl rfl (fun H locs hG hS => ?_)
      refine lv_if_eq (tgt := 73) hx hb dX7_drive_68 (by decide) (fun c_6 => absurd c_6 (by decide)) (fun c_6 => ?_)
      refine lv_iconst (v := 0) hx hb dX7_drive_71 (by decide) ?_
      exact g_iret hx hb hrt hlocks hS hG (by unfold fX7_drive_v; rw [if_neg c_1, if_pos c_4]) (mS_c (by unfold fX7_drive_A; rw [if_neg c_1, if_pos c_4]) rfl rfl (by unfold fX7_drive_N; rw [if_neg c_1, if_pos c_4]) rfl (by unfold fX7_drive_I; rw [if_neg c_1, if_pos c_4]) rfl rfl) dX7_drive_72
    · --F
      refine lv_iconst (v := 1) hx hb dX7_drive_22 (by decide) ?_
      refine lv_goto (tgt := 27) hx hb dX7_drive_23 (by decide) ?_
      refine lv_istore_n (lv' := [(3, .int 1), (0, .ref (gad Γ 483)), (1, .int a), (2, .int d)]) hx hb dX7_drive_27 rfl hl (by decide) rfl (fun ls hl => ?_)
      refine lv_aload_n hx hb dX7_drive_28 rfl (lv_at hl 1 rfl) ?_
      refine lv_iload_n hx hb dX7_drive_29 rfl (lv_at hl 0 rfl) ?_
      refine lv_if_ne (tgt := 37) hx hb dX7_drive_30 (by decide) (fun c_7 => ?_) (fun c_7 => absurd c_7 (by decide))
      refine lv_aload_n hx hb dX7_drive_37 rfl (lv_at hl 1 rfl) ?_
      have q_1 := (isPl hN.2.2.1.1 (by omega) c_1).2
      refine gM_getr hx hb hts in_X7 hown hK hL hG 5 (by decide) rfl hL.2.2.2.1 k_1 (fun _ h => h) dX7_drive_38 ?_
      refine lv_iload_n hx hb dX7_drive_41 rfl (lv_at hl 2 rfl) ?_
      refine lv_iload_n hx hb dX7_drive_42 rfl (lv_at hl 3 rfl) ?_
      refine g_callS (As := [.ref (gad Γ 486), .int a, .int d]) (rest := [.ref (gad Γ 483)]) (st1 := [.int (fX7_far_v N a.toNatClampNeg d), .ref (gad Γ 483)]) hF (mX7_far (mS M A T D N V I K B) R O (hL.1 486 (by decide) (by decide)) (show gC 486 = (9, 27, 0) from rfl) (show gLen 486 = 131 from rfl) N a.toNatClampNeg ((isPl hN.2.2.1.1 (by omega) c_1).1) (by omega) d hN) (va_cwS 3 hts gX7_drive_X7_far rfl rfl rfl (by decide +kernel) ⟨Nat.le_of_ble_eq_true rfl, Nat.le_of_ble_eq_true rfl⟩) hK hZ (g_st (show _ = va_up (mS M A T D N V I K B) 27 N from (mS_u27 _ _ _ _ _ _ _ _ _ _).symm) hG) hS rfl hl.1 (Nat.le_of_ble_eq_true rfl) dX7_drive_43 ⟨Nat.zero_le _, Nat.zero_le _⟩ rfl rfl (fun H locs hG hS => ?_)
      replace hG : GH Γ (mS M A T D N V I K B) R O H := g_st (mS_u27 _ _ _ _ _ _ _ _ _ _) hG
      refine lv_aload_n hx hb dX7_drive_46 rfl (lv_at hl 1 rfl) ?_
      refine gM_getr hx hb hts in_X7 hown hK hL hG 5 (by decide) rfl hL.2.2.2.1 k_1 (fun _ h => h) dX7_drive_47 ?_
      refine lv_iload_n hx hb dX7_drive_50 rfl (lv_at hl 2 rfl) ?_
      refine g_callS (As := [.int a]) (rest := [.ref (gad Γ 486), .int (fX7_far_v N a.toNatClampNeg d), .ref (gad Γ 483)]) (st1 := [.int (nI (122 + 3 * a.toNatClampNeg)), .ref (gad Γ 486), .int (fX7_far_v N a.toNatClampNeg d), .ref (gad Γ 483)]) hF (mX7_wagonAt _ R O a.toNatClampNeg ((isPl hN.2.2.1.1 (by omega) c_1).1)) (va_cwS 1 hts gX7_drive_X7_wagonAt rfl rfl rfl (by decide +kernel) ⟨Nat.le_of_ble_eq_true rfl, Nat.le_of_ble_eq_true rfl⟩) hK hZ hG hS rfl hl.1 (Nat.le_of_ble_eq_true rfl) dX7_drive_51 ⟨Nat.zero_le _, Nat.zero_le _⟩ rfl rfl (fun H locs hG hS => ?_)
      refine lv_iconst (v := 2) hx hb dX7_drive_54 (by decide) ?_
      refine lv_iadd hx hb dX7_drive_55 ?_
      refine g_top (show _ = nI ((122 + 3 * a.toNatClampNeg) + 2) from nI_add _ _) ?_
      refine gm_ald hx hb hK hG (hL.1 486 (by decide) (by decide)) (show gC 486 = (9, 27, 0) from rfl) (show gLen 486 = 131 from rfl) (by decide) (j := (122 + 3 * a.toNatClampNeg) + 2) rfl (by omega) (v := N ((122 + 3 * a.toNatClampNeg) + 2)) rfl dX7_drive_56 ?_
      refine lv_icmp_le (tgt := 64) hx hb dX7_drive_57 (by decide) (fun c_8 => ?_) (fun c_8 => ?_)
      · --T
        refine lv_iconst (v := 0) hx hb dX7_drive_64 (by decide) ?_
        refine g_callV (As := [.int 0]) (rest := []) (st1 := [.int 0]) hF (mX7_refused_l M R O hL A T D N V I K B 0 0 (by decide)) (cwV 1 hts gX7_drive_X7_refused rfl rfl rfl (by decide +kernel) ⟨Nat.le_of_ble_eq_true rfl, Nat.le_of_ble_eq_true rfl⟩) hK hZ hG hS (hL.1 483 (by decide) (by decide)) (show gC 483 = (7, 24, 0) from rfl) (by decide) rfl rfl hl.1 (Nat.le_of_ble_eq_true rfl) dX7_drive_65 ⟨Nat.zero_le _, Nat.zero_le _⟩ rfl rfl (fun H locs hG hS => ?_)
        refine lv_if_eq (tgt := 73) hx hb dX7_drive_68 (by decide) (fun c_9 => ?_) (fun c_9 => absurd (by decide) c_9)
        refine lv_aload_n hx hb dX7_drive_73 rfl (lv_at hl 1 rfl) ?_
        refine g_callV (As := []) (rest := []) (st1 := []) hF (mX7_note M R O hL (upd A 0 0) T D N V I K B  hA hA14) (cwV 0 hts gX7_drive_X7_note rfl rfl rfl (by decide +kernel) ⟨Nat.le_of_ble_eq_true rfl, Nat.le_of_ble_eq_true rfl⟩) hK hZ hG hS (hL.1 483 (by decide) (by decide)) (show gC 483 = (7, 24, 0) from rfl) (by decide) rfl rfl hl.1 (Nat.le_of_ble_eq_true rfl) dX7_drive_74 ⟨Nat.zero_le _, Nat.zero_le _⟩ rfl rfl (fun H locs hG hS => ?_)
        refine lv_aload_n hx hb dX7_drive_77 rfl (lv_at hl 1 rfl) ?_
        refine gM_getr hx hb hts in_X7 hown hK hL hG 5 (by decide) rfl hL.2.2.2.1 k_1 (fun _ h => h) dX7_drive_78 ?_
        refine lv_iload_n hx hb dX7_drive_81 rfl (lv_at hl 2 rfl) ?_
        refine lv_iload_n hx hb dX7_drive_82 rfl (lv_at hl 3 rfl) ?_
        refine g_callS (As := [.ref (gad Γ 486), .int a, .int d]) (rest := []) (st1 := [.int (fX7_driveOn_v N a.toNatClampNeg d)]) hF (mX7_driveOn (mS M (fX7_note_A (upd A 0 0) T D N V I K B ) T D N V (fX7_note_I (upd A 0 0) T D N V I K B ) K B) R O (hL.1 486 (by decide) (by decide)) (show gC 486 = (9, 27, 0) from rfl) (show gLen 486 = 131 from rfl) N a.toNatClampNeg ((isPl hN.2.2.1.1 (by omega) c_1).1) (by omega) d hN) (va_cwS 3 hts gX7_drive_X7_driveOn rfl rfl rfl (by decide +kernel) ⟨Nat.le_of_ble_eq_true rfl, Nat.le_of_ble_eq_true rfl⟩) hK hZ (g_st (show _ = va_up (mS M (fX7_note_A (upd A 0 0) T D N V I K B ) T D N V (fX7_note_I (upd A 0 0) T D N V I K B ) K B) 27 N from (mS_u27 _ _ _ _ _ _ _ _ _ _).symm) hG) hS rfl hl.1 (Nat.le_of_ble_eq_true rfl) dX7_drive_83 ⟨Nat.zero_le _, Nat.zero_le _⟩ rfl rfl (fun H locs hG hS => ?_)
        replace hG : GH Γ (mS M (fX7_note_A (upd A 0 0) T D N V I K B ) T D (fX7_driveOn_P N a.toNatClampNeg d) V (fX7_note_I (upd A 0 0) T D N V I K B ) K B) R O H := g_st (mS_u27 _ _ _ _ _ _ _ _ _ _) hG
        refine lv_pop hx hb dX7_drive_86 rfl ?_
        refine lv_aload_n hx hb dX7_drive_87 rfl (lv_at hl 1 rfl) ?_
        refine gM_getr hx hb hts in_X7 hown hK hL hG 5 (by decide) rfl hL.2.2.2.1 k_1 (fun _ h => h) dX7_drive_88 ?_
        refine lv_iload_n hx hb dX7_drive_91 rfl (lv_at hl 2 rfl) ?_
        refine g_callS (As := [.int a]) (rest := [.ref (gad Γ 486)]) (st1 := [.int (nI (122 + 3 * a.toNatClampNeg)), .ref (gad Γ 486)]) hF (mX7_wagonAt _ R O a.toNatClampNeg ((isPl hN.2.2.1.1 (by omega) c_1).1)) (va_cwS 1 hts gX7_drive_X7_wagonAt rfl rfl rfl (by decide +kernel) ⟨Nat.le_of_ble_eq_true rfl, Nat.le_of_ble_eq_true rfl⟩) hK hZ hG hS rfl hl.1 (Nat.le_of_ble_eq_true rfl) dX7_drive_92 ⟨Nat.zero_le _, Nat.zero_le _⟩ rfl rfl (fun H locs hG hS => ?_)
        refine lv_iconst (v := 2) hx hb dX7_drive_95 (by decide) ?_
        refine lv_iadd hx hb dX7_drive_96 ?_
        refine g_top (show _ = nI ((122 + 3 * a.toNatClampNeg) + 2) from nI_add _ _) ?_
        refine gm_ald hx hb hK hG (hL.1 486 (by decide) (by decide)) (show gC 486 = (9, 27, 0) from rfl) (show gLen 486 = 131 from rfl) (by decide) (j := (122 + 3 * a.toNatClampNeg) + 2) rfl (by omega) (v := (fX7_driveOn_P N a.toNatClampNeg d) ((122 + 3 * a.toNatClampNeg) + 2)) rfl dX7_drive_97 ?_
        exact g_iret hx hb hrt hlocks hS hG (by unfold fX7_drive_v; rw [if_neg c_1, if_neg c_4, if_pos c_8]) (mS_c (by unfold fX7_drive_A; rw [if_neg c_1, if_neg c_4, if_pos c_8]) rfl rfl (by unfold fX7_drive_N; rw [if_neg c_1, if_neg c_4, if_pos c_8]) rfl (by unfold fX7_drive_I; rw [if_neg c_1, if_neg c_4, if_pos c_8]) rfl rfl) dX7_drive_98
      · --F
        refine lv_iconst (v := 2) hx hb dX7_drive_60 (by decide) ?_
        refine lv_goto (tgt := 65) hx hb dX7_drive_61 (by decide) ?_
        refine g_callV (As := [.int 2]) (rest := []) (st1 := [.int 1]) hF (mX7_refused_l M R O hL A T D N V I K B 2 1 (by decide)) (cwV 1 hts gX7_drive_X7_refused rfl rfl rfl (by decide +kernel) ⟨Nat.le_of_ble_eq_true rfl, Nat.le_of_ble_eq_true rfl⟩) hK hZ hG hS (hL.1 483 (by decide) (by decide)) (show gC 483 = (7, 24, 0) from rfl) (by decide) rfl rfl hl.1 (Nat.le_of_ble_eq_true rfl) dX7_drive_65 ⟨Nat.zero_le _, Nat.zero_le _⟩ rfl rfl (fun H locs hG hS => ?_)
        refine lv_if_eq (tgt := 73) hx hb dX7_drive_68 (by decide) (fun c_10 => absurd c_10 (by decide)) (fun c_10 => ?_)
        refine lv_iconst (v := 0) hx hb dX7_drive_71 (by decide) ?_
        exact g_iret hx hb hrt hlocks hS hG (by unfold fX7_drive_v; rw [if_neg c_1, if_neg c_4, if_neg c_8]) (mS_c (by unfold fX7_drive_A; rw [if_neg c_1, if_neg c_4, if_neg c_8]) rfl rfl (by unfold fX7_drive_N; rw [if_neg c_1, if_neg c_4, if_neg c_8]) rfl (by unfold fX7_drive_I; rw [if_neg c_1, if_neg c_4, if_neg c_8]) rfl rfl) dX7_drive_72

def fX7_spray_v (A T D N V I K B : Nat → Int32) (a d : Int32) : Int32 := if (fX7_isWagon_v N a) = 0 then 0 else if (fX7_in_v d.toInt64 1 9) = 0 then 0 else if (N ((122 + 3 * a.toNatClampNeg) + 2)) = 0 then 0 else if d ≤ (N ((122 + 3 * a.toNatClampNeg) + 1)) then (fX7_sprayOn_P N a.toNatClampNeg d) ((12 + 7 * (((fX7_sprayOn_P N a.toNatClampNeg d) (122 + 3 * a.toNatClampNeg)).toNatClampNeg)) + 4) else 0
def fX7_spray_A (A T D N V I K B : Nat → Int32) (a d : Int32) : Nat → Int32 := if (fX7_isWagon_v N a) = 0 then upd A 0 1 else if (fX7_in_v d.toInt64 1 9) = 0 then upd A 0 2 else if (N ((122 + 3 * a.toNatClampNeg) + 2)) = 0 then upd A 0 3 else if d ≤ (N ((122 + 3 * a.toNatClampNeg) + 1)) then fX7_note_A (upd A 0 0) T D N V I K B  else upd A 0 3
def fX7_spray_N (A T D N V I K B : Nat → Int32) (a d : Int32) : Nat → Int32 := if (fX7_isWagon_v N a) = 0 then N else if (fX7_in_v d.toInt64 1 9) = 0 then N else if (N ((122 + 3 * a.toNatClampNeg) + 2)) = 0 then N else if d ≤ (N ((122 + 3 * a.toNatClampNeg) + 1)) then fX7_sprayOn_P N a.toNatClampNeg d else N
def fX7_spray_I (A T D N V I K B : Nat → Int32) (a d : Int32) : Nat → Int32 := if (fX7_isWagon_v N a) = 0 then I else if (fX7_in_v d.toInt64 1 9) = 0 then I else if (N ((122 + 3 * a.toNatClampNeg) + 2)) = 0 then I else if d ≤ (N ((122 + 3 * a.toNatClampNeg) + 1)) then fX7_note_I (upd A 0 0) T D N V I K B  else I
set_option maxHeartbeats 4000000 in
set_option maxRecDepth 100000 in
theorem mX7_spray {l : Launch} {Γ : gX} (M : Nat → Nat → Int32) (R : Nat → Nat → Option Nat) (O : Int64) (hL : LM Γ R) (A T D N V I K B : Nat → Int32) (a d : Int32) (hN : WS N) (hA : A 8 = nI (A 8).toNatClampNeg) (hA14 : (A 8).toNatClampNeg ≤ 14) : gMet l Γ yX7_spray wsX7_spray 3 66 [.ref (gad Γ 483), .int a, .int d] (mS M A T D N V I K B) R O (some (.int (fX7_spray_v A T D N V I K B a d))) (mS M (fX7_spray_A A T D N V I K B a d) T D (fX7_spray_N A T D N V I K B a d) V (fX7_spray_I A T D N V I K B a d) K B) R O := by
  refine g_start (cc := cX7_spray) (maxL := 3) (ret := (some .int)) (by decide) rfl (Nat.le_of_ble_eq_true rfl) ?_
  intro p e s m below meth c ls hx hb hml hrt hts hown hlocks hname hK hZ hG hS hl
  have hl : lv_has ls 3 [(0, .ref (gad Γ 483)), (1, .int a), (2, .int d)] := hl
  have hown : s.vm.findClass RX7 = some m.cls := hown
  have hF : CallFix p m c cX7_spray 3 s _ wsX7_spray RX7 := ⟨hx, hb, hml, hown, hts⟩
  have k_1 : (Cond.fieldLink RX7 16 "RoadDustModel" "now" "[I").before _ s = true := hts _ (by decide +kernel)
  have in_X7 : ∀ w ∈ wsX70, w ∈ wsX7_spray := by decide +kernel
  have k_3 : (Cond.constantLong RX7 102 (9)).before _ s = true := hts _ (by decide +kernel)
  have n0 := hN.1.2
  have n1 := hN.2.1.2
  have n2 := hN.2.2.1.2
  refine lv_aload_n hx hb dX7_spray_0 rfl (lv_at hl 0 rfl) ?_
  refine lv_aload_n hx hb dX7_spray_1 rfl (lv_at hl 0 rfl) ?_
  refine gM_getr hx hb hts in_X7 hown hK hL hG 5 (by decide) rfl hL.2.2.2.1 k_1 (fun _ h => h) dX7_spray_2 ?_
  refine lv_iload_n hx hb dX7_spray_5 rfl (lv_at hl 1 rfl) ?_
  refine g_callS (As := [.ref (gad Γ 486), .int a]) (rest := [.ref (gad Γ 483)]) (st1 := [.int (fX7_isWagon_v N a), .ref (gad Γ 483)]) hF (mX7_isWagon (mS M A T D N V I K B) R O (hL.1 486 (by decide) (by decide)) (show gC 486 = (9, 27, 0) from rfl) (show gLen 486 = 131 from rfl) N a) (va_cwS 2 hts gX7_spray_X7_isWagon rfl rfl rfl (by decide +kernel) ⟨Nat.le_of_ble_eq_true rfl, Nat.le_of_ble_eq_true rfl⟩) hK hZ (g_st (show _ = va_up (mS M A T D N V I K B) 27 N from (mS_u27 _ _ _ _ _ _ _ _ _ _).symm) hG) hS rfl hl.1 (Nat.le_of_ble_eq_true rfl) dX7_spray_6 ⟨Nat.zero_le _, Nat.zero_le _⟩ rfl rfl (fun H locs hG hS => ?_)
  replace hG : GH Γ (mS M A T D N V I K B) R O H := g_st (mS_u27 _ _ _ _ _ _ _ _ _ _) hG
  refine lv_if_ne (tgt := 16) hx hb dX7_spray_9 (by decide) (fun c_1 => ?_) (fun c_1 => ?_)
  · --T
    refine lv_iload_n hx hb dX7_spray_16 rfl (lv_at hl 2 rfl) ?_
    refine lv_i2l hx hb dX7_spray_17 rfl ?_
    refine lv_lconst (v := 1) hx hb dX7_spray_18 (by decide) ?_
    refine lv_ldc2 hx hb hown k_3 dX7_spray_19 ?_
    refine g_callS (As := [.long d.toInt64, .long 1, .long 9]) (rest := [.ref (gad Γ 483)]) (st1 := [.int (fX7_in_v d.toInt64 1 9), .ref (gad Γ 483)]) hF (mX7_in _ R O d.toInt64 1 9) (va_cwS 3 hts gX7_spray_X7_in rfl rfl rfl (by decide +kernel) ⟨Nat.le_of_ble_eq_true rfl, Nat.le_of_ble_eq_true rfl⟩) hK hZ hG hS rfl hl.1 (Nat.le_of_ble_eq_true rfl) dX7_spray_22 ⟨Nat.zero_le _, Nat.zero_le _⟩ rfl rfl (fun H locs hG hS => ?_)
    refine lv_if_ne (tgt := 32) hx hb dX7_spray_25 (by decide) (fun c_2 => ?_) (fun c_2 => ?_)
    · --T
      have q_1 := (isPl hN.2.2.1.1 (by omega) c_1).2
      refine lv_aload_n hx hb dX7_spray_32 rfl (lv_at hl 0 rfl) ?_
      refine gM_getr hx hb hts in_X7 hown hK hL hG 5 (by decide) rfl hL.2.2.2.1 k_1 (fun _ h => h) dX7_spray_33 ?_
      refine lv_iload_n hx hb dX7_spray_36 rfl (lv_at hl 1 rfl) ?_
      refine g_callS (As := [.int a]) (rest := [.ref (gad Γ 486), .ref (gad Γ 483)]) (st1 := [.int (nI (122 + 3 * a.toNatClampNeg)), .ref (gad Γ 486), .ref (gad Γ 483)]) hF (mX7_wagonAt _ R O a.toNatClampNeg ((isPl hN.2.2.1.1 (by omega) c_1).1)) (va_cwS 1 hts gX7_spray_X7_wagonAt rfl rfl rfl (by decide +kernel) ⟨Nat.le_of_ble_eq_true rfl, Nat.le_of_ble_eq_true rfl⟩) hK hZ hG hS rfl hl.1 (Nat.le_of_ble_eq_true rfl) dX7_spray_37 ⟨Nat.zero_le _, Nat.zero_le _⟩ rfl rfl (fun H locs hG hS => ?_)
      refine lv_iconst (v := 2) hx hb dX7_spray_40 (by decide) ?_
      refine lv_iadd hx hb dX7_spray_41 ?_
      refine g_top (show _ = nI ((122 + 3 * a.toNatClampNeg) + 2) from nI_add _ _) ?_
      refine gm_ald hx hb hK hG (hL.1 486 (by decide) (by decide)) (show gC 486 = (9, 27, 0) from rfl) (show gLen 486 = 131 from rfl) (by decide) (j := (122 + 3 * a.toNatClampNeg) + 2) rfl (by omega) (v := N ((122 + 3 * a.toNatClampNeg) + 2)) rfl dX7_spray_42 ?_
      refine lv_if_eq (tgt := 61) hx hb dX7_spray_43 (by decide) (fun c_3 => ?_) (fun c_3 => ?_)
      · --T
        refine lv_iconst (v := 3) hx hb dX7_spray_61 (by decide) ?_
        refine lv_goto (tgt := 66) hx hb dX7_spray_62 (by decide) ?_
        refine g_callV (As := [.int 3]) (rest := []) (st1 := [.int 1]) hF (mX7_refused_l M R O hL A T D N V I K B 3 1 (by decide)) (cwV 1 hts gX7_spray_X7_refused rfl rfl rfl (by decide +kernel) ⟨Nat.le_of_ble_eq_true rfl, Nat.le_of_ble_eq_true rfl⟩) hK hZ hG hS (hL.1 483 (by decide) (by decide)) (show gC 483 = (7, 24, 0) from rfl) (by decide) rfl rfl hl.1 (Nat.le_of_ble_eq_true rfl) dX7_spray_66 ⟨Nat.zero_le _, Nat.zero_le _⟩ rfl rfl (fun H locs hG hS => ?_)
        refine lv_if_eq (tgt := 74) hx hb dX7_spray_69 (by decide) (fun c_4 => absurd c_4 (by decide)) (fun c_4 => ?_)
        refine lv_iconst (v := 0) hx hb dX7_spray_72 (by decide) ?_
        exact g_iret hx hb hrt hlocks hS hG (by unfold fX7_spray_v; rw [if_neg c_1, if_neg c_2, if_pos c_3]) (mS_c (by unfold fX7_spray_A; rw [if_neg c_1, if_neg c_2, if_pos c_3]) rfl rfl (by unfold fX7_spray_N; rw [if_neg c_1, if_neg c_2, if_pos c_3]) rfl (by unfold fX7_spray_I; rw [if_neg c_1, if_neg c_2, if_pos c_3]) rfl rfl) dX7_spray_73
      · --F
        refine lv_aload_n hx hb dX7_spray_46 rfl (lv_at hl 0 rfl) ?_
        refine gM_getr hx hb hts in_X7 hown hK hL hG 5 (by decide) rfl hL.2.2.2.1 k_1 (fun _ h => h) dX7_spray_47 ?_
        refine lv_iload_n hx hb dX7_spray_50 rfl (lv_at hl 1 rfl) ?_
        refine g_callS (As := [.int a]) (rest := [.ref (gad Γ 486), .ref (gad Γ 483)]) (st1 := [.int (nI (122 + 3 * a.toNatClampNeg)), .ref (gad Γ 486), .ref (gad Γ 483)]) hF (mX7_wagonAt _ R O a.toNatClampNeg ((isPl hN.2.2.1.1 (by omega) c_1).1)) (va_cwS 1 hts gX7_spray_X7_wagonAt rfl rfl rfl (by decide +kernel) ⟨Nat.le_of_ble_eq_true rfl, Nat.le_of_ble_eq_true rfl⟩) hK hZ hG hS rfl hl.1 (Nat.le_of_ble_eq_true rfl) dX7_spray_51 ⟨Nat.zero_le _, Nat.zero_le _⟩ rfl rfl (fun H locs hG hS => ?_)
        refine lv_iconst (v := 1) hx hb dX7_spray_54 (by decide) ?_
        refine lv_iadd hx hb dX7_spray_55 ?_
        refine g_top (show _ = nI ((122 + 3 * a.toNatClampNeg) + 1) from nI_add _ _) ?_
        refine gm_ald hx hb hK hG (hL.1 486 (by decide) (by decide)) (show gC 486 = (9, 27, 0) from rfl) (show gLen 486 = 131 from rfl) (by decide) (j := (122 + 3 * a.toNatClampNeg) + 1) rfl (by omega) (v := N ((122 + 3 * a.toNatClampNeg) + 1)) rfl dX7_spray_56 ?_
        refine lv_iload_n hx hb dX7_spray_57 rfl (lv_at hl 2 rfl) ?_
        refine lv_icmp_ge (tgt := 65) hx hb dX7_spray_58 (by decide) (fun c_5 => ?_) (fun c_5 => ?_)
        · --T
          refine lv_iconst (v := 0) hx hb dX7_spray_65 (by decide) ?_
          refine g_callV (As := [.int 0]) (rest := []) (st1 := [.int 0]) hF (mX7_refused_l M R O hL A T D N V I K B 0 0 (by decide)) (cwV 1 hts gX7_spray_X7_refused rfl rfl rfl (by decide +kernel) ⟨Nat.le_of_ble_eq_true rfl, Nat.le_of_ble_eq_true rfl⟩) hK hZ hG hS (hL.1 483 (by decide) (by decide)) (show gC 483 = (7, 24, 0) from rfl) (by decide) rfl rfl hl.1 (Nat.le_of_ble_eq_true rfl) dX7_spray_66 ⟨Nat.zero_le _, Nat.zero_le _⟩ rfl rfl (fun H locs hG hS => ?_)
          refine lv_if_eq (tgt := 74) hx hb dX7_spray_69 (by decide) (fun c_6 => ?_) (fun c_6 => absurd (by decide) c_6)
          refine lv_aload_n hx hb dX7_spray_74 rfl (lv_at hl 0 rfl) ?_
          refine g_callV (As := []) (rest := []) (st1 := []) hF (mX7_note M R O hL (upd A 0 0) T D N V I K B  hA hA14) (cwV 0 hts gX7_spray_X7_note rfl rfl rfl (by decide +kernel) ⟨Nat.le_of_ble_eq_true rfl, Nat.le_of_ble_eq_true rfl⟩) hK hZ hG hS (hL.1 483 (by decide) (by decide)) (show gC 483 = (7, 24, 0) from rfl) (by decide) rfl rfl hl.1 (Nat.le_of_ble_eq_true rfl) dX7_spray_75 ⟨Nat.zero_le _, Nat.zero_le _⟩ rfl rfl (fun H locs hG hS => ?_)
          refine lv_aload_n hx hb dX7_spray_78 rfl (lv_at hl 0 rfl) ?_
          refine gM_getr hx hb hts in_X7 hown hK hL hG 5 (by decide) rfl hL.2.2.2.1 k_1 (fun _ h => h) dX7_spray_79 ?_
          refine lv_iload_n hx hb dX7_spray_82 rfl (lv_at hl 1 rfl) ?_
          refine lv_iload_n hx hb dX7_spray_83 rfl (lv_at hl 2 rfl) ?_
          refine g_callS (As := [.ref (gad Γ 486), .int a, .int d]) (rest := []) (st1 := [.int (fX7_sprayOn_v N a.toNatClampNeg d)]) hF (mX7_sprayOn (mS M (fX7_note_A (upd A 0 0) T D N V I K B ) T D N V (fX7_note_I (upd A 0 0) T D N V I K B ) K B) R O (hL.1 486 (by decide) (by decide)) (show gC 486 = (9, 27, 0) from rfl) (show gLen 486 = 131 from rfl) N a.toNatClampNeg ((isPl hN.2.2.1.1 (by omega) c_1).1) (by omega) d hN) (va_cwS 3 hts gX7_spray_X7_sprayOn rfl rfl rfl (by decide +kernel) ⟨Nat.le_of_ble_eq_true rfl, Nat.le_of_ble_eq_true rfl⟩) hK hZ (g_st (show _ = va_up (mS M (fX7_note_A (upd A 0 0) T D N V I K B ) T D N V (fX7_note_I (upd A 0 0) T D N V I K B ) K B) 27 N from (mS_u27 _ _ _ _ _ _ _ _ _ _).symm) hG) hS rfl hl.1 (Nat.le_of_ble_eq_true rfl) dX7_spray_84 ⟨Nat.zero_le _, Nat.zero_le _⟩ rfl rfl (fun H locs hG hS => ?_)
          replace hG : GH Γ (mS M (fX7_note_A (upd A 0 0) T D N V I K B ) T D (fX7_sprayOn_P N a.toNatClampNeg d) V (fX7_note_I (upd A 0 0) T D N V I K B ) K B) R O H := g_st (mS_u27 _ _ _ _ _ _ _ _ _ _) hG
          refine lv_pop hx hb dX7_spray_87 rfl ?_
          refine lv_aload_n hx hb dX7_spray_88 rfl (lv_at hl 0 rfl) ?_
          refine gM_getr hx hb hts in_X7 hown hK hL hG 5 (by decide) rfl hL.2.2.2.1 k_1 (fun _ h => h) dX7_spray_89 ?_
          refine lv_aload_n hx hb dX7_spray_92 rfl (lv_at hl 0 rfl) ?_
          refine gM_getr hx hb hts in_X7 hown hK hL hG 5 (by decide) rfl hL.2.2.2.1 k_1 (fun _ h => h) dX7_spray_93 ?_
          refine lv_iload_n hx hb dX7_spray_96 rfl (lv_at hl 1 rfl) ?_
          refine g_callS (As := [.int a]) (rest := [.ref (gad Γ 486), .ref (gad Γ 486)]) (st1 := [.int (nI (122 + 3 * a.toNatClampNeg)), .ref (gad Γ 486), .ref (gad Γ 486)]) hF (mX7_wagonAt _ R O a.toNatClampNeg ((isPl hN.2.2.1.1 (by omega) c_1).1)) (va_cwS 1 hts gX7_spray_X7_wagonAt rfl rfl rfl (by decide +kernel) ⟨Nat.le_of_ble_eq_true rfl, Nat.le_of_ble_eq_true rfl⟩) hK hZ hG hS rfl hl.1 (Nat.le_of_ble_eq_true rfl) dX7_spray_97 ⟨Nat.zero_le _, Nat.zero_le _⟩ rfl rfl (fun H locs hG hS => ?_)
          refine gm_ald hx hb hK hG (hL.1 486 (by decide) (by decide)) (show gC 486 = (9, 27, 0) from rfl) (show gLen 486 = 131 from rfl) (by decide) (j := 122 + 3 * a.toNatClampNeg) rfl (by omega) (v := (fX7_sprayOn_P N a.toNatClampNeg d) (122 + 3 * a.toNatClampNeg)) rfl dX7_spray_100 ?_
          have q_2 := ((WS_spray (k := a.toNatClampNeg) (a := d) (by omega) hN).2.2.2.2 a.toNatClampNeg (by omega)).2
          refine g_callS (As := [.int ((fX7_sprayOn_P N a.toNatClampNeg d) (122 + 3 * a.toNatClampNeg))]) (rest := [.ref (gad Γ 486)]) (st1 := [.int (nI (12 + 7 * (((fX7_sprayOn_P N a.toNatClampNeg d) (122 + 3 * a.toNatClampNeg)).toNatClampNeg))), .ref (gad Γ 486)]) hF (mX7_segmentAt _ R O (((fX7_sprayOn_P N a.toNatClampNeg d) (122 + 3 * a.toNatClampNeg)).toNatClampNeg) (((WS_spray (by omega) hN).2.2.2.2 a.toNatClampNeg (by omega)).1)) (va_cwS 1 hts gX7_spray_X7_segmentAt rfl rfl rfl (by decide +kernel) ⟨Nat.le_of_ble_eq_true rfl, Nat.le_of_ble_eq_true rfl⟩) hK hZ hG hS rfl hl.1 (Nat.le_of_ble_eq_true rfl) dX7_spray_101 ⟨Nat.zero_le _, Nat.zero_le _⟩ rfl rfl (fun H locs hG hS => ?_)
          refine lv_iconst (v := 4) hx hb dX7_spray_104 (by decide) ?_
          refine lv_iadd hx hb dX7_spray_105 ?_
          refine g_top (show _ = nI ((12 + 7 * (((fX7_sprayOn_P N a.toNatClampNeg d) (122 + 3 * a.toNatClampNeg)).toNatClampNeg)) + 4) from nI_add _ _) ?_
          refine gm_ald hx hb hK hG (hL.1 486 (by decide) (by decide)) (show gC 486 = (9, 27, 0) from rfl) (show gLen 486 = 131 from rfl) (by decide) (j := (12 + 7 * (((fX7_sprayOn_P N a.toNatClampNeg d) (122 + 3 * a.toNatClampNeg)).toNatClampNeg)) + 4) rfl (by omega) (v := (fX7_sprayOn_P N a.toNatClampNeg d) ((12 + 7 * (((fX7_sprayOn_P N a.toNatClampNeg d) (122 + 3 * a.toNatClampNeg)).toNatClampNeg)) + 4)) rfl dX7_spray_106 ?_
          exact g_iret hx hb hrt hlocks hS hG (by unfold fX7_spray_v; rw [if_neg c_1, if_neg c_2, if_neg c_3, if_pos c_5]) (mS_c (by unfold fX7_spray_A; rw [if_neg c_1, if_neg c_2, if_neg c_3, if_pos c_5]) rfl rfl (by unfold fX7_spray_N; rw [if_neg c_1, if_neg c_2, if_neg c_3, if_pos c_5]) rfl (by unfold fX7_spray_I; rw [if_neg c_1, if_neg c_2, if_neg c_3, if_pos c_5]) rfl rfl) dX7_spray_107
        · --F
          refine lv_iconst (v := 3) hx hb dX7_spray_61 (by decide) ?_
          refine lv_goto (tgt := 66) hx hb dX7_spray_62 (by decide) ?_
          refine g_callV (As := [.int 3]) (rest := []) (st1 := [.int 1]) hF (mX7_refused_l M R O hL A T D N V I K B 3 1 (by decide)) (cwV 1 hts gX7_spray_X7_refused rfl rfl rfl (by decide +kernel) ⟨Nat.le_of_ble_eq_true rfl, Nat.le_of_ble_eq_true rfl⟩) hK hZ hG hS (hL.1 483 (by decide) (by decide)) (show gC 483 = (7, 24, 0) from rfl) (by decide) rfl rfl hl.1 (Nat.le_of_ble_eq_true rfl) dX7_spray_66 ⟨Nat.zero_le _, Nat.zero_le _⟩ rfl rfl (fun H locs hG hS => ?_)
          refine lv_if_eq (tgt := 74) hx hb dX7_spray_69 (by decide) (fun c_7 => absurd c_7 (by decide)) (fun c_7 => ?_)
          refine lv_iconst (v := 0) hx hb dX7_spray_72 (by decide) ?_
          exact g_iret hx hb hrt hlocks hS hG (by unfold fX7_spray_v; rw [if_neg c_1, if_neg c_2, if_neg c_3, if_neg c_5]) (mS_c (by unfold fX7_spray_A; rw [if_neg c_1, if_neg c_2, if_neg c_3, if_neg c_5]) rfl rfl (by unfold fX7_spray_N; rw [if_neg c_1, if_neg c_2, if_neg c_3, if_neg c_5]) rfl (by unfold fX7_spray_I; rw [if_neg c_1, if_neg c_2, if_neg c_3, if_neg c_5]) rfl rfl) dX7_spray_73
    · --F
      refine lv_iconst (v := 2) hx hb dX7_spray_28 (by decide) ?_
      refine lv_goto (tgt := 66) hx hb dX7_spray_29 (by decide) ?_
      refine g_callV (As := [.int 2]) (rest := []) (st1 := [.int 1]) hF (mX7_refused_l M R O hL A T D N V I K B 2 1 (by decide)) (cwV 1 hts gX7_spray_X7_refused rfl rfl rfl (by decide +kernel) ⟨Nat.le_of_ble_eq_true rfl, Nat.le_of_ble_eq_true rfl⟩) hK hZ hG hS (hL.1 483 (by decide) (by decide)) (show gC 483 = (7, 24, 0) from rfl) (by decide) rfl rfl hl.1 (Nat.le_of_ble_eq_true rfl) dX7_spray_66 ⟨Nat.zero_le _, Nat.zero_le _⟩ rfl rfl (fun H locs hG hS => ?_)
      refine lv_if_eq (tgt := 74) hx hb dX7_spray_69 (by decide) (fun c_8 => absurd c_8 (by decide)) (fun c_8 => ?_)
      refine lv_iconst (v := 0) hx hb dX7_spray_72 (by decide) ?_
      exact g_iret hx hb hrt hlocks hS hG (by unfold fX7_spray_v; rw [if_neg c_1, if_pos c_2]) (mS_c (by unfold fX7_spray_A; rw [if_neg c_1, if_pos c_2]) rfl rfl (by unfold fX7_spray_N; rw [if_neg c_1, if_pos c_2]) rfl (by unfold fX7_spray_I; rw [if_neg c_1, if_pos c_2]) rfl rfl) dX7_spray_73
  · --F
    refine lv_iconst (v := 1) hx hb dX7_spray_12 (by decide) ?_
    refine lv_goto (tgt := 66) hx hb dX7_spray_13 (by decide) ?_
    refine g_callV (As := [.int 1]) (rest := []) (st1 := [.int 1]) hF (mX7_refused_l M R O hL A T D N V I K B 1 1 (by decide)) (cwV 1 hts gX7_spray_X7_refused rfl rfl rfl (by decide +kernel) ⟨Nat.le_of_ble_eq_true rfl, Nat.le_of_ble_eq_true rfl⟩) hK hZ hG hS (hL.1 483 (by decide) (by decide)) (show gC 483 = (7, 24, 0) from rfl) (by decide) rfl rfl hl.1 (Nat.le_of_ble_eq_true rfl) dX7_spray_66 ⟨Nat.zero_le _, Nat.zero_le _⟩ rfl rfl (fun H locs hG hS => ?_)
    refine lv_if_eq (tgt := 74) hx hb dX7_spray_69 (by decide) (fun c_9 => absurd c_9 (by decide)) (fun c_9 => ?_)
    refine lv_iconst (v := 0) hx hb dX7_spray_72 (by decide) ?_
    exact g_iret hx hb hrt hlocks hS hG (by unfold fX7_spray_v; rw [if_pos c_1]) (mS_c (by unfold fX7_spray_A; rw [if_pos c_1]) rfl rfl (by unfold fX7_spray_N; rw [if_pos c_1]) rfl (by unfold fX7_spray_I; rw [if_pos c_1]) rfl rfl) dX7_spray_73

def fX7_fill_v (A T D N V I K B : Nat → Int32) (a : Int32) : Int32 := if (fX7_isWagon_v N a) = 0 then 0 else if (fX7_why_v N a.toNatClampNeg) = 0 then fX7_fillOn_v N a.toNatClampNeg else 0
def fX7_fill_A (A T D N V I K B : Nat → Int32) (a : Int32) : Nat → Int32 := if (fX7_isWagon_v N a) = 0 then upd A 0 1 else if (fX7_why_v N a.toNatClampNeg) = 0 then fX7_note_A (upd A 0 0) T D N V I K B  else upd A 0 2
def fX7_fill_N (A T D N V I K B : Nat → Int32) (a : Int32) : Nat → Int32 := if (fX7_isWagon_v N a) = 0 then N else if (fX7_why_v N a.toNatClampNeg) = 0 then fX7_fillOn_P N a.toNatClampNeg else N
def fX7_fill_I (A T D N V I K B : Nat → Int32) (a : Int32) : Nat → Int32 := if (fX7_isWagon_v N a) = 0 then I else if (fX7_why_v N a.toNatClampNeg) = 0 then fX7_note_I (upd A 0 0) T D N V I K B  else I
set_option maxHeartbeats 4000000 in
set_option maxRecDepth 100000 in
theorem mX7_fill {l : Launch} {Γ : gX} (M : Nat → Nat → Int32) (R : Nat → Nat → Option Nat) (O : Int64) (hL : LM Γ R) (A T D N V I K B : Nat → Int32) (a : Int32) (hN : WS N) (hA : A 8 = nI (A 8).toNatClampNeg) (hA14 : (A 8).toNatClampNeg ≤ 14) : gMet l Γ yX7_fill wsX7_fill 2 46 [.ref (gad Γ 483), .int a] (mS M A T D N V I K B) R O (some (.int (fX7_fill_v A T D N V I K B a))) (mS M (fX7_fill_A A T D N V I K B a) T D (fX7_fill_N A T D N V I K B a) V (fX7_fill_I A T D N V I K B a) K B) R O := by
  refine g_start (cc := cX7_fill) (maxL := 2) (ret := (some .int)) (by decide) rfl (Nat.le_of_ble_eq_true rfl) ?_
  intro p e s m below meth c ls hx hb hml hrt hts hown hlocks hname hK hZ hG hS hl
  have hl : lv_has ls 2 [(0, .ref (gad Γ 483)), (1, .int a)] := hl
  have hown : s.vm.findClass RX7 = some m.cls := hown
  have hF : CallFix p m c cX7_fill 2 s _ wsX7_fill RX7 := ⟨hx, hb, hml, hown, hts⟩
  have k_1 : (Cond.fieldLink RX7 16 "RoadDustModel" "now" "[I").before _ s = true := hts _ (by decide +kernel)
  have in_X7 : ∀ w ∈ wsX70, w ∈ wsX7_fill := by decide +kernel
  have n0 := hN.1.2
  have n1 := hN.2.1.2
  have n2 := hN.2.2.1.2
  refine lv_aload_n hx hb dX7_fill_0 rfl (lv_at hl 0 rfl) ?_
  refine lv_aload_n hx hb dX7_fill_1 rfl (lv_at hl 0 rfl) ?_
  refine gM_getr hx hb hts in_X7 hown hK hL hG 5 (by decide) rfl hL.2.2.2.1 k_1 (fun _ h => h) dX7_fill_2 ?_
  refine lv_iload_n hx hb dX7_fill_5 rfl (lv_at hl 1 rfl) ?_
  refine g_callS (As := [.ref (gad Γ 486), .int a]) (rest := [.ref (gad Γ 483)]) (st1 := [.int (fX7_isWagon_v N a), .ref (gad Γ 483)]) hF (mX7_isWagon (mS M A T D N V I K B) R O (hL.1 486 (by decide) (by decide)) (show gC 486 = (9, 27, 0) from rfl) (show gLen 486 = 131 from rfl) N a) (va_cwS 2 hts gX7_fill_X7_isWagon rfl rfl rfl (by decide +kernel) ⟨Nat.le_of_ble_eq_true rfl, Nat.le_of_ble_eq_true rfl⟩) hK hZ (g_st (show _ = va_up (mS M A T D N V I K B) 27 N from (mS_u27 _ _ _ _ _ _ _ _ _ _).symm) hG) hS rfl hl.1 (Nat.le_of_ble_eq_true rfl) dX7_fill_6 ⟨Nat.zero_le _, Nat.zero_le _⟩ rfl rfl (fun H locs hG hS => ?_)
  replace hG : GH Γ (mS M A T D N V I K B) R O H := g_st (mS_u27 _ _ _ _ _ _ _ _ _ _) hG
  refine lv_if_ne (tgt := 16) hx hb dX7_fill_9 (by decide) (fun c_1 => ?_) (fun c_1 => ?_)
  · --T
    have q_1 := (isPl hN.2.2.1.1 (by omega) c_1).2
    refine lv_aload_n hx hb dX7_fill_16 rfl (lv_at hl 0 rfl) ?_
    refine gM_getr hx hb hts in_X7 hown hK hL hG 5 (by decide) rfl hL.2.2.2.1 k_1 (fun _ h => h) dX7_fill_17 ?_
    refine lv_iload_n hx hb dX7_fill_20 rfl (lv_at hl 1 rfl) ?_
    refine g_callS (As := [.ref (gad Γ 486), .int a]) (rest := [.ref (gad Γ 483)]) (st1 := [.int (fX7_why_v N a.toNatClampNeg), .ref (gad Γ 483)]) hF (mX7_why (mS M A T D N V I K B) R O (hL.1 486 (by decide) (by decide)) (show gC 486 = (9, 27, 0) from rfl) (show gLen 486 = 131 from rfl) N a.toNatClampNeg ((isPl hN.2.2.1.1 (by omega) c_1).1) (by omega) hN) (va_cwS 2 hts gX7_fill_X7_why rfl rfl rfl (by decide +kernel) ⟨Nat.le_of_ble_eq_true rfl, Nat.le_of_ble_eq_true rfl⟩) hK hZ (g_st (show _ = va_up (mS M A T D N V I K B) 27 N from (mS_u27 _ _ _ _ _ _ _ _ _ _).symm) hG) hS rfl hl.1 (Nat.le_of_ble_eq_true rfl) dX7_fill_21 ⟨Nat.zero_le _, Nat.zero_le _⟩ rfl rfl (fun H locs hG hS => ?_)
    replace hG : GH Γ (mS M A T D N V I K B) R O H := g_st (mS_u27 _ _ _ _ _ _ _ _ _ _) hG
    refine lv_if_eq (tgt := 31) hx hb dX7_fill_24 (by decide) (fun c_2 => ?_) (fun c_2 => ?_)
    · --T
      refine lv_iconst (v := 0) hx hb dX7_fill_31 (by decide) ?_
      refine g_callV (As := [.int 0]) (rest := []) (st1 := [.int 0]) hF (mX7_refused_l M R O hL A T D N V I K B 0 0 (by decide)) (cwV 1 hts gX7_fill_X7_refused rfl rfl rfl (by decide +kernel) ⟨Nat.le_of_ble_eq_true rfl, Nat.le_of_ble_eq_true rfl⟩) hK hZ hG hS (hL.1 483 (by decide) (by decide)) (show gC 483 = (7, 24, 0) from rfl) (by decide) rfl rfl hl.1 (Nat.le_of_ble_eq_true rfl) dX7_fill_32 ⟨Nat.zero_le _, Nat.zero_le _⟩ rfl rfl (fun H locs hG hS => ?_)
      refine lv_if_eq (tgt := 40) hx hb dX7_fill_35 (by decide) (fun c_3 => ?_) (fun c_3 => absurd (by decide) c_3)
      refine lv_aload_n hx hb dX7_fill_40 rfl (lv_at hl 0 rfl) ?_
      refine g_callV (As := []) (rest := []) (st1 := []) hF (mX7_note M R O hL (upd A 0 0) T D N V I K B  hA hA14) (cwV 0 hts gX7_fill_X7_note rfl rfl rfl (by decide +kernel) ⟨Nat.le_of_ble_eq_true rfl, Nat.le_of_ble_eq_true rfl⟩) hK hZ hG hS (hL.1 483 (by decide) (by decide)) (show gC 483 = (7, 24, 0) from rfl) (by decide) rfl rfl hl.1 (Nat.le_of_ble_eq_true rfl) dX7_fill_41 ⟨Nat.zero_le _, Nat.zero_le _⟩ rfl rfl (fun H locs hG hS => ?_)
      refine lv_aload_n hx hb dX7_fill_44 rfl (lv_at hl 0 rfl) ?_
      refine gM_getr hx hb hts in_X7 hown hK hL hG 5 (by decide) rfl hL.2.2.2.1 k_1 (fun _ h => h) dX7_fill_45 ?_
      refine lv_iload_n hx hb dX7_fill_48 rfl (lv_at hl 1 rfl) ?_
      refine g_callS (As := [.ref (gad Γ 486), .int a]) (rest := []) (st1 := [.int (fX7_fillOn_v N a.toNatClampNeg)]) hF (mX7_fillOn (mS M (fX7_note_A (upd A 0 0) T D N V I K B ) T D N V (fX7_note_I (upd A 0 0) T D N V I K B ) K B) R O (hL.1 486 (by decide) (by decide)) (show gC 486 = (9, 27, 0) from rfl) (show gLen 486 = 131 from rfl) N a.toNatClampNeg ((isPl hN.2.2.1.1 (by omega) c_1).1) (by omega) hN) (va_cwS 2 hts gX7_fill_X7_fillOn rfl rfl rfl (by decide +kernel) ⟨Nat.le_of_ble_eq_true rfl, Nat.le_of_ble_eq_true rfl⟩) hK hZ (g_st (show _ = va_up (mS M (fX7_note_A (upd A 0 0) T D N V I K B ) T D N V (fX7_note_I (upd A 0 0) T D N V I K B ) K B) 27 N from (mS_u27 _ _ _ _ _ _ _ _ _ _).symm) hG) hS rfl hl.1 (Nat.le_of_ble_eq_true rfl) dX7_fill_49 ⟨Nat.zero_le _, Nat.zero_le _⟩ rfl rfl (fun H locs hG hS => ?_)
      replace hG : GH Γ (mS M (fX7_note_A (upd A 0 0) T D N V I K B ) T D (fX7_fillOn_P N a.toNatClampNeg) V (fX7_note_I (upd A 0 0) T D N V I K B ) K B) R O H := g_st (mS_u27 _ _ _ _ _ _ _ _ _ _) hG
      exact g_iret hx hb hrt hlocks hS hG (by unfold fX7_fill_v; rw [if_neg c_1, if_pos c_2]) (mS_c (by unfold fX7_fill_A; rw [if_neg c_1, if_pos c_2]) rfl rfl (by unfold fX7_fill_N; rw [if_neg c_1, if_pos c_2]) rfl (by unfold fX7_fill_I; rw [if_neg c_1, if_pos c_2]) rfl rfl) dX7_fill_52
    · --F
      refine lv_iconst (v := 2) hx hb dX7_fill_27 (by decide) ?_
      refine lv_goto (tgt := 32) hx hb dX7_fill_28 (by decide) ?_
      refine g_callV (As := [.int 2]) (rest := []) (st1 := [.int 1]) hF (mX7_refused_l M R O hL A T D N V I K B 2 1 (by decide)) (cwV 1 hts gX7_fill_X7_refused rfl rfl rfl (by decide +kernel) ⟨Nat.le_of_ble_eq_true rfl, Nat.le_of_ble_eq_true rfl⟩) hK hZ hG hS (hL.1 483 (by decide) (by decide)) (show gC 483 = (7, 24, 0) from rfl) (by decide) rfl rfl hl.1 (Nat.le_of_ble_eq_true rfl) dX7_fill_32 ⟨Nat.zero_le _, Nat.zero_le _⟩ rfl rfl (fun H locs hG hS => ?_)
      refine lv_if_eq (tgt := 40) hx hb dX7_fill_35 (by decide) (fun c_4 => absurd c_4 (by decide)) (fun c_4 => ?_)
      refine lv_iconst (v := 0) hx hb dX7_fill_38 (by decide) ?_
      exact g_iret hx hb hrt hlocks hS hG (by unfold fX7_fill_v; rw [if_neg c_1, if_neg c_2]) (mS_c (by unfold fX7_fill_A; rw [if_neg c_1, if_neg c_2]) rfl rfl (by unfold fX7_fill_N; rw [if_neg c_1, if_neg c_2]) rfl (by unfold fX7_fill_I; rw [if_neg c_1, if_neg c_2]) rfl rfl) dX7_fill_39
  · --F
    refine lv_iconst (v := 1) hx hb dX7_fill_12 (by decide) ?_
    refine lv_goto (tgt := 32) hx hb dX7_fill_13 (by decide) ?_
    refine g_callV (As := [.int 1]) (rest := []) (st1 := [.int 1]) hF (mX7_refused_l M R O hL A T D N V I K B 1 1 (by decide)) (cwV 1 hts gX7_fill_X7_refused rfl rfl rfl (by decide +kernel) ⟨Nat.le_of_ble_eq_true rfl, Nat.le_of_ble_eq_true rfl⟩) hK hZ hG hS (hL.1 483 (by decide) (by decide)) (show gC 483 = (7, 24, 0) from rfl) (by decide) rfl rfl hl.1 (Nat.le_of_ble_eq_true rfl) dX7_fill_32 ⟨Nat.zero_le _, Nat.zero_le _⟩ rfl rfl (fun H locs hG hS => ?_)
    refine lv_if_eq (tgt := 40) hx hb dX7_fill_35 (by decide) (fun c_5 => absurd c_5 (by decide)) (fun c_5 => ?_)
    refine lv_iconst (v := 0) hx hb dX7_fill_38 (by decide) ?_
    exact g_iret hx hb hrt hlocks hS hG (by unfold fX7_fill_v; rw [if_pos c_1]) (mS_c (by unfold fX7_fill_A; rw [if_pos c_1]) rfl rfl (by unfold fX7_fill_N; rw [if_pos c_1]) rfl (by unfold fX7_fill_I; rw [if_pos c_1]) rfl rfl) dX7_fill_39

def fX7_whyNoFill_v (A T D N V I K B : Nat → Int32) (a : Int32) : Int32 := if (fX7_isWagon_v N a) = 0 then 0 else fX7_why_v N a.toNatClampNeg
def fX7_whyNoFill_A (A T D N V I K B : Nat → Int32) (a : Int32) : Nat → Int32 := if (fX7_isWagon_v N a) = 0 then upd A 0 1 else upd A 0 0
set_option maxHeartbeats 4000000 in
set_option maxRecDepth 100000 in
theorem mX7_whyNoFill {l : Launch} {Γ : gX} (M : Nat → Nat → Int32) (R : Nat → Nat → Option Nat) (O : Int64) (hL : LM Γ R) (A T D N V I K B : Nat → Int32) (a : Int32) (hN : WS N) : gMet l Γ yX7_whyNoFill wsX7_whyNoFill 2 46 [.ref (gad Γ 483), .int a] (mS M A T D N V I K B) R O (some (.int (fX7_whyNoFill_v A T D N V I K B a))) (mS M (fX7_whyNoFill_A A T D N V I K B a) T D N V I K B) R O := by
  refine g_start (cc := cX7_whyNoFill) (maxL := 2) (ret := (some .int)) (by decide) rfl (Nat.le_of_ble_eq_true rfl) ?_
  intro p e s m below meth c ls hx hb hml hrt hts hown hlocks hname hK hZ hG hS hl
  have hl : lv_has ls 2 [(0, .ref (gad Γ 483)), (1, .int a)] := hl
  have hown : s.vm.findClass RX7 = some m.cls := hown
  have hF : CallFix p m c cX7_whyNoFill 2 s _ wsX7_whyNoFill RX7 := ⟨hx, hb, hml, hown, hts⟩
  have k_1 : (Cond.fieldLink RX7 16 "RoadDustModel" "now" "[I").before _ s = true := hts _ (by decide +kernel)
  have in_X7 : ∀ w ∈ wsX70, w ∈ wsX7_whyNoFill := by decide +kernel
  have n0 := hN.1.2
  have n1 := hN.2.1.2
  have n2 := hN.2.2.1.2
  refine lv_aload_n hx hb dX7_whyNoFill_0 rfl (lv_at hl 0 rfl) ?_
  refine lv_aload_n hx hb dX7_whyNoFill_1 rfl (lv_at hl 0 rfl) ?_
  refine gM_getr hx hb hts in_X7 hown hK hL hG 5 (by decide) rfl hL.2.2.2.1 k_1 (fun _ h => h) dX7_whyNoFill_2 ?_
  refine lv_iload_n hx hb dX7_whyNoFill_5 rfl (lv_at hl 1 rfl) ?_
  refine g_callS (As := [.ref (gad Γ 486), .int a]) (rest := [.ref (gad Γ 483)]) (st1 := [.int (fX7_isWagon_v N a), .ref (gad Γ 483)]) hF (mX7_isWagon (mS M A T D N V I K B) R O (hL.1 486 (by decide) (by decide)) (show gC 486 = (9, 27, 0) from rfl) (show gLen 486 = 131 from rfl) N a) (va_cwS 2 hts gX7_whyNoFill_X7_isWagon rfl rfl rfl (by decide +kernel) ⟨Nat.le_of_ble_eq_true rfl, Nat.le_of_ble_eq_true rfl⟩) hK hZ (g_st (show _ = va_up (mS M A T D N V I K B) 27 N from (mS_u27 _ _ _ _ _ _ _ _ _ _).symm) hG) hS rfl hl.1 (Nat.le_of_ble_eq_true rfl) dX7_whyNoFill_6 ⟨Nat.zero_le _, Nat.zero_le _⟩ rfl rfl (fun H locs hG hS => ?_)
  replace hG : GH Γ (mS M A T D N V I K B) R O H := g_st (mS_u27 _ _ _ _ _ _ _ _ _ _) hG
  refine lv_if_eq (tgt := 16) hx hb dX7_whyNoFill_9 (by decide) (fun c_1 => ?_) (fun c_1 => ?_)
  · --T
    refine lv_iconst (v := 1) hx hb dX7_whyNoFill_16 (by decide) ?_
    refine g_callV (As := [.int 1]) (rest := []) (st1 := [.int 1]) hF (mX7_refused_l M R O hL A T D N V I K B 1 1 (by decide)) (cwV 1 hts gX7_whyNoFill_X7_refused rfl rfl rfl (by decide +kernel) ⟨Nat.le_of_ble_eq_true rfl, Nat.le_of_ble_eq_true rfl⟩) hK hZ hG hS (hL.1 483 (by decide) (by decide)) (show gC 483 = (7, 24, 0) from rfl) (by decide) rfl rfl hl.1 (Nat.le_of_ble_eq_true rfl) dX7_whyNoFill_17 ⟨Nat.zero_le _, Nat.zero_le _⟩ rfl rfl (fun H locs hG hS => ?_)
    refine lv_if_eq (tgt := 27) hx hb dX7_whyNoFill_20 (by decide) (fun c_2 => absurd c_2 (by decide)) (fun c_2 => ?_)
    refine lv_iconst (v := 0) hx hb dX7_whyNoFill_23 (by decide) ?_
    refine lv_goto (tgt := 35) hx hb dX7_whyNoFill_24 (by decide) ?_
    exact g_iret hx hb hrt hlocks hS hG (by unfold fX7_whyNoFill_v; rw [if_pos c_1]) (mS_c (by unfold fX7_whyNoFill_A; rw [if_pos c_1]) rfl rfl rfl rfl rfl rfl rfl) dX7_whyNoFill_35
  · --F
    refine lv_iconst (v := 0) hx hb dX7_whyNoFill_12 (by decide) ?_
    refine lv_goto (tgt := 17) hx hb dX7_whyNoFill_13 (by decide) ?_
    refine g_callV (As := [.int 0]) (rest := []) (st1 := [.int 0]) hF (mX7_refused_l M R O hL A T D N V I K B 0 0 (by decide)) (cwV 1 hts gX7_whyNoFill_X7_refused rfl rfl rfl (by decide +kernel) ⟨Nat.le_of_ble_eq_true rfl, Nat.le_of_ble_eq_true rfl⟩) hK hZ hG hS (hL.1 483 (by decide) (by decide)) (show gC 483 = (7, 24, 0) from rfl) (by decide) rfl rfl hl.1 (Nat.le_of_ble_eq_true rfl) dX7_whyNoFill_17 ⟨Nat.zero_le _, Nat.zero_le _⟩ rfl rfl (fun H locs hG hS => ?_)
    refine lv_if_eq (tgt := 27) hx hb dX7_whyNoFill_20 (by decide) (fun c_3 => ?_) (fun c_3 => absurd (by decide) c_3)
    have q_1 := (isPl hN.2.2.1.1 (by omega) c_1).2
    refine lv_aload_n hx hb dX7_whyNoFill_27 rfl (lv_at hl 0 rfl) ?_
    refine gM_getr hx hb hts in_X7 hown hK hL hG 5 (by decide) rfl hL.2.2.2.1 k_1 (fun _ h => h) dX7_whyNoFill_28 ?_
    refine lv_iload_n hx hb dX7_whyNoFill_31 rfl (lv_at hl 1 rfl) ?_
    refine g_callS (As := [.ref (gad Γ 486), .int a]) (rest := []) (st1 := [.int (fX7_why_v N a.toNatClampNeg)]) hF (mX7_why (mS M (upd A 0 0) T D N V I K B) R O (hL.1 486 (by decide) (by decide)) (show gC 486 = (9, 27, 0) from rfl) (show gLen 486 = 131 from rfl) N a.toNatClampNeg ((isPl hN.2.2.1.1 (by omega) c_1).1) (by omega) hN) (va_cwS 2 hts gX7_whyNoFill_X7_why rfl rfl rfl (by decide +kernel) ⟨Nat.le_of_ble_eq_true rfl, Nat.le_of_ble_eq_true rfl⟩) hK hZ (g_st (show _ = va_up (mS M (upd A 0 0) T D N V I K B) 27 N from (mS_u27 _ _ _ _ _ _ _ _ _ _).symm) hG) hS rfl hl.1 (Nat.le_of_ble_eq_true rfl) dX7_whyNoFill_32 ⟨Nat.zero_le _, Nat.zero_le _⟩ rfl rfl (fun H locs hG hS => ?_)
    replace hG : GH Γ (mS M (upd A 0 0) T D N V I K B) R O H := g_st (mS_u27 _ _ _ _ _ _ _ _ _ _) hG
    exact g_iret hx hb hrt hlocks hS hG (by unfold fX7_whyNoFill_v; rw [if_neg c_1]) (mS_c (by unfold fX7_whyNoFill_A; rw [if_neg c_1]) rfl rfl rfl rfl rfl rfl rfl) dX7_whyNoFill_35

def fX7_pass_S  (Pk : Nat → Int32) (k : Nat) : Nat → Int32 := fX7_hourOn_P Pk
def fX7_pass_L  (P : Nat → Int32) : Nat → Nat → Int32
  | 0 => P
  | k + 1 => fX7_pass_S  (fX7_pass_L  P k) k
theorem fX7_pass_WS {P : Nat → Int32} (hW : WS P) : ∀ k, WS (fX7_pass_L P k)
  | 0 => hW
  | k + 1 => by
    have h := fX7_pass_WS hW k
    show WS (fX7_pass_S (fX7_pass_L P k) k)
    unfold fX7_pass_S
    exact fX7_hourOn_kw h
def fX7_pass_v (A T D N V I K B : Nat → Int32) (a : Int32) : Int32 := if (fX7_in_v a.toInt64 1 50) = 0 then 0 else ((fX7_pass_L  N a.toNatClampNeg) 10) - (N 10)
def fX7_pass_A (A T D N V I K B : Nat → Int32) (a : Int32) : Nat → Int32 := if (fX7_in_v a.toInt64 1 50) = 0 then upd A 0 1 else fX7_note_A (upd A 0 0) T D N V I K B 
def fX7_pass_N (A T D N V I K B : Nat → Int32) (a : Int32) : Nat → Int32 := if (fX7_in_v a.toInt64 1 50) = 0 then N else fX7_pass_L  N a.toNatClampNeg
def fX7_pass_I (A T D N V I K B : Nat → Int32) (a : Int32) : Nat → Int32 := if (fX7_in_v a.toInt64 1 50) = 0 then I else fX7_note_I (upd A 0 0) T D N V I K B 
set_option maxHeartbeats 4000000 in
set_option maxRecDepth 100000 in
theorem mX7_pass {l : Launch} {Γ : gX} (M : Nat → Nat → Int32) (R : Nat → Nat → Option Nat) (O : Int64) (hL : LM Γ R) (A T D N V I K B : Nat → Int32) (a : Int32) (hN : WS N) (hA : A 8 = nI (A 8).toNatClampNeg) (hA14 : (A 8).toNatClampNeg ≤ 14) : gMet l Γ yX7_pass wsX7_pass 5 111 [.ref (gad Γ 483), .int a] (mS M A T D N V I K B) R O (some (.int (fX7_pass_v A T D N V I K B a))) (mS M (fX7_pass_A A T D N V I K B a) T D (fX7_pass_N A T D N V I K B a) V (fX7_pass_I A T D N V I K B a) K B) R O := by
  refine g_start (cc := cX7_pass) (maxL := 4) (ret := (some .int)) (by decide) rfl (Nat.le_of_ble_eq_true rfl) ?_
  intro p e s m below meth c ls hx hb hml hrt hts hown hlocks hname hK hZ hG hS hl
  have hl : lv_has ls 4 [(0, .ref (gad Γ 483)), (1, .int a)] := hl
  have hown : s.vm.findClass RX7 = some m.cls := hown
  have hF : CallFix p m c cX7_pass 4 s _ wsX7_pass RX7 := ⟨hx, hb, hml, hown, hts⟩
  have k_1 : (Cond.constantLong RX7 188 (50)).before _ s = true := hts _ (by decide +kernel)
  have k_2 : (Cond.fieldLink RX7 16 "RoadDustModel" "now" "[I").before _ s = true := hts _ (by decide +kernel)
  have in_X7 : ∀ w ∈ wsX70, w ∈ wsX7_pass := by decide +kernel
  have n0 := hN.1.2
  have n1 := hN.2.1.2
  have n2 := hN.2.2.1.2
  refine lv_aload_n hx hb dX7_pass_0 rfl (lv_at hl 0 rfl) ?_
  refine lv_iload_n hx hb dX7_pass_1 rfl (lv_at hl 1 rfl) ?_
  refine lv_i2l hx hb dX7_pass_2 rfl ?_
  refine lv_lconst (v := 1) hx hb dX7_pass_3 (by decide) ?_
  refine lv_ldc2 hx hb hown k_1 dX7_pass_4 ?_
  refine g_callS (As := [.long a.toInt64, .long 1, .long 50]) (rest := [.ref (gad Γ 483)]) (st1 := [.int (fX7_in_v a.toInt64 1 50), .ref (gad Γ 483)]) hF (mX7_in _ R O a.toInt64 1 50) (va_cwS 3 hts gX7_pass_X7_in rfl rfl rfl (by decide +kernel) ⟨Nat.le_of_ble_eq_true rfl, Nat.le_of_ble_eq_true rfl⟩) hK hZ hG hS rfl hl.1 (Nat.le_of_ble_eq_true rfl) dX7_pass_7 ⟨Nat.zero_le _, Nat.zero_le _⟩ rfl rfl (fun H locs hG hS => ?_)
  refine lv_if_eq (tgt := 17) hx hb dX7_pass_10 (by decide) (fun c_1 => ?_) (fun c_1 => ?_)
  · --T
    refine lv_iconst (v := 1) hx hb dX7_pass_17 (by decide) ?_
    refine g_callV (As := [.int 1]) (rest := []) (st1 := [.int 1]) hF (mX7_refused_l M R O hL A T D N V I K B 1 1 (by decide)) (cwV 1 hts gX7_pass_X7_refused rfl rfl rfl (by decide +kernel) ⟨Nat.le_of_ble_eq_true rfl, Nat.le_of_ble_eq_true rfl⟩) hK hZ hG hS (hL.1 483 (by decide) (by decide)) (show gC 483 = (7, 24, 0) from rfl) (by decide) rfl rfl hl.1 (Nat.le_of_ble_eq_true rfl) dX7_pass_18 ⟨Nat.zero_le _, Nat.zero_le _⟩ rfl rfl (fun H locs hG hS => ?_)
    refine lv_if_eq (tgt := 26) hx hb dX7_pass_21 (by decide) (fun c_2 => absurd c_2 (by decide)) (fun c_2 => ?_)
    refine lv_iconst (v := 0) hx hb dX7_pass_24 (by decide) ?_
    exact g_iret hx hb hrt hlocks hS hG (by unfold fX7_pass_v; rw [if_pos c_1]) (mS_c (by unfold fX7_pass_A; rw [if_pos c_1]) rfl rfl (by unfold fX7_pass_N; rw [if_pos c_1]) rfl (by unfold fX7_pass_I; rw [if_pos c_1]) rfl rfl) dX7_pass_25
  · --F
    refine lv_iconst (v := 0) hx hb dX7_pass_13 (by decide) ?_
    refine lv_goto (tgt := 18) hx hb dX7_pass_14 (by decide) ?_
    refine g_callV (As := [.int 0]) (rest := []) (st1 := [.int 0]) hF (mX7_refused_l M R O hL A T D N V I K B 0 0 (by decide)) (cwV 1 hts gX7_pass_X7_refused rfl rfl rfl (by decide +kernel) ⟨Nat.le_of_ble_eq_true rfl, Nat.le_of_ble_eq_true rfl⟩) hK hZ hG hS (hL.1 483 (by decide) (by decide)) (show gC 483 = (7, 24, 0) from rfl) (by decide) rfl rfl hl.1 (Nat.le_of_ble_eq_true rfl) dX7_pass_18 ⟨Nat.zero_le _, Nat.zero_le _⟩ rfl rfl (fun H locs hG hS => ?_)
    refine lv_if_eq (tgt := 26) hx hb dX7_pass_21 (by decide) (fun c_3 => ?_) (fun c_3 => absurd (by decide) c_3)
    refine lv_aload_n hx hb dX7_pass_26 rfl (lv_at hl 0 rfl) ?_
    refine g_callV (As := []) (rest := []) (st1 := []) hF (mX7_note M R O hL (upd A 0 0) T D N V I K B  hA hA14) (cwV 0 hts gX7_pass_X7_note rfl rfl rfl (by decide +kernel) ⟨Nat.le_of_ble_eq_true rfl, Nat.le_of_ble_eq_true rfl⟩) hK hZ hG hS (hL.1 483 (by decide) (by decide)) (show gC 483 = (7, 24, 0) from rfl) (by decide) rfl rfl hl.1 (Nat.le_of_ble_eq_true rfl) dX7_pass_27 ⟨Nat.zero_le _, Nat.zero_le _⟩ rfl rfl (fun H locs hG hS => ?_)
    refine lv_aload_n hx hb dX7_pass_30 rfl (lv_at hl 0 rfl) ?_
    refine gM_getr hx hb hts in_X7 hown hK hL hG 5 (by decide) rfl hL.2.2.2.1 k_2 (fun _ h => h) dX7_pass_31 ?_
    refine lv_bipush (v := 10) hx hb dX7_pass_34 (by decide) ?_
    refine gm_ald hx hb hK hG (hL.1 486 (by decide) (by decide)) (show gC 486 = (9, 27, 0) from rfl) (show gLen 486 = 131 from rfl) (by decide) (j := 10) rfl (by omega) (v := N 10) rfl dX7_pass_36 ?_
    refine lv_istore_n (lv' := [(2, .int (N 10)), (0, .ref (gad Γ 483)), (1, .int a)]) hx hb dX7_pass_37 rfl hl (by decide) rfl (fun ls hl => ?_)
    refine lv_iconst (v := 0) hx hb dX7_pass_38 (by decide) ?_
    refine lv_istore_n (lv' := [(3, .int 0), (2, .int (N 10)), (0, .ref (gad Γ 483)), (1, .int a)]) hx hb dX7_pass_39 rfl hl (by decide) rfl (fun ls hl => ?_)
    refine g_loop (N := a.toNatClampNeg) (fun k H locs ls => GH Γ (mS M (fX7_note_A (upd A 0 0) T D N V I K B ) T D (fX7_pass_L  N k) V (fX7_note_I (upd A 0 0) T D N V I K B ) K B) R O H ∧ va_S (gA Γ) s.heap H locs ∧ lv_has ls 4 [(0, .ref (gad Γ 483)), (1, .int a), (2, .int (N 10)), (3, .int (nI k))]) ?_ ?_ 0 (Nat.zero_le _) _ _ _ ⟨hG, hS, lv_sub hl [2, 3, 1, 0] rfl⟩
    · rintro H locs ls ⟨hG, hS, hl⟩
      refine lv_iload_n hx hb dX7_pass_40 rfl (lv_at hl 3 rfl) ?_
      refine lv_iload_n hx hb dX7_pass_41 rfl (lv_at hl 1 rfl) ?_
      refine lv_icmp_ge (tgt := 58) hx hb dX7_pass_42 (by decide) (fun c_4 => ?_) (fun c_4 => absurd (cl_le _) c_4)
      refine lv_aload_n hx hb dX7_pass_58 rfl (lv_at hl 0 rfl) ?_
      refine gM_getr hx hb hts in_X7 hown hK hL hG 5 (by decide) rfl hL.2.2.2.1 k_2 (fun _ h => h) dX7_pass_59 ?_
      refine lv_bipush (v := 10) hx hb dX7_pass_62 (by decide) ?_
      refine gm_ald hx hb hK hG (hL.1 486 (by decide) (by decide)) (show gC 486 = (9, 27, 0) from rfl) (show gLen 486 = 131 from rfl) (by decide) (j := 10) rfl (by omega) (v := (fX7_pass_L  N a.toNatClampNeg) 10) rfl dX7_pass_64 ?_
      refine lv_iload_n hx hb dX7_pass_65 rfl (lv_at hl 2 rfl) ?_
      refine lv_isub hx hb dX7_pass_66 ?_
      exact g_iret hx hb hrt hlocks hS hG (by unfold fX7_pass_v; rw [if_neg c_1]) (mS_c (by unfold fX7_pass_A; rw [if_neg c_1]) rfl rfl (by unfold fX7_pass_N; rw [if_neg c_1]) rfl (by unfold fX7_pass_I; rw [if_neg c_1]) rfl rfl) dX7_pass_67
    · rintro k hk_k ih_k H locs ls ⟨hG, hS, hl⟩
      refine lv_iload_n hx hb dX7_pass_40 rfl (lv_at hl 3 rfl) ?_
      refine lv_iload_n hx hb dX7_pass_41 rfl (lv_at hl 1 rfl) ?_
      refine lv_icmp_ge (tgt := 58) hx hb dX7_pass_42 (by decide) (fun c_5 => absurd c_5 (cl_ge hk_k)) (fun c_5 => ?_)
      refine lv_aload_n hx hb dX7_pass_45 rfl (lv_at hl 0 rfl) ?_
      refine gM_getr hx hb hts in_X7 hown hK hL hG 5 (by decide) rfl hL.2.2.2.1 k_2 (fun _ h => h) dX7_pass_46 ?_
      refine g_callS (As := [.ref (gad Γ 486)]) (rest := []) (st1 := []) hF (mX7_hourOn (mS M (fX7_note_A (upd A 0 0) T D N V I K B ) T D (fX7_pass_L  N k) V (fX7_note_I (upd A 0 0) T D N V I K B ) K B) R O (hL.1 486 (by decide) (by decide)) (show gC 486 = (9, 27, 0) from rfl) (show gLen 486 = 131 from rfl) (fX7_pass_L  N k) (fX7_pass_WS hN k)) (va_cwS 1 hts gX7_pass_X7_hourOn rfl rfl rfl (by decide +kernel) ⟨Nat.le_of_ble_eq_true rfl, Nat.le_of_ble_eq_true rfl⟩) hK hZ (g_st (show _ = va_up (mS M (fX7_note_A (upd A 0 0) T D N V I K B ) T D (fX7_pass_L  N k) V (fX7_note_I (upd A 0 0) T D N V I K B ) K B) 27 (fX7_pass_L  N k) from (mS_u27 _ _ _ _ _ _ _ _ _ _).symm) hG) hS rfl hl.1 (Nat.le_of_ble_eq_true rfl) dX7_pass_49 ⟨Nat.zero_le _, Nat.zero_le _⟩ rfl rfl (fun H locs hG hS => ?_)
      replace hG : GH Γ (mS M (fX7_note_A (upd A 0 0) T D N V I K B ) T D (fX7_hourOn_P (fX7_pass_L  N k)) V (fX7_note_I (upd A 0 0) T D N V I K B ) K B) R O H := g_st (mS_u27 _ _ _ _ _ _ _ _ _ _) hG
      refine lv_iinc (v := nI (k + 1)) (lv' := [(3, .int (nI (k + 1))), (0, .ref (gad Γ 483)), (1, .int a), (2, .int (N 10))]) hx hb dX7_pass_52 hl (k := 3) rfl (nI_1 _) (by decide) rfl (fun ls hl => ?_)
      refine lv_goto (tgt := 40) hx hb dX7_pass_55 (by decide) ?_
      exact ih_k _ _ _ ⟨hG, hS, lv_sub hl [1, 2, 3, 0] rfl⟩

def fX7_undo_v (A T D N V I K B : Nat → Int32)  : Int32 := if (A 8) = 0 then 0 else (upd (upd A 0 0) 8 (((upd A 0 0) 8) - 1)) 8
def fX7_undo_A (A T D N V I K B : Nat → Int32)  : Nat → Int32 := if (A 8) = 0 then upd A 0 1 else upd (upd A 0 0) 8 (((upd A 0 0) 8) - 1)
def fX7_undo_N (A T D N V I K B : Nat → Int32)  : Nat → Int32 := if (A 8) = 0 then N else fX7_copyPage_P I N (131 * ((A 8).toNatClampNeg - 1)) 0
set_option maxHeartbeats 4000000 in
set_option maxRecDepth 100000 in
theorem mX7_undo {l : Launch} {Γ : gX} (M : Nat → Nat → Int32) (R : Nat → Nat → Option Nat) (O : Int64) (hL : LM Γ R) (A T D N V I K B : Nat → Int32) (hA : A 8 = nI (A 8).toNatClampNeg) (hA14 : (A 8).toNatClampNeg ≤ 14) : gMet l Γ yX7_undo wsX7_undo 1 24 [.ref (gad Γ 483)] (mS M A T D N V I K B) R O (some (.int (fX7_undo_v A T D N V I K B ))) (mS M (fX7_undo_A A T D N V I K B ) T D (fX7_undo_N A T D N V I K B ) V I K B) R O := by
  refine g_start (cc := cX7_undo) (maxL := 1) (ret := (some .int)) (by decide) rfl (Nat.le_of_ble_eq_true rfl) ?_
  intro p e s m below meth c ls hx hb hml hrt hts hown hlocks hname hK hZ hG hS hl
  have hl : lv_has ls 1 [(0, .ref (gad Γ 483))] := hl
  have hown : s.vm.findClass RX7 = some m.cls := hown
  have hF : CallFix p m c cX7_undo 1 s _ wsX7_undo RX7 := ⟨hx, hb, hml, hown, hts⟩
  have k_1 : (Cond.fieldLink RX7 143 "RoadDustModel" "acts" "I").before _ s = true := hts _ (by decide +kernel)
  have in_X7 : ∀ w ∈ wsX70, w ∈ wsX7_undo := by decide +kernel
  have k_3 : (Cond.fieldLink RX7 22 "RoadDustModel" "diary" "[I").before _ s = true := hts _ (by decide +kernel)
  have k_4 : (Cond.fieldLink RX7 16 "RoadDustModel" "now" "[I").before _ s = true := hts _ (by decide +kernel)
  refine lv_aload_n hx hb dX7_undo_0 rfl (lv_at hl 0 rfl) ?_
  refine lv_aload_n hx hb dX7_undo_1 rfl (lv_at hl 0 rfl) ?_
  refine gM_get hx hb hts in_X7 hown hK hL hG 8 (by decide) rfl k_1 (fun _ h => h) dX7_undo_2 ?_
  refine lv_if_ne (tgt := 12) hx hb dX7_undo_5 (by decide) (fun c_1 => ?_) (fun c_1 => ?_)
  · --T
    refine lv_iconst (v := 0) hx hb dX7_undo_12 (by decide) ?_
    refine g_callV (As := [.int 0]) (rest := []) (st1 := [.int 0]) hF (mX7_refused_l M R O hL A T D N V I K B 0 0 (by decide)) (cwV 1 hts gX7_undo_X7_refused rfl rfl rfl (by decide +kernel) ⟨Nat.le_of_ble_eq_true rfl, Nat.le_of_ble_eq_true rfl⟩) hK hZ hG hS (hL.1 483 (by decide) (by decide)) (show gC 483 = (7, 24, 0) from rfl) (by decide) rfl rfl hl.1 (Nat.le_of_ble_eq_true rfl) dX7_undo_13 ⟨Nat.zero_le _, Nat.zero_le _⟩ rfl rfl (fun H locs hG hS => ?_)
    refine lv_if_eq (tgt := 21) hx hb dX7_undo_16 (by decide) (fun c_2 => ?_) (fun c_2 => absurd (by decide) c_2)
    refine lv_aload_n hx hb dX7_undo_21 rfl (lv_at hl 0 rfl) ?_
    refine lv_dup hx hb dX7_undo_22 rfl ?_
    refine gM_get hx hb hts in_X7 hown hK hL hG 8 (by decide) rfl k_1 (fun _ h => h) dX7_undo_23 ?_
    refine lv_iconst (v := 1) hx hb dX7_undo_26 (by decide) ?_
    refine lv_isub hx hb dX7_undo_27 ?_
    refine gM_put hx hb hts in_X7 hown hK hL hG hS 8 (by decide) rfl k_1 (fun _ h => h) rfl (by decide +kernel) dX7_undo_28 (fun H locs hG hS => ?_)
    refine lv_aload_n hx hb dX7_undo_31 rfl (lv_at hl 0 rfl) ?_
    refine gM_getr hx hb hts in_X7 hown hK hL hG 7 (by decide) rfl hL.2.2.2.2.2.1 k_3 (fun _ h => h) dX7_undo_32 ?_
    refine lv_sipush (v := 131) hx hb dX7_undo_35 (by decide) ?_
    refine lv_aload_n hx hb dX7_undo_38 rfl (lv_at hl 0 rfl) ?_
    refine gM_get hx hb hts in_X7 hown hK hL hG 8 (by decide) rfl k_1 (fun _ h => h) dX7_undo_39 ?_
    refine lv_imul hx hb dX7_undo_42 ?_
    refine lv_aload_n hx hb dX7_undo_43 rfl (lv_at hl 0 rfl) ?_
    refine gM_getr hx hb hts in_X7 hown hK hL hG 5 (by decide) rfl hL.2.2.2.1 k_4 (fun _ h => h) dX7_undo_44 ?_
    refine lv_iconst (v := 0) hx hb dX7_undo_47 (by decide) ?_
    refine g_callS (As := [.ref (gad Γ 488), .int (131 * ((upd (upd A 0 0) 8 (((upd A 0 0) 8) - 1)) 8)), .ref (gad Γ 486), .int 0]) (rest := []) (st1 := []) hF (mX7_copyPage (mS M (upd (upd A 0 0) 8 (((upd A 0 0) 8) - 1)) T D N V I K B) R O (hL.1 488 (by decide) (by decide)) (show gC 488 = (9, 29, 0) from rfl) (show gLen 488 = 1834 from rfl) (hL.1 486 (by decide) (by decide)) (show gC 486 = (9, 27, 0) from rfl) (show gLen 486 = 131 from rfl) (by decide) (131 * ((A 8).toNatClampNeg - 1)) 0 (mul_pl (sub1_pl hA c_1)) rfl (by omega) (by omega) (by decide) (by decide) N) (va_cwS 4 hts gX7_undo_X7_copyPage rfl rfl rfl (by decide +kernel) ⟨Nat.le_of_ble_eq_true rfl, Nat.le_of_ble_eq_true rfl⟩) hK hZ (g_st (show _ = va_up (mS M (upd (upd A 0 0) 8 (((upd A 0 0) 8) - 1)) T D N V I K B) 27 N from (mS_u27 _ _ _ _ _ _ _ _ _ _).symm) hG) hS rfl hl.1 (Nat.le_of_ble_eq_true rfl) dX7_undo_48 ⟨Nat.zero_le _, Nat.zero_le _⟩ rfl rfl (fun H locs hG hS => ?_)
    replace hG : GH Γ (mS M (upd (upd A 0 0) 8 (((upd A 0 0) 8) - 1)) T D (fX7_copyPage_P I N (131 * ((A 8).toNatClampNeg - 1)) 0) V I K B) R O H := g_st (mS_u27 _ _ _ _ _ _ _ _ _ _) hG
    refine lv_aload_n hx hb dX7_undo_51 rfl (lv_at hl 0 rfl) ?_
    refine gM_get hx hb hts in_X7 hown hK hL hG 8 (by decide) rfl k_1 (fun _ h => h) dX7_undo_52 ?_
    exact g_iret hx hb hrt hlocks hS hG (by unfold fX7_undo_v; rw [if_neg c_1]) (mS_c (by unfold fX7_undo_A; rw [if_neg c_1]) rfl rfl (by unfold fX7_undo_N; rw [if_neg c_1]) rfl rfl rfl rfl) dX7_undo_55
  · --F
    refine lv_iconst (v := 1) hx hb dX7_undo_8 (by decide) ?_
    refine lv_goto (tgt := 13) hx hb dX7_undo_9 (by decide) ?_
    refine g_callV (As := [.int 1]) (rest := []) (st1 := [.int 1]) hF (mX7_refused_l M R O hL A T D N V I K B 1 1 (by decide)) (cwV 1 hts gX7_undo_X7_refused rfl rfl rfl (by decide +kernel) ⟨Nat.le_of_ble_eq_true rfl, Nat.le_of_ble_eq_true rfl⟩) hK hZ hG hS (hL.1 483 (by decide) (by decide)) (show gC 483 = (7, 24, 0) from rfl) (by decide) rfl rfl hl.1 (Nat.le_of_ble_eq_true rfl) dX7_undo_13 ⟨Nat.zero_le _, Nat.zero_le _⟩ rfl rfl (fun H locs hG hS => ?_)
    refine lv_if_eq (tgt := 21) hx hb dX7_undo_16 (by decide) (fun c_3 => absurd c_3 (by decide)) (fun c_3 => ?_)
    refine lv_iconst (v := 0) hx hb dX7_undo_19 (by decide) ?_
    exact g_iret hx hb hrt hlocks hS hG (by unfold fX7_undo_v; rw [if_pos c_1]) (mS_c (by unfold fX7_undo_A; rw [if_pos c_1]) rfl rfl (by unfold fX7_undo_N; rw [if_pos c_1]) rfl rfl rfl rfl) dX7_undo_20

