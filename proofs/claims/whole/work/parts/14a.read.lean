/-! THE REFERENCE: signs and digits. Laid by gen/p14.py. -/
def RA (A : Nat → Int32) : Prop := (A 2 = nI (A 2).toNatClampNeg ∧ (A 2).toNatClampNeg ≤ 70) ∧ A 3 = nI (A 3).toNatClampNeg ∧ (A 3).toNatClampNeg ≤ 70
theorem lt_pl {x y : Int32} {n k : Nat} (h : x = nI n) (h2 : y = nI k) (hk : k < 2 ^ 31) (hn : n < 2 ^ 31) (c : ¬ x ≤ y) : k < n := by
  subst h; subst h2
  rcases Nat.lt_or_ge k n with q | q
  · exact q
  · exact absurd (nI_le q hk) c
def fX7_eat_v (A T D N V I K B : Nat → Int32) (a : Int32) : Int32 := if (A 2) ≤ (A 3) then 0 else if (T ((A 3).toNatClampNeg)) = a then 1 else 0
def fX7_eat_A (A T D N V I K B : Nat → Int32) (a : Int32) : Nat → Int32 := if (A 2) ≤ (A 3) then upd A 3 ((A 3) + 0) else if (T ((A 3).toNatClampNeg)) = a then upd A 3 ((A 3) + 1) else upd A 3 ((A 3) + 0)
set_option maxHeartbeats 4000000 in
set_option maxRecDepth 100000 in
theorem mX7_eat {l : Launch} {Γ : gX} (M : Nat → Nat → Int32) (R : Nat → Nat → Option Nat) (O : Int64) (hL : LM Γ R) (A T D N V I K B : Nat → Int32) (a : Int32) (hA : RA A) : gMet l Γ yX7_eat wsX7_eat 0 0 [.ref (gad Γ 483), .int a] (mS M A T D N V I K B) R O (some (.int (fX7_eat_v A T D N V I K B a))) (mS M (fX7_eat_A A T D N V I K B a) T D N V I K B) R O := by
  refine g_start (cc := cX7_eat) (maxL := 3) (ret := (some .boolean)) (by decide) rfl (Nat.le_of_ble_eq_true rfl) ?_
  intro p e s m below meth c ls hx hb hml hrt hts hown hlocks hname hK hZ hG hS hl
  have hl : lv_has ls 3 [(0, .ref (gad Γ 483)), (1, .int a)] := hl
  have hown : s.vm.findClass RX7 = some m.cls := hown
  have hF : CallFix p m c cX7_eat 3 s _ wsX7_eat RX7 := ⟨hx, hb, hml, hown, hts⟩
  have k_1 : (Cond.fieldLink RX7 99 "RoadDustModel" "spot" "I").before _ s = true := hts _ (by decide +kernel)
  have in_X7 : ∀ w ∈ wsX70, w ∈ wsX7_eat := by decide +kernel
  have k_3 : (Cond.fieldLink RX7 92 "RoadDustModel" "textSize" "I").before _ s = true := hts _ (by decide +kernel)
  have k_4 : (Cond.fieldLink RX7 7 "RoadDustModel" "text" "[I").before _ s = true := hts _ (by decide +kernel)
  have ra2 := hA.1.2
  have ra3 := hA.2.2
  refine lv_aload_n hx hb dX7_eat_0 rfl (lv_at hl 0 rfl) ?_
  refine gM_get hx hb hts in_X7 hown hK hL hG 3 (by decide) rfl k_1 (fun _ h => h) dX7_eat_1 ?_
  refine lv_aload_n hx hb dX7_eat_4 rfl (lv_at hl 0 rfl) ?_
  refine gM_get hx hb hts in_X7 hown hK hL hG 2 (by decide) rfl k_3 (fun _ h => h) dX7_eat_5 ?_
  refine lv_icmp_ge (tgt := 28) hx hb dX7_eat_8 (by decide) (fun c_1 => ?_) (fun c_1 => ?_)
  · --T
    refine lv_iconst (v := 0) hx hb dX7_eat_28 (by decide) ?_
    refine lv_istore_n (lv' := [(2, .int 0), (0, .ref (gad Γ 483)), (1, .int a)]) hx hb dX7_eat_29 rfl hl (by decide) rfl (fun ls hl => ?_)
    refine lv_aload_n hx hb dX7_eat_30 rfl (lv_at hl 1 rfl) ?_
    refine lv_dup hx hb dX7_eat_31 rfl ?_
    refine gM_get hx hb hts in_X7 hown hK hL hG 3 (by decide) rfl k_1 (fun _ h => h) dX7_eat_32 ?_
    refine lv_iload_n hx hb dX7_eat_35 rfl (lv_at hl 0 rfl) ?_
    refine lv_if_eq (tgt := 43) hx hb dX7_eat_36 (by decide) (fun c_2 => ?_) (fun c_2 => absurd (by decide) c_2)
    refine lv_iconst (v := 0) hx hb dX7_eat_43 (by decide) ?_
    refine lv_iadd hx hb dX7_eat_44 ?_
    refine gM_put hx hb hts in_X7 hown hK hL hG hS 3 (by decide) rfl k_1 (fun _ h => h) rfl (by decide +kernel) dX7_eat_45 (fun H locs hG hS => ?_)
    refine lv_iload_n hx hb dX7_eat_48 rfl (lv_at hl 0 rfl) ?_
    exact g_zret hx hb hrt hlocks hS hG (by decide) (by unfold fX7_eat_v; rw [if_pos c_1]) (mS_c (by unfold fX7_eat_A; rw [if_pos c_1]) rfl rfl rfl rfl rfl rfl rfl) dX7_eat_49
  · --F
    have q_1 := lt_pl hA.1.1 hA.2.1 (by omega) (by omega) c_1
    refine lv_aload_n hx hb dX7_eat_11 rfl (lv_at hl 0 rfl) ?_
    refine gM_getr hx hb hts in_X7 hown hK hL hG 1 (by decide) rfl hL.2.1 k_4 (fun _ h => h) dX7_eat_12 ?_
    refine lv_aload_n hx hb dX7_eat_15 rfl (lv_at hl 0 rfl) ?_
    refine gM_get hx hb hts in_X7 hown hK hL hG 3 (by decide) rfl k_1 (fun _ h => h) dX7_eat_16 ?_
    refine gm_ald hx hb hK hG (hL.1 484 (by decide) (by decide)) (show gC 484 = (9, 25, 0) from rfl) (show gLen 484 = 70 from rfl) (by decide) (j := (A 3).toNatClampNeg) hA.2.1 (by omega) (v := T ((A 3).toNatClampNeg)) (mS_a25 _ _ _ _ _ _ _ _ _ _) dX7_eat_19 ?_
    refine lv_iload_n hx hb dX7_eat_20 rfl (lv_at hl 1 rfl) ?_
    refine lv_icmp_ne (tgt := 28) hx hb dX7_eat_21 (by decide) (fun c_3 => ?_) (fun c_3 => ?_)
    · --T
      refine lv_iconst (v := 0) hx hb dX7_eat_28 (by decide) ?_
      refine lv_istore_n (lv' := [(2, .int 0), (0, .ref (gad Γ 483)), (1, .int a)]) hx hb dX7_eat_29 rfl hl (by decide) rfl (fun ls hl => ?_)
      refine lv_aload_n hx hb dX7_eat_30 rfl (lv_at hl 1 rfl) ?_
      refine lv_dup hx hb dX7_eat_31 rfl ?_
      refine gM_get hx hb hts in_X7 hown hK hL hG 3 (by decide) rfl k_1 (fun _ h => h) dX7_eat_32 ?_
      refine lv_iload_n hx hb dX7_eat_35 rfl (lv_at hl 0 rfl) ?_
      refine lv_if_eq (tgt := 43) hx hb dX7_eat_36 (by decide) (fun c_4 => ?_) (fun c_4 => absurd (by decide) c_4)
      refine lv_iconst (v := 0) hx hb dX7_eat_43 (by decide) ?_
      refine lv_iadd hx hb dX7_eat_44 ?_
      refine gM_put hx hb hts in_X7 hown hK hL hG hS 3 (by decide) rfl k_1 (fun _ h => h) rfl (by decide +kernel) dX7_eat_45 (fun H locs hG hS => ?_)
      refine lv_iload_n hx hb dX7_eat_48 rfl (lv_at hl 0 rfl) ?_
      exact g_zret hx hb hrt hlocks hS hG (by decide) (by unfold fX7_eat_v; rw [if_neg c_1, if_neg c_3]) (mS_c (by unfold fX7_eat_A; rw [if_neg c_1, if_neg c_3]) rfl rfl rfl rfl rfl rfl rfl) dX7_eat_49
    · --F
      refine lv_iconst (v := 1) hx hb dX7_eat_24 (by decide) ?_
      refine lv_goto (tgt := 29) hx hb dX7_eat_25 (by decide) ?_
      refine lv_istore_n (lv' := [(2, .int 1), (0, .ref (gad Γ 483)), (1, .int a)]) hx hb dX7_eat_29 rfl hl (by decide) rfl (fun ls hl => ?_)
      refine lv_aload_n hx hb dX7_eat_30 rfl (lv_at hl 1 rfl) ?_
      refine lv_dup hx hb dX7_eat_31 rfl ?_
      refine gM_get hx hb hts in_X7 hown hK hL hG 3 (by decide) rfl k_1 (fun _ h => h) dX7_eat_32 ?_
      refine lv_iload_n hx hb dX7_eat_35 rfl (lv_at hl 0 rfl) ?_
      refine lv_if_eq (tgt := 43) hx hb dX7_eat_36 (by decide) (fun c_5 => absurd c_5 (by decide)) (fun c_5 => ?_)
      refine lv_iconst (v := 1) hx hb dX7_eat_39 (by decide) ?_
      refine lv_goto (tgt := 44) hx hb dX7_eat_40 (by decide) ?_
      refine lv_iadd hx hb dX7_eat_44 ?_
      refine gM_put hx hb hts in_X7 hown hK hL hG hS 3 (by decide) rfl k_1 (fun _ h => h) rfl (by decide +kernel) dX7_eat_45 (fun H locs hG hS => ?_)
      refine lv_iload_n hx hb dX7_eat_48 rfl (lv_at hl 0 rfl) ?_
      exact g_zret hx hb hrt hlocks hS hG (by decide) (by unfold fX7_eat_v; rw [if_neg c_1, if_pos c_3]) (mS_c (by unfold fX7_eat_A; rw [if_neg c_1, if_pos c_3]) rfl rfl rfl rfl rfl rfl rfl) dX7_eat_49

def fX7_digit_v (A T D N V I K B : Nat → Int32) (a d : Int32) : Int32 := if (A 2) ≤ (A 3) then if (fX7_in_v ((-1 : Int32).toInt64) 0 9) = 0 then (-9) else if (fX7_in_v ((-1 : Int32).toInt64) a.toInt64 d.toInt64) = 0 then (-9) else (-1) else if (fX7_in_v (((T ((A 3).toNatClampNeg)) - 48).toInt64) 0 9) = 0 then (-9) else if (fX7_in_v (((T ((A 3).toNatClampNeg)) - 48).toInt64) a.toInt64 d.toInt64) = 0 then (-9) else (T ((A 3).toNatClampNeg)) - 48
def fX7_digit_A (A T D N V I K B : Nat → Int32) (a d : Int32) : Nat → Int32 := if (A 2) ≤ (A 3) then if (fX7_in_v ((-1 : Int32).toInt64) 0 9) = 0 then upd A 3 ((A 3) + 0) else if (fX7_in_v ((-1 : Int32).toInt64) a.toInt64 d.toInt64) = 0 then upd A 3 ((A 3) + 0) else upd A 3 ((A 3) + 1) else if (fX7_in_v (((T ((A 3).toNatClampNeg)) - 48).toInt64) 0 9) = 0 then upd A 3 ((A 3) + 0) else if (fX7_in_v (((T ((A 3).toNatClampNeg)) - 48).toInt64) a.toInt64 d.toInt64) = 0 then upd A 3 ((A 3) + 0) else upd A 3 ((A 3) + 1)
set_option maxHeartbeats 4000000 in
set_option maxRecDepth 100000 in
theorem mX7_digit {l : Launch} {Γ : gX} (M : Nat → Nat → Int32) (R : Nat → Nat → Option Nat) (O : Int64) (hL : LM Γ R) (A T D N V I K B : Nat → Int32) (a d : Int32) (hA : RA A) : gMet l Γ yX7_digit wsX7_digit 1 25 [.ref (gad Γ 483), .int a, .int d] (mS M A T D N V I K B) R O (some (.int (fX7_digit_v A T D N V I K B a d))) (mS M (fX7_digit_A A T D N V I K B a d) T D N V I K B) R O := by
  refine g_start (cc := cX7_digit) (maxL := 5) (ret := (some .int)) (by decide) rfl (Nat.le_of_ble_eq_true rfl) ?_
  intro p e s m below meth c ls hx hb hml hrt hts hown hlocks hname hK hZ hG hS hl
  have hl : lv_has ls 5 [(0, .ref (gad Γ 483)), (1, .int a), (2, .int d)] := hl
  have hown : s.vm.findClass RX7 = some m.cls := hown
  have hF : CallFix p m c cX7_digit 5 s _ wsX7_digit RX7 := ⟨hx, hb, hml, hown, hts⟩
  have k_1 : (Cond.fieldLink RX7 99 "RoadDustModel" "spot" "I").before _ s = true := hts _ (by decide +kernel)
  have in_X7 : ∀ w ∈ wsX70, w ∈ wsX7_digit := by decide +kernel
  have k_3 : (Cond.fieldLink RX7 92 "RoadDustModel" "textSize" "I").before _ s = true := hts _ (by decide +kernel)
  have k_4 : (Cond.constantLong RX7 102 (9)).before _ s = true := hts _ (by decide +kernel)
  have k_5 : (Cond.fieldLink RX7 7 "RoadDustModel" "text" "[I").before _ s = true := hts _ (by decide +kernel)
  have ra2 := hA.1.2
  have ra3 := hA.2.2
  refine lv_aload_n hx hb dX7_digit_0 rfl (lv_at hl 0 rfl) ?_
  refine gM_get hx hb hts in_X7 hown hK hL hG 3 (by decide) rfl k_1 (fun _ h => h) dX7_digit_1 ?_
  refine lv_aload_n hx hb dX7_digit_4 rfl (lv_at hl 0 rfl) ?_
  refine gM_get hx hb hts in_X7 hown hK hL hG 2 (by decide) rfl k_3 (fun _ h => h) dX7_digit_5 ?_
  refine lv_icmp_ge (tgt := 26) hx hb dX7_digit_8 (by decide) (fun c_1 => ?_) (fun c_1 => ?_)
  · --T
    refine lv_iconst (v := (-1)) hx hb dX7_digit_26 (by decide) ?_
    refine lv_istore_n (lv' := [(3, .int (-1)), (0, .ref (gad Γ 483)), (1, .int a), (2, .int d)]) hx hb dX7_digit_27 rfl hl (by decide) rfl (fun ls hl => ?_)
    refine lv_iload_n hx hb dX7_digit_28 rfl (lv_at hl 0 rfl) ?_
    refine lv_i2l hx hb dX7_digit_29 rfl ?_
    refine lv_lconst (v := 0) hx hb dX7_digit_30 (by decide) ?_
    refine lv_ldc2 hx hb hown k_4 dX7_digit_31 ?_
    refine g_callS (As := [.long ((-1 : Int32).toInt64), .long 0, .long 9]) (rest := []) (st1 := [.int (fX7_in_v ((-1 : Int32).toInt64) 0 9)]) hF (mX7_in _ R O ((-1 : Int32).toInt64) 0 9) (va_cwS 3 hts gX7_digit_X7_in rfl rfl rfl (by decide +kernel) ⟨Nat.le_of_ble_eq_true rfl, Nat.le_of_ble_eq_true rfl⟩) hK hZ hG hS rfl hl.1 (Nat.le_of_ble_eq_true rfl) dX7_digit_34 ⟨Nat.zero_le _, Nat.zero_le _⟩ rfl rfl (fun H locs hG hS => ?_)
    refine lv_if_eq (tgt := 56) hx hb dX7_digit_37 (by decide) (fun c_2 => ?_) (fun c_2 => ?_)
    · --T
      refine lv_iconst (v := 0) hx hb dX7_digit_56 (by decide) ?_
      refine lv_istore (lv' := [(4, .int 0), (3, .int (-1)), (0, .ref (gad Γ 483)), (1, .int a), (2, .int d)]) hx hb dX7_digit_57 hl (by decide) rfl (fun ls hl => ?_)
      refine lv_aload_n hx hb dX7_digit_59 rfl (lv_at hl 2 rfl) ?_
      refine lv_dup hx hb dX7_digit_60 rfl ?_
      refine gM_get hx hb hts in_X7 hown hK hL hG 3 (by decide) rfl k_1 (fun _ h => h) dX7_digit_61 ?_
      refine lv_iload hx hb dX7_digit_64 (lv_at hl 0 rfl) ?_
      refine lv_if_eq (tgt := 73) hx hb dX7_digit_66 (by decide) (fun c_3 => ?_) (fun c_3 => absurd (by decide) c_3)
      refine lv_iconst (v := 0) hx hb dX7_digit_73 (by decide) ?_
      refine lv_iadd hx hb dX7_digit_74 ?_
      refine gM_put hx hb hts in_X7 hown hK hL hG hS 3 (by decide) rfl k_1 (fun _ h => h) rfl (by decide +kernel) dX7_digit_75 (fun H locs hG hS => ?_)
      refine lv_iload hx hb dX7_digit_78 (lv_at hl 0 rfl) ?_
      refine lv_if_eq (tgt := 87) hx hb dX7_digit_80 (by decide) (fun c_4 => ?_) (fun c_4 => absurd (by decide) c_4)
      refine lv_bipush (v := (-9)) hx hb dX7_digit_87 (by decide) ?_
      exact g_iret hx hb hrt hlocks hS hG (by unfold fX7_digit_v; rw [if_pos c_1, if_pos c_2]) (mS_c (by unfold fX7_digit_A; rw [if_pos c_1, if_pos c_2]) rfl rfl rfl rfl rfl rfl rfl) dX7_digit_89
    · --F
      refine lv_iload_n hx hb dX7_digit_40 rfl (lv_at hl 0 rfl) ?_
      refine lv_i2l hx hb dX7_digit_41 rfl ?_
      refine lv_iload_n hx hb dX7_digit_42 rfl (lv_at hl 2 rfl) ?_
      refine lv_i2l hx hb dX7_digit_43 rfl ?_
      refine lv_iload_n hx hb dX7_digit_44 rfl (lv_at hl 3 rfl) ?_
      refine lv_i2l hx hb dX7_digit_45 rfl ?_
      refine g_callS (As := [.long ((-1 : Int32).toInt64), .long a.toInt64, .long d.toInt64]) (rest := []) (st1 := [.int (fX7_in_v ((-1 : Int32).toInt64) a.toInt64 d.toInt64)]) hF (mX7_in _ R O ((-1 : Int32).toInt64) a.toInt64 d.toInt64) (va_cwS 3 hts gX7_digit_X7_in rfl rfl rfl (by decide +kernel) ⟨Nat.le_of_ble_eq_true rfl, Nat.le_of_ble_eq_true rfl⟩) hK hZ hG hS rfl hl.1 (Nat.le_of_ble_eq_true rfl) dX7_digit_46 ⟨Nat.zero_le _, Nat.zero_le _⟩ rfl rfl (fun H locs hG hS => ?_)
      refine lv_if_eq (tgt := 56) hx hb dX7_digit_49 (by decide) (fun c_5 => ?_) (fun c_5 => ?_)
      · --T
        refine lv_iconst (v := 0) hx hb dX7_digit_56 (by decide) ?_
        refine lv_istore (lv' := [(4, .int 0), (3, .int (-1)), (0, .ref (gad Γ 483)), (1, .int a), (2, .int d)]) hx hb dX7_digit_57 hl (by decide) rfl (fun ls hl => ?_)
        refine lv_aload_n hx hb dX7_digit_59 rfl (lv_at hl 2 rfl) ?_
        refine lv_dup hx hb dX7_digit_60 rfl ?_
        refine gM_get hx hb hts in_X7 hown hK hL hG 3 (by decide) rfl k_1 (fun _ h => h) dX7_digit_61 ?_
        refine lv_iload hx hb dX7_digit_64 (lv_at hl 0 rfl) ?_
        refine lv_if_eq (tgt := 73) hx hb dX7_digit_66 (by decide) (fun c_6 => ?_) (fun c_6 => absurd (by decide) c_6)
        refine lv_iconst (v := 0) hx hb dX7_digit_73 (by decide) ?_
        refine lv_iadd hx hb dX7_digit_74 ?_
        refine gM_put hx hb hts in_X7 hown hK hL hG hS 3 (by decide) rfl k_1 (fun _ h => h) rfl (by decide +kernel) dX7_digit_75 (fun H locs hG hS => ?_)
        refine lv_iload hx hb dX7_digit_78 (lv_at hl 0 rfl) ?_
        refine lv_if_eq (tgt := 87) hx hb dX7_digit_80 (by decide) (fun c_7 => ?_) (fun c_7 => absurd (by decide) c_7)
        refine lv_bipush (v := (-9)) hx hb dX7_digit_87 (by decide) ?_
        exact g_iret hx hb hrt hlocks hS hG (by unfold fX7_digit_v; rw [if_pos c_1, if_neg c_2, if_pos c_5]) (mS_c (by unfold fX7_digit_A; rw [if_pos c_1, if_neg c_2, if_pos c_5]) rfl rfl rfl rfl rfl rfl rfl) dX7_digit_89
      · --F
        refine lv_iconst (v := 1) hx hb dX7_digit_52 (by decide) ?_
        refine lv_goto (tgt := 57) hx hb dX7_digit_53 (by decide) ?_
        refine lv_istore (lv' := [(4, .int 1), (3, .int (-1)), (0, .ref (gad Γ 483)), (1, .int a), (2, .int d)]) hx hb dX7_digit_57 hl (by decide) rfl (fun ls hl => ?_)
        refine lv_aload_n hx hb dX7_digit_59 rfl (lv_at hl 2 rfl) ?_
        refine lv_dup hx hb dX7_digit_60 rfl ?_
        refine gM_get hx hb hts in_X7 hown hK hL hG 3 (by decide) rfl k_1 (fun _ h => h) dX7_digit_61 ?_
        refine lv_iload hx hb dX7_digit_64 (lv_at hl 0 rfl) ?_
        refine lv_if_eq (tgt := 73) hx hb dX7_digit_66 (by decide) (fun c_8 => absurd c_8 (by decide)) (fun c_8 => ?_)
        refine lv_iconst (v := 1) hx hb dX7_digit_69 (by decide) ?_
        refine lv_goto (tgt := 74) hx hb dX7_digit_70 (by decide) ?_
        refine lv_iadd hx hb dX7_digit_74 ?_
        refine gM_put hx hb hts in_X7 hown hK hL hG hS 3 (by decide) rfl k_1 (fun _ h => h) rfl (by decide +kernel) dX7_digit_75 (fun H locs hG hS => ?_)
        refine lv_iload hx hb dX7_digit_78 (lv_at hl 0 rfl) ?_
        refine lv_if_eq (tgt := 87) hx hb dX7_digit_80 (by decide) (fun c_9 => absurd c_9 (by decide)) (fun c_9 => ?_)
        refine lv_iload_n hx hb dX7_digit_83 rfl (lv_at hl 1 rfl) ?_
        refine lv_goto (tgt := 89) hx hb dX7_digit_84 (by decide) ?_
        exact g_iret hx hb hrt hlocks hS hG (by unfold fX7_digit_v; rw [if_pos c_1, if_neg c_2, if_neg c_5]) (mS_c (by unfold fX7_digit_A; rw [if_pos c_1, if_neg c_2, if_neg c_5]) rfl rfl rfl rfl rfl rfl rfl) dX7_digit_89
  · --F
    have q_1 := lt_pl hA.1.1 hA.2.1 (by omega) (by omega) c_1
    refine lv_aload_n hx hb dX7_digit_11 rfl (lv_at hl 0 rfl) ?_
    refine gM_getr hx hb hts in_X7 hown hK hL hG 1 (by decide) rfl hL.2.1 k_5 (fun _ h => h) dX7_digit_12 ?_
    refine lv_aload_n hx hb dX7_digit_15 rfl (lv_at hl 0 rfl) ?_
    refine gM_get hx hb hts in_X7 hown hK hL hG 3 (by decide) rfl k_1 (fun _ h => h) dX7_digit_16 ?_
    refine gm_ald hx hb hK hG (hL.1 484 (by decide) (by decide)) (show gC 484 = (9, 25, 0) from rfl) (show gLen 484 = 70 from rfl) (by decide) (j := (A 3).toNatClampNeg) hA.2.1 (by omega) (v := T ((A 3).toNatClampNeg)) (mS_a25 _ _ _ _ _ _ _ _ _ _) dX7_digit_19 ?_
    refine lv_bipush (v := 48) hx hb dX7_digit_20 (by decide) ?_
    refine lv_isub hx hb dX7_digit_22 ?_
    refine lv_goto (tgt := 27) hx hb dX7_digit_23 (by decide) ?_
    refine lv_istore_n (lv' := [(3, .int ((T ((A 3).toNatClampNeg)) - 48)), (0, .ref (gad Γ 483)), (1, .int a), (2, .int d)]) hx hb dX7_digit_27 rfl hl (by decide) rfl (fun ls hl => ?_)
    refine lv_iload_n hx hb dX7_digit_28 rfl (lv_at hl 0 rfl) ?_
    refine lv_i2l hx hb dX7_digit_29 rfl ?_
    refine lv_lconst (v := 0) hx hb dX7_digit_30 (by decide) ?_
    refine lv_ldc2 hx hb hown k_4 dX7_digit_31 ?_
    refine g_callS (As := [.long (((T ((A 3).toNatClampNeg)) - 48).toInt64), .long 0, .long 9]) (rest := []) (st1 := [.int (fX7_in_v (((T ((A 3).toNatClampNeg)) - 48).toInt64) 0 9)]) hF (mX7_in _ R O (((T ((A 3).toNatClampNeg)) - 48).toInt64) 0 9) (va_cwS 3 hts gX7_digit_X7_in rfl rfl rfl (by decide +kernel) ⟨Nat.le_of_ble_eq_true rfl, Nat.le_of_ble_eq_true rfl⟩) hK hZ hG hS rfl hl.1 (Nat.le_of_ble_eq_true rfl) dX7_digit_34 ⟨Nat.zero_le _, Nat.zero_le _⟩ rfl rfl (fun H locs hG hS => ?_)
    refine lv_if_eq (tgt := 56) hx hb dX7_digit_37 (by decide) (fun c_10 => ?_) (fun c_10 => ?_)
    · --T
      refine lv_iconst (v := 0) hx hb dX7_digit_56 (by decide) ?_
      refine lv_istore (lv' := [(4, .int 0), (3, .int ((T ((A 3).toNatClampNeg)) - 48)), (0, .ref (gad Γ 483)), (1, .int a), (2, .int d)]) hx hb dX7_digit_57 hl (by decide) rfl (fun ls hl => ?_)
      refine lv_aload_n hx hb dX7_digit_59 rfl (lv_at hl 2 rfl) ?_
      refine lv_dup hx hb dX7_digit_60 rfl ?_
      refine gM_get hx hb hts in_X7 hown hK hL hG 3 (by decide) rfl k_1 (fun _ h => h) dX7_digit_61 ?_
      refine lv_iload hx hb dX7_digit_64 (lv_at hl 0 rfl) ?_
      refine lv_if_eq (tgt := 73) hx hb dX7_digit_66 (by decide) (fun c_11 => ?_) (fun c_11 => absurd (by decide) c_11)
      refine lv_iconst (v := 0) hx hb dX7_digit_73 (by decide) ?_
      refine lv_iadd hx hb dX7_digit_74 ?_
      refine gM_put hx hb hts in_X7 hown hK hL hG hS 3 (by decide) rfl k_1 (fun _ h => h) rfl (by decide +kernel) dX7_digit_75 (fun H locs hG hS => ?_)
      refine lv_iload hx hb dX7_digit_78 (lv_at hl 0 rfl) ?_
      refine lv_if_eq (tgt := 87) hx hb dX7_digit_80 (by decide) (fun c_12 => ?_) (fun c_12 => absurd (by decide) c_12)
      refine lv_bipush (v := (-9)) hx hb dX7_digit_87 (by decide) ?_
      exact g_iret hx hb hrt hlocks hS hG (by unfold fX7_digit_v; rw [if_neg c_1, if_pos c_10]) (mS_c (by unfold fX7_digit_A; rw [if_neg c_1, if_pos c_10]) rfl rfl rfl rfl rfl rfl rfl) dX7_digit_89
    · --F
      refine lv_iload_n hx hb dX7_digit_40 rfl (lv_at hl 0 rfl) ?_
      refine lv_i2l hx hb dX7_digit_41 rfl ?_
      refine lv_iload_n hx hb dX7_digit_42 rfl (lv_at hl 2 rfl) ?_
      refine lv_i2l hx hb dX7_digit_43 rfl ?_
      refine lv_iload_n hx hb dX7_digit_44 rfl (lv_at hl 3 rfl) ?_
      refine lv_i2l hx hb dX7_digit_45 rfl ?_
      refine g_callS (As := [.long (((T ((A 3).toNatClampNeg)) - 48).toInt64), .long a.toInt64, .long d.toInt64]) (rest := []) (st1 := [.int (fX7_in_v (((T ((A 3).toNatClampNeg)) - 48).toInt64) a.toInt64 d.toInt64)]) hF (mX7_in _ R O (((T ((A 3).toNatClampNeg)) - 48).toInt64) a.toInt64 d.toInt64) (va_cwS 3 hts gX7_digit_X7_in rfl rfl rfl (by decide +kernel) ⟨Nat.le_of_ble_eq_true rfl, Nat.le_of_ble_eq_true rfl⟩) hK hZ hG hS rfl hl.1 (Nat.le_of_ble_eq_true rfl) dX7_digit_46 ⟨Nat.zero_le _, Nat.zero_le _⟩ rfl rfl (fun H locs hG hS => ?_)
      refine lv_if_eq (tgt := 56) hx hb dX7_digit_49 (by decide) (fun c_13 => ?_) (fun c_13 => ?_)
      · --T
        refine lv_iconst (v := 0) hx hb dX7_digit_56 (by decide) ?_
        refine lv_istore (lv' := [(4, .int 0), (3, .int ((T ((A 3).toNatClampNeg)) - 48)), (0, .ref (gad Γ 483)), (1, .int a), (2, .int d)]) hx hb dX7_digit_57 hl (by decide) rfl (fun ls hl => ?_)
        refine lv_aload_n hx hb dX7_digit_59 rfl (lv_at hl 2 rfl) ?_
        refine lv_dup hx hb dX7_digit_60 rfl ?_
        refine gM_get hx hb hts in_X7 hown hK hL hG 3 (by decide) rfl k_1 (fun _ h => h) dX7_digit_61 ?_
        refine lv_iload hx hb dX7_digit_64 (lv_at hl 0 rfl) ?_
        refine lv_if_eq (tgt := 73) hx hb dX7_digit_66 (by decide) (fun c_14 => ?_) (fun c_14 => absurd (by decide) c_14)
        refine lv_iconst (v := 0) hx hb dX7_digit_73 (by decide) ?_
        refine lv_iadd hx hb dX7_digit_74 ?_
        refine gM_put hx hb hts in_X7 hown hK hL hG hS 3 (by decide) rfl k_1 (fun _ h => h) rfl (by decide +kernel) dX7_digit_75 (fun H locs hG hS => ?_)
        refine lv_iload hx hb dX7_digit_78 (lv_at hl 0 rfl) ?_
        refine lv_if_eq (tgt := 87) hx hb dX7_digit_80 (by decide) (fun c_15 => ?_) (fun c_15 => absurd (by decide) c_15)
        refine lv_bipush (v := (-9)) hx hb dX7_digit_87 (by decide) ?_
        exact g_iret hx hb hrt hlocks hS hG (by unfold fX7_digit_v; rw [if_neg c_1, if_neg c_10, if_pos c_13]) (mS_c (by unfold fX7_digit_A; rw [if_neg c_1, if_neg c_10, if_pos c_13]) rfl rfl rfl rfl rfl rfl rfl) dX7_digit_89
      · --F
        refine lv_iconst (v := 1) hx hb dX7_digit_52 (by decide) ?_
        refine lv_goto (tgt := 57) hx hb dX7_digit_53 (by decide) ?_
        refine lv_istore (lv' := [(4, .int 1), (3, .int ((T ((A 3).toNatClampNeg)) - 48)), (0, .ref (gad Γ 483)), (1, .int a), (2, .int d)]) hx hb dX7_digit_57 hl (by decide) rfl (fun ls hl => ?_)
        refine lv_aload_n hx hb dX7_digit_59 rfl (lv_at hl 2 rfl) ?_
        refine lv_dup hx hb dX7_digit_60 rfl ?_
        refine gM_get hx hb hts in_X7 hown hK hL hG 3 (by decide) rfl k_1 (fun _ h => h) dX7_digit_61 ?_
        refine lv_iload hx hb dX7_digit_64 (lv_at hl 0 rfl) ?_
        refine lv_if_eq (tgt := 73) hx hb dX7_digit_66 (by decide) (fun c_16 => absurd c_16 (by decide)) (fun c_16 => ?_)
        refine lv_iconst (v := 1) hx hb dX7_digit_69 (by decide) ?_
        refine lv_goto (tgt := 74) hx hb dX7_digit_70 (by decide) ?_
        refine lv_iadd hx hb dX7_digit_74 ?_
        refine gM_put hx hb hts in_X7 hown hK hL hG hS 3 (by decide) rfl k_1 (fun _ h => h) rfl (by decide +kernel) dX7_digit_75 (fun H locs hG hS => ?_)
        refine lv_iload hx hb dX7_digit_78 (lv_at hl 0 rfl) ?_
        refine lv_if_eq (tgt := 87) hx hb dX7_digit_80 (by decide) (fun c_17 => absurd c_17 (by decide)) (fun c_17 => ?_)
        refine lv_iload_n hx hb dX7_digit_83 rfl (lv_at hl 1 rfl) ?_
        refine lv_goto (tgt := 89) hx hb dX7_digit_84 (by decide) ?_
        exact g_iret hx hb hrt hlocks hS hG (by unfold fX7_digit_v; rw [if_neg c_1, if_neg c_10, if_neg c_13]) (mS_c (by unfold fX7_digit_A; rw [if_neg c_1, if_neg c_10, if_neg c_13]) rfl rfl rfl rfl rfl rfl rfl) dX7_digit_89

def qX7_eat_v (A T : Nat → Int32) (a : Int32) : Int32 := fX7_eat_v A T A A A A A A a
def qX7_eat_A (A T : Nat → Int32) (a : Int32) : Nat → Int32 := fX7_eat_A A T A A A A A A a
theorem mX7_eat_q {l : Launch} {Γ : gX} (M : Nat → Nat → Int32) (R : Nat → Nat → Option Nat) (O : Int64) (hL : LM Γ R) (A T D N V I K B : Nat → Int32) (a : Int32) (hA : RA A) : gMet l Γ yX7_eat wsX7_eat 0 0 [.ref (gad Γ 483), .int a] (mS M A T D N V I K B) R O (some (.int (qX7_eat_v A T a))) (mS M (qX7_eat_A A T a) T D N V I K B) R O := mX7_eat M R O hL A T D N V I K B a hA
def qX7_digit_v (A T : Nat → Int32) (a d : Int32) : Int32 := fX7_digit_v A T A A A A A A a d
def qX7_digit_A (A T : Nat → Int32) (a d : Int32) : Nat → Int32 := fX7_digit_A A T A A A A A A a d
theorem mX7_digit_q {l : Launch} {Γ : gX} (M : Nat → Nat → Int32) (R : Nat → Nat → Option Nat) (O : Int64) (hL : LM Γ R) (A T D N V I K B : Nat → Int32) (a d : Int32) (hA : RA A) : gMet l Γ yX7_digit wsX7_digit 1 25 [.ref (gad Γ 483), .int a, .int d] (mS M A T D N V I K B) R O (some (.int (qX7_digit_v A T a d))) (mS M (qX7_digit_A A T a d) T D N V I K B) R O := mX7_digit M R O hL A T D N V I K B a d hA
def fX7_filling_T1  (P : Nat → Int32) (k : Nat) (a1 : Int32) : Int32 := a1 + (P ((12 + 7 * k) + 5))
def fX7_filling_A1  (P : Nat → Int32) : Nat → Int32
  | 0 => 0
  | k + 1 => fX7_filling_T1  P k (fX7_filling_A1  P k)
def fX7_filling_v (A T D N V I K B : Nat → Int32)  : Int32 := fX7_filling_A1  D ((D 0).toNatClampNeg)
set_option maxHeartbeats 4000000 in
set_option maxRecDepth 100000 in
theorem mX7_filling {l : Launch} {Γ : gX} (M : Nat → Nat → Int32) (R : Nat → Nat → Option Nat) (O : Int64) (hL : LM Γ R) (A T D N V I K B : Nat → Int32) (hD : WS D) : gMet l Γ yX7_filling wsX7_filling 1 20 [.ref (gad Γ 483)] (mS M A T D N V I K B) R O (some (.int (fX7_filling_v A T D N V I K B ))) (mS M A T D N V I K B) R O := by
  refine g_start (cc := cX7_filling) (maxL := 3) (ret := (some .int)) (by decide) rfl (Nat.le_of_ble_eq_true rfl) ?_
  intro p e s m below meth c ls hx hb hml hrt hts hown hlocks hname hK hZ hG hS hl
  have hl : lv_has ls 3 [(0, .ref (gad Γ 483))] := hl
  have hown : s.vm.findClass RX7 = some m.cls := hown
  have hF : CallFix p m c cX7_filling 3 s _ wsX7_filling RX7 := ⟨hx, hb, hml, hown, hts⟩
  have k_1 : (Cond.fieldLink RX7 13 "RoadDustModel" "read" "[I").before _ s = true := hts _ (by decide +kernel)
  have in_X7 : ∀ w ∈ wsX70, w ∈ wsX7_filling := by decide +kernel
  have d0 := hD.1.2
  refine lv_iconst (v := 0) hx hb dX7_filling_0 (by decide) ?_
  refine lv_istore_n (lv' := [(1, .int 0), (0, .ref (gad Γ 483))]) hx hb dX7_filling_1 rfl hl (by decide) rfl (fun ls hl => ?_)
  refine lv_iconst (v := 0) hx hb dX7_filling_2 (by decide) ?_
  refine lv_istore_n (lv' := [(2, .int 0), (1, .int 0), (0, .ref (gad Γ 483))]) hx hb dX7_filling_3 rfl hl (by decide) rfl (fun ls hl => ?_)
  refine g_loop (N := (D 0).toNatClampNeg) (fun k H locs ls => GH Γ (mS M A T D N V I K B) R O H ∧ va_S (gA Γ) s.heap H locs ∧ lv_has ls 3 [(0, .ref (gad Γ 483)), (1, .int (fX7_filling_A1  D k)), (2, .int (nI k))]) ?_ ?_ 0 (Nat.zero_le _) _ _ _ ⟨hG, hS, lv_sub hl [2, 1, 0] rfl⟩
  · rintro H locs ls ⟨hG, hS, hl⟩
    refine lv_iload_n hx hb dX7_filling_4 rfl (lv_at hl 2 rfl) ?_
    refine lv_aload_n hx hb dX7_filling_5 rfl (lv_at hl 0 rfl) ?_
    refine gM_getr hx hb hts in_X7 hown hK hL hG 4 (by decide) rfl hL.2.2.1 k_1 (fun _ h => h) dX7_filling_6 ?_
    refine lv_iconst (v := 0) hx hb dX7_filling_9 (by decide) ?_
    refine gm_ald hx hb hK hG (hL.1 485 (by decide) (by decide)) (show gC 485 = (9, 26, 0) from rfl) (show gLen 485 = 131 from rfl) (by decide) (j := 0) rfl (by omega) (v := D 0) (mS_a26 _ _ _ _ _ _ _ _ _ _) dX7_filling_10 ?_
    refine lv_icmp_ge (tgt := 34) hx hb dX7_filling_11 (by decide) (fun c_1 => ?_) (fun c_1 => absurd (cl_le _) c_1)
    refine lv_iload_n hx hb dX7_filling_34 rfl (lv_at hl 1 rfl) ?_
    exact g_iret hx hb hrt hlocks hS hG (by unfold fX7_filling_v; rfl) rfl dX7_filling_35
  · rintro k hk_k ih_k H locs ls ⟨hG, hS, hl⟩
    refine lv_iload_n hx hb dX7_filling_4 rfl (lv_at hl 2 rfl) ?_
    refine lv_aload_n hx hb dX7_filling_5 rfl (lv_at hl 0 rfl) ?_
    refine gM_getr hx hb hts in_X7 hown hK hL hG 4 (by decide) rfl hL.2.2.1 k_1 (fun _ h => h) dX7_filling_6 ?_
    refine lv_iconst (v := 0) hx hb dX7_filling_9 (by decide) ?_
    refine gm_ald hx hb hK hG (hL.1 485 (by decide) (by decide)) (show gC 485 = (9, 26, 0) from rfl) (show gLen 485 = 131 from rfl) (by decide) (j := 0) rfl (by omega) (v := D 0) (mS_a26 _ _ _ _ _ _ _ _ _ _) dX7_filling_10 ?_
    refine lv_icmp_ge (tgt := 34) hx hb dX7_filling_11 (by decide) (fun c_2 => absurd c_2 (cl_ge hk_k)) (fun c_2 => ?_)
    refine lv_iload_n hx hb dX7_filling_14 rfl (lv_at hl 1 rfl) ?_
    refine lv_aload_n hx hb dX7_filling_15 rfl (lv_at hl 0 rfl) ?_
    refine gM_getr hx hb hts in_X7 hown hK hL hG 4 (by decide) rfl hL.2.2.1 k_1 (fun _ h => h) dX7_filling_16 ?_
    refine lv_iload_n hx hb dX7_filling_19 rfl (lv_at hl 2 rfl) ?_
    refine g_callS (As := [.int (nI k)]) (rest := [.ref (gad Γ 485), .int (fX7_filling_A1  D k)]) (st1 := [.int (nI (12 + 7 * k)), .ref (gad Γ 485), .int (fX7_filling_A1  D k)]) hF (mX7_segmentAt _ R O k rfl) (va_cwS 1 hts gX7_filling_X7_segmentAt rfl rfl rfl (by decide +kernel) ⟨Nat.le_of_ble_eq_true rfl, Nat.le_of_ble_eq_true rfl⟩) hK hZ hG hS rfl hl.1 (Nat.le_of_ble_eq_true rfl) dX7_filling_20 ⟨Nat.zero_le _, Nat.zero_le _⟩ rfl rfl (fun H locs hG hS => ?_)
    refine lv_iconst (v := 5) hx hb dX7_filling_23 (by decide) ?_
    refine lv_iadd hx hb dX7_filling_24 ?_
    refine g_top (show _ = nI ((12 + 7 * k) + 5) from nI_add _ _) ?_
    refine gm_ald hx hb hK hG (hL.1 485 (by decide) (by decide)) (show gC 485 = (9, 26, 0) from rfl) (show gLen 485 = 131 from rfl) (by decide) (j := (12 + 7 * k) + 5) rfl (by omega) (v := D ((12 + 7 * k) + 5)) (mS_a26 _ _ _ _ _ _ _ _ _ _) dX7_filling_25 ?_
    refine lv_iadd hx hb dX7_filling_26 ?_
    refine lv_istore_n (lv' := [(1, .int ((fX7_filling_A1  D k) + (D ((12 + 7 * k) + 5)))), (0, .ref (gad Γ 483)), (2, .int (nI k))]) hx hb dX7_filling_27 rfl hl (by decide) rfl (fun ls hl => ?_)
    refine lv_iinc (v := nI (k + 1)) (lv' := [(2, .int (nI (k + 1))), (1, .int ((fX7_filling_A1  D k) + (D ((12 + 7 * k) + 5)))), (0, .ref (gad Γ 483))]) hx hb dX7_filling_28 hl (k := 2) rfl (nI_1 _) (by decide) rfl (fun ls hl => ?_)
    refine lv_goto (tgt := 4) hx hb dX7_filling_31 (by decide) ?_
    exact ih_k _ _ _ ⟨hG, hS, lv_sub hl [2, 1, 0] rfl⟩

def qX7_filling_v (D : Nat → Int32)  : Int32 := fX7_filling_v D D D D D D D D 
theorem mX7_filling_q {l : Launch} {Γ : gX} (M : Nat → Nat → Int32) (R : Nat → Nat → Option Nat) (O : Int64) (hL : LM Γ R) (A T D N V I K B : Nat → Int32) (hD : WS D) : gMet l Γ yX7_filling wsX7_filling 1 20 [.ref (gad Γ 483)] (mS M A T D N V I K B) R O (some (.int (qX7_filling_v D ))) (mS M A T D N V I K B) R O := mX7_filling M R O hL A T D N V I K B hD
