/-! THE REFERENCE: refusals, the text. Laid by gen/p09.py. -/
def fX7_thrown_v (A T D N V I K B : Nat → Int32)  : Int32 := A 0
set_option maxHeartbeats 4000000 in
set_option maxRecDepth 100000 in
theorem mX7_thrown {l : Launch} {Γ : gX} (M : Nat → Nat → Int32) (R : Nat → Nat → Option Nat) (O : Int64) (hL : LM Γ R) (A T D N V I K B : Nat → Int32)  : gMet l Γ yX7_thrown wsX7_thrown 0 0 [.ref (gad Γ 483)] (mS M A T D N V I K B) R O (some (.int (fX7_thrown_v A T D N V I K B ))) (mS M A T D N V I K B) R O := by
  refine g_start (cc := cX7_thrown) (maxL := 1) (ret := (some .int)) (by decide) rfl (Nat.le_of_ble_eq_true rfl) ?_
  intro p e s m below meth c ls hx hb hml hrt hts hown hlocks hname hK hZ hG hS hl
  have hl : lv_has ls 1 [(0, .ref (gad Γ 483))] := hl
  have hown : s.vm.findClass RX7 = some m.cls := hown
  have hF : CallFix p m c cX7_thrown 1 s _ wsX7_thrown RX7 := ⟨hx, hb, hml, hown, hts⟩
  have k_1 : (Cond.fieldLink RX7 36 "RoadDustModel" "refusal" "I").before _ s = true := hts _ (by decide +kernel)
  have in_X7 : ∀ w ∈ wsX70, w ∈ wsX7_thrown := by decide +kernel
  refine lv_aload_n hx hb dX7_thrown_0 rfl (lv_at hl 0 rfl) ?_
  refine gM_get hx hb hts in_X7 hown hK hL hG 0 (by decide) rfl k_1 (fun _ h => h) dX7_thrown_1 ?_
  exact g_iret hx hb hrt hlocks hS hG (by unfold fX7_thrown_v; rfl) rfl dX7_thrown_4

def fX7_refused_v (A T D N V I K B : Nat → Int32) (a : Int32) : Int32 := if a ≤ 0 then 0 else 1
def fX7_refused_A (A T D N V I K B : Nat → Int32) (a : Int32) : Nat → Int32 := if a ≤ 0 then upd A 0 a else upd A 0 a
set_option maxHeartbeats 4000000 in
set_option maxRecDepth 100000 in
theorem mX7_refused {l : Launch} {Γ : gX} (M : Nat → Nat → Int32) (R : Nat → Nat → Option Nat) (O : Int64) (hL : LM Γ R) (A T D N V I K B : Nat → Int32) (a : Int32) : gMet l Γ yX7_refused wsX7_refused 0 0 [.ref (gad Γ 483), .int a] (mS M A T D N V I K B) R O (some (.int (fX7_refused_v A T D N V I K B a))) (mS M (fX7_refused_A A T D N V I K B a) T D N V I K B) R O := by
  refine g_start (cc := cX7_refused) (maxL := 2) (ret := (some .boolean)) (by decide) rfl (Nat.le_of_ble_eq_true rfl) ?_
  intro p e s m below meth c ls hx hb hml hrt hts hown hlocks hname hK hZ hG hS hl
  have hl : lv_has ls 2 [(0, .ref (gad Γ 483)), (1, .int a)] := hl
  have hown : s.vm.findClass RX7 = some m.cls := hown
  have hF : CallFix p m c cX7_refused 2 s _ wsX7_refused RX7 := ⟨hx, hb, hml, hown, hts⟩
  have k_1 : (Cond.fieldLink RX7 36 "RoadDustModel" "refusal" "I").before _ s = true := hts _ (by decide +kernel)
  have in_X7 : ∀ w ∈ wsX70, w ∈ wsX7_refused := by decide +kernel
  refine lv_aload_n hx hb dX7_refused_0 rfl (lv_at hl 0 rfl) ?_
  refine lv_iload_n hx hb dX7_refused_1 rfl (lv_at hl 1 rfl) ?_
  refine gM_put hx hb hts in_X7 hown hK hL hG hS 0 (by decide) rfl k_1 (fun _ h => h) rfl (by decide +kernel) dX7_refused_2 (fun H locs hG hS => ?_)
  refine lv_iload_n hx hb dX7_refused_5 rfl (lv_at hl 1 rfl) ?_
  refine lv_if_le (tgt := 13) hx hb dX7_refused_6 (by decide) (fun c_1 => ?_) (fun c_1 => ?_)
  · --T
    refine lv_iconst (v := 0) hx hb dX7_refused_13 (by decide) ?_
    exact g_zret hx hb hrt hlocks hS hG (by decide) (by unfold fX7_refused_v; rw [if_pos c_1]) (mS_c (by unfold fX7_refused_A; rw [if_pos c_1]) rfl rfl rfl rfl rfl rfl rfl) dX7_refused_14
  · --F
    refine lv_iconst (v := 1) hx hb dX7_refused_9 (by decide) ?_
    refine lv_goto (tgt := 14) hx hb dX7_refused_10 (by decide) ?_
    exact g_zret hx hb hrt hlocks hS hG (by decide) (by unfold fX7_refused_v; rw [if_neg c_1]) (mS_c (by unfold fX7_refused_A; rw [if_neg c_1]) rfl rfl rfl rfl rfl rfl rfl) dX7_refused_14

theorem mX7_refused_l {l : Launch} {Γ : gX} (M : Nat → Nat → Int32) (R : Nat → Nat → Option Nat) (O : Int64) (hL : LM Γ R) (A T D N V I K B : Nat → Int32) (a v : Int32) (h : (if a ≤ 0 then 0 else 1) = v) : gMet l Γ yX7_refused wsX7_refused 0 0 [.ref (gad Γ 483), .int a] (mS M A T D N V I K B) R O (some (.int v)) (mS M (upd A 0 a) T D N V I K B) R O := by
  subst h
  have q := mX7_refused (l := l) M R O hL A T D N V I K B a
  rw [show fX7_refused_A A T D N V I K B a = upd A 0 a from by unfold fX7_refused_A; split <;> rfl] at q
  exact q
theorem ne_lt {x : Int32} {n : Nat} (h : x = nI x.toNatClampNeg) (h2 : x.toNatClampNeg ≤ n) (hn : n < 2 ^ 31) (h3 : ¬ x = nI n) : x.toNatClampNeg < n := by
  rcases Nat.lt_or_ge x.toNatClampNeg n with q | q
  · exact q
  · exact absurd (h.trans (congrArg nI (Nat.le_antisymm h2 q))) h3
def fX7_append_v (A T D N V I K B : Nat → Int32) (a : Int32) : Int32 := if (fX7_in_v a.toInt64 0 255) = 0 then 0 else if (A 2) = 70 then 0 else (upd (upd A 0 0) 2 (((upd A 0 0) 2) + 1)) 2
def fX7_append_A (A T D N V I K B : Nat → Int32) (a : Int32) : Nat → Int32 := if (fX7_in_v a.toInt64 0 255) = 0 then upd A 0 1 else if (A 2) = 70 then upd A 0 2 else upd (upd A 0 0) 2 (((upd A 0 0) 2) + 1)
def fX7_append_T (A T D N V I K B : Nat → Int32) (a : Int32) : Nat → Int32 := if (fX7_in_v a.toInt64 0 255) = 0 then T else if (A 2) = 70 then T else upd T ((A 2).toNatClampNeg) a
set_option maxHeartbeats 4000000 in
set_option maxRecDepth 100000 in
theorem mX7_append {l : Launch} {Γ : gX} (M : Nat → Nat → Int32) (R : Nat → Nat → Option Nat) (O : Int64) (hL : LM Γ R) (A T D N V I K B : Nat → Int32) (a : Int32) (hT : A 2 = nI (A 2).toNatClampNeg) (hT7 : (A 2).toNatClampNeg ≤ 70) : gMet l Γ yX7_append wsX7_append 1 25 [.ref (gad Γ 483), .int a] (mS M A T D N V I K B) R O (some (.int (fX7_append_v A T D N V I K B a))) (mS M (fX7_append_A A T D N V I K B a) (fX7_append_T A T D N V I K B a) D N V I K B) R O := by
  refine g_start (cc := cX7_append) (maxL := 2) (ret := (some .int)) (by decide) rfl (Nat.le_of_ble_eq_true rfl) ?_
  intro p e s m below meth c ls hx hb hml hrt hts hown hlocks hname hK hZ hG hS hl
  have hl : lv_has ls 2 [(0, .ref (gad Γ 483)), (1, .int a)] := hl
  have hown : s.vm.findClass RX7 = some m.cls := hown
  have hF : CallFix p m c cX7_append 2 s _ wsX7_append RX7 := ⟨hx, hb, hml, hown, hts⟩
  have k_1 : (Cond.constantLong RX7 90 (255)).before _ s = true := hts _ (by decide +kernel)
  have k_2 : (Cond.fieldLink RX7 92 "RoadDustModel" "textSize" "I").before _ s = true := hts _ (by decide +kernel)
  have in_X7 : ∀ w ∈ wsX70, w ∈ wsX7_append := by decide +kernel
  have k_4 : (Cond.fieldLink RX7 7 "RoadDustModel" "text" "[I").before _ s = true := hts _ (by decide +kernel)
  refine lv_aload_n hx hb dX7_append_0 rfl (lv_at hl 0 rfl) ?_
  refine lv_iload_n hx hb dX7_append_1 rfl (lv_at hl 1 rfl) ?_
  refine lv_i2l hx hb dX7_append_2 rfl ?_
  refine lv_lconst (v := 0) hx hb dX7_append_3 (by decide) ?_
  refine lv_ldc2 hx hb hown k_1 dX7_append_4 ?_
  refine g_callS (As := [.long a.toInt64, .long 0, .long 255]) (rest := [.ref (gad Γ 483)]) (st1 := [.int (fX7_in_v a.toInt64 0 255), .ref (gad Γ 483)]) hF (mX7_in _ R O a.toInt64 0 255) (va_cwS 3 hts gX7_append_X7_in rfl rfl rfl (by decide +kernel) ⟨Nat.le_of_ble_eq_true rfl, Nat.le_of_ble_eq_true rfl⟩) hK hZ hG hS rfl hl.1 (Nat.le_of_ble_eq_true rfl) dX7_append_7 ⟨Nat.zero_le _, Nat.zero_le _⟩ rfl rfl (fun H locs hG hS => ?_)
  refine lv_if_ne (tgt := 17) hx hb dX7_append_10 (by decide) (fun c_1 => ?_) (fun c_1 => ?_)
  · --T
    refine lv_aload_n hx hb dX7_append_17 rfl (lv_at hl 0 rfl) ?_
    refine gM_get hx hb hts in_X7 hown hK hL hG 2 (by decide) rfl k_2 (fun _ h => h) dX7_append_18 ?_
    refine lv_bipush (v := 70) hx hb dX7_append_21 (by decide) ?_
    refine lv_icmp_ne (tgt := 30) hx hb dX7_append_23 (by decide) (fun c_2 => ?_) (fun c_2 => ?_)
    · --T
      refine lv_iconst (v := 0) hx hb dX7_append_30 (by decide) ?_
      refine g_callV (As := [.int 0]) (rest := []) (st1 := [.int 0]) hF (mX7_refused_l M R O hL A T D N V I K B 0 0 (by decide)) (cwV 1 hts gX7_append_X7_refused rfl rfl rfl (by decide +kernel) ⟨Nat.le_of_ble_eq_true rfl, Nat.le_of_ble_eq_true rfl⟩) hK hZ hG hS (hL.1 483 (by decide) (by decide)) (show gC 483 = (7, 24, 0) from rfl) (by decide) rfl rfl hl.1 (Nat.le_of_ble_eq_true rfl) dX7_append_31 ⟨Nat.zero_le _, Nat.zero_le _⟩ rfl rfl (fun H locs hG hS => ?_)
      refine lv_if_eq (tgt := 39) hx hb dX7_append_34 (by decide) (fun c_3 => ?_) (fun c_3 => absurd (by decide) c_3)
      have q_1 := ne_lt (n := 70) hT hT7 (by decide) c_2
      refine lv_aload_n hx hb dX7_append_39 rfl (lv_at hl 0 rfl) ?_
      refine gM_getr hx hb hts in_X7 hown hK hL hG 1 (by decide) rfl hL.2.1 k_4 (fun _ h => h) dX7_append_40 ?_
      refine lv_aload_n hx hb dX7_append_43 rfl (lv_at hl 0 rfl) ?_
      refine gM_get hx hb hts in_X7 hown hK hL hG 2 (by decide) rfl k_2 (fun _ h => h) dX7_append_44 ?_
      refine lv_iload_n hx hb dX7_append_47 rfl (lv_at hl 1 rfl) ?_
      refine gm_ast (M2 := mS M (upd A 0 0) (upd T ((A 2).toNatClampNeg) a) D N V I K B) hx hb hK hG hS (hL.1 484 (by decide) (by decide)) (show gC 484 = (9, 25, 0) from rfl) (show gLen 484 = 70 from rfl) (by decide) (j := (A 2).toNatClampNeg) hT (by omega) (mS_p25 _ _ _ _ _ _ _ _ _ _ _) dX7_append_48 (fun H locs hG hS => ?_)
      refine lv_aload_n hx hb dX7_append_49 rfl (lv_at hl 0 rfl) ?_
      refine lv_dup hx hb dX7_append_50 rfl ?_
      refine gM_get hx hb hts in_X7 hown hK hL hG 2 (by decide) rfl k_2 (fun _ h => h) dX7_append_51 ?_
      refine lv_iconst (v := 1) hx hb dX7_append_54 (by decide) ?_
      refine lv_iadd hx hb dX7_append_55 ?_
      refine gM_put hx hb hts in_X7 hown hK hL hG hS 2 (by decide) rfl k_2 (fun _ h => h) rfl (by decide +kernel) dX7_append_56 (fun H locs hG hS => ?_)
      refine lv_aload_n hx hb dX7_append_59 rfl (lv_at hl 0 rfl) ?_
      refine gM_get hx hb hts in_X7 hown hK hL hG 2 (by decide) rfl k_2 (fun _ h => h) dX7_append_60 ?_
      exact g_iret hx hb hrt hlocks hS hG (by unfold fX7_append_v; rw [if_neg c_1, if_neg c_2]) (mS_c (by unfold fX7_append_A; rw [if_neg c_1, if_neg c_2]) (by unfold fX7_append_T; rw [if_neg c_1, if_neg c_2]) rfl rfl rfl rfl rfl rfl) dX7_append_63
    · --F
      refine lv_iconst (v := 2) hx hb dX7_append_26 (by decide) ?_
      refine lv_goto (tgt := 31) hx hb dX7_append_27 (by decide) ?_
      refine g_callV (As := [.int 2]) (rest := []) (st1 := [.int 1]) hF (mX7_refused_l M R O hL A T D N V I K B 2 1 (by decide)) (cwV 1 hts gX7_append_X7_refused rfl rfl rfl (by decide +kernel) ⟨Nat.le_of_ble_eq_true rfl, Nat.le_of_ble_eq_true rfl⟩) hK hZ hG hS (hL.1 483 (by decide) (by decide)) (show gC 483 = (7, 24, 0) from rfl) (by decide) rfl rfl hl.1 (Nat.le_of_ble_eq_true rfl) dX7_append_31 ⟨Nat.zero_le _, Nat.zero_le _⟩ rfl rfl (fun H locs hG hS => ?_)
      refine lv_if_eq (tgt := 39) hx hb dX7_append_34 (by decide) (fun c_4 => absurd c_4 (by decide)) (fun c_4 => ?_)
      refine lv_iconst (v := 0) hx hb dX7_append_37 (by decide) ?_
      exact g_iret hx hb hrt hlocks hS hG (by unfold fX7_append_v; rw [if_neg c_1, if_pos c_2]) (mS_c (by unfold fX7_append_A; rw [if_neg c_1, if_pos c_2]) (by unfold fX7_append_T; rw [if_neg c_1, if_pos c_2]) rfl rfl rfl rfl rfl rfl) dX7_append_38
  · --F
    refine lv_iconst (v := 1) hx hb dX7_append_13 (by decide) ?_
    refine lv_goto (tgt := 31) hx hb dX7_append_14 (by decide) ?_
    refine g_callV (As := [.int 1]) (rest := []) (st1 := [.int 1]) hF (mX7_refused_l M R O hL A T D N V I K B 1 1 (by decide)) (cwV 1 hts gX7_append_X7_refused rfl rfl rfl (by decide +kernel) ⟨Nat.le_of_ble_eq_true rfl, Nat.le_of_ble_eq_true rfl⟩) hK hZ hG hS (hL.1 483 (by decide) (by decide)) (show gC 483 = (7, 24, 0) from rfl) (by decide) rfl rfl hl.1 (Nat.le_of_ble_eq_true rfl) dX7_append_31 ⟨Nat.zero_le _, Nat.zero_le _⟩ rfl rfl (fun H locs hG hS => ?_)
    refine lv_if_eq (tgt := 39) hx hb dX7_append_34 (by decide) (fun c_5 => absurd c_5 (by decide)) (fun c_5 => ?_)
    refine lv_iconst (v := 0) hx hb dX7_append_37 (by decide) ?_
    exact g_iret hx hb hrt hlocks hS hG (by unfold fX7_append_v; rw [if_pos c_1]) (mS_c (by unfold fX7_append_A; rw [if_pos c_1]) (by unfold fX7_append_T; rw [if_pos c_1]) rfl rfl rfl rfl rfl rfl) dX7_append_38

def fX7_clearText_v (A T D N V I K B : Nat → Int32)  : Int32 := (upd A 0 0) 2
def fX7_clearText_A (A T D N V I K B : Nat → Int32)  : Nat → Int32 := upd (upd A 0 0) 2 0
set_option maxHeartbeats 4000000 in
set_option maxRecDepth 100000 in
theorem mX7_clearText {l : Launch} {Γ : gX} (M : Nat → Nat → Int32) (R : Nat → Nat → Option Nat) (O : Int64) (hL : LM Γ R) (A T D N V I K B : Nat → Int32)  : gMet l Γ yX7_clearText wsX7_clearText 0 0 [.ref (gad Γ 483)] (mS M A T D N V I K B) R O (some (.int (fX7_clearText_v A T D N V I K B ))) (mS M (fX7_clearText_A A T D N V I K B ) T D N V I K B) R O := by
  refine g_start (cc := cX7_clearText) (maxL := 2) (ret := (some .int)) (by decide) rfl (Nat.le_of_ble_eq_true rfl) ?_
  intro p e s m below meth c ls hx hb hml hrt hts hown hlocks hname hK hZ hG hS hl
  have hl : lv_has ls 2 [(0, .ref (gad Γ 483))] := hl
  have hown : s.vm.findClass RX7 = some m.cls := hown
  have hF : CallFix p m c cX7_clearText 2 s _ wsX7_clearText RX7 := ⟨hx, hb, hml, hown, hts⟩
  have k_1 : (Cond.fieldLink RX7 36 "RoadDustModel" "refusal" "I").before _ s = true := hts _ (by decide +kernel)
  have in_X7 : ∀ w ∈ wsX70, w ∈ wsX7_clearText := by decide +kernel
  have k_3 : (Cond.fieldLink RX7 92 "RoadDustModel" "textSize" "I").before _ s = true := hts _ (by decide +kernel)
  refine lv_aload_n hx hb dX7_clearText_0 rfl (lv_at hl 0 rfl) ?_
  refine lv_iconst (v := 0) hx hb dX7_clearText_1 (by decide) ?_
  refine gM_put hx hb hts in_X7 hown hK hL hG hS 0 (by decide) rfl k_1 (fun _ h => h) rfl (by decide +kernel) dX7_clearText_2 (fun H locs hG hS => ?_)
  refine lv_aload_n hx hb dX7_clearText_5 rfl (lv_at hl 0 rfl) ?_
  refine gM_get hx hb hts in_X7 hown hK hL hG 2 (by decide) rfl k_3 (fun _ h => h) dX7_clearText_6 ?_
  refine lv_istore_n (lv' := [(1, .int ((upd A 0 0) 2)), (0, .ref (gad Γ 483))]) hx hb dX7_clearText_9 rfl hl (by decide) rfl (fun ls hl => ?_)
  refine lv_aload_n hx hb dX7_clearText_10 rfl (lv_at hl 1 rfl) ?_
  refine lv_iconst (v := 0) hx hb dX7_clearText_11 (by decide) ?_
  refine gM_put hx hb hts in_X7 hown hK hL hG hS 2 (by decide) rfl k_3 (fun _ h => h) rfl (by decide +kernel) dX7_clearText_12 (fun H locs hG hS => ?_)
  refine lv_iload_n hx hb dX7_clearText_15 rfl (lv_at hl 0 rfl) ?_
  exact g_iret hx hb hrt hlocks hS hG (by unfold fX7_clearText_v; rfl) (mS_c rfl rfl rfl rfl rfl rfl rfl rfl) dX7_clearText_16

