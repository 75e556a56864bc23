/-! THE CLASS: its text. Laid by gen/p17.py. -/
theorem wi_pl {a : Int32} {m : Nat} (hm : m < 2 ^ 31) (h : ¬ fX6_within_v a 0 (nI m) = 0) : a = nI a.toNatClampNeg ∧ a.toNatClampNeg < m + 1 := by
  unfold fX6_within_v at h
  have h1 : ¬ a < 0 := fun q => h (by (repeat' split) <;> first | rfl | (exfalso; omega) | contradiction)
  have h2 : ¬ nI m < a := fun q => h (by (repeat' split) <;> first | rfl | (exfalso; omega) | contradiction)
  obtain ⟨j, hj, rfl⟩ := nI_of h1
  rw [nI_clamp hj]
  refine ⟨rfl, ?_⟩
  rcases Nat.lt_or_ge j (m + 1) with q | q
  · exact q
  · exact absurd ((nI_ltI hm hj).mpr (by omega)) h2
def fX4_signAt_v (X G : Nat → Int32)  : Int32 := if (X 2) < 0 then (-1) else if (X 1) ≤ (X 2) then (-1) else if 70 ≤ (X 2) then (-1) else G ((X 2).toNatClampNeg)
set_option maxHeartbeats 4000000 in
set_option maxRecDepth 100000 in
theorem mX4_signAt {l : Launch} {Γ : gX} (M : Nat → Nat → Int32) (R : Nat → Nat → Option Nat) (O : Int64) (hC : LC Γ R) (X G J S C P Q : Nat → Int32)  : gMet l Γ yX4_signAt wsX4_signAt 0 0 [.ref (gad Γ 476)] (cS M X G J S C P Q) R O (some (.int (fX4_signAt_v X G ))) (cS M X G J S C P Q) R O := by
  refine g_start (cc := cX4_signAt) (maxL := 1) (ret := (some .int)) (by decide) rfl (Nat.le_of_ble_eq_true rfl) ?_
  intro p e s m below meth c ls hx hb hml hrt hts hown hlocks hname hK hZ hG hS hl
  have hl : lv_has ls 1 [(0, .ref (gad Γ 476))] := hl
  have hown : s.vm.findClass RX4 = some m.cls := hown
  have hF : CallFix p m c cX4_signAt 1 s _ wsX4_signAt RX4 := ⟨hx, hb, hml, hown, hts⟩
  have k_1 : (Cond.fieldLink RX4 23 "RoadDust$Text" "at" "I").before _ s = true := hts _ (by decide +kernel)
  have in_X4 : ∀ w ∈ wsX40, w ∈ wsX4_signAt := by decide +kernel
  have k_3 : (Cond.fieldLink RX4 19 "RoadDust$Text" "length" "I").before _ s = true := hts _ (by decide +kernel)
  have k_4 : (Cond.fieldLink RX4 9 "RoadDust$Text" "signs" "[C").before _ s = true := hts _ (by decide +kernel)
  have hV0 := hC.2.1 0 (by decide)
  have hV1 := hC.2.1 1 (by decide)
  refine lv_aload_n hx hb dX4_signAt_0 rfl (lv_at hl 0 rfl) ?_
  refine go_get (C := RX4) (T := TX4) (ci := 4) hx hb hts in_X4 hown hK hG (hC.1 476 (by decide) (by decide)) (show gC 476 = (4, 19, 0) from rfl) (by decide) rfl 2 (by decide) rfl k_1 (fun _ h => h) (v := X 2) (cS_a19 _ _ _ _ _ _ _ _ _) dX4_signAt_1 ?_
  refine lv_if_lt (tgt := 39) hx hb dX4_signAt_4 (by decide) (fun c_1 => ?_) (fun c_1 => ?_)
  · --T
    refine lv_iconst (v := (-1)) hx hb dX4_signAt_39 (by decide) ?_
    exact g_iret hx hb hrt hlocks hS hG (by unfold fX4_signAt_v; rw [if_pos c_1]) rfl dX4_signAt_40
  · --F
    refine lv_aload_n hx hb dX4_signAt_7 rfl (lv_at hl 0 rfl) ?_
    refine go_get (C := RX4) (T := TX4) (ci := 4) hx hb hts in_X4 hown hK hG (hC.1 476 (by decide) (by decide)) (show gC 476 = (4, 19, 0) from rfl) (by decide) rfl 2 (by decide) rfl k_1 (fun _ h => h) (v := X 2) (cS_a19 _ _ _ _ _ _ _ _ _) dX4_signAt_8 ?_
    refine lv_aload_n hx hb dX4_signAt_11 rfl (lv_at hl 0 rfl) ?_
    refine go_get (C := RX4) (T := TX4) (ci := 4) hx hb hts in_X4 hown hK hG (hC.1 476 (by decide) (by decide)) (show gC 476 = (4, 19, 0) from rfl) (by decide) rfl 1 (by decide) rfl k_3 (fun _ h => h) (v := X 1) (cS_a19 _ _ _ _ _ _ _ _ _) dX4_signAt_12 ?_
    refine lv_icmp_ge (tgt := 39) hx hb dX4_signAt_15 (by decide) (fun c_2 => ?_) (fun c_2 => ?_)
    · --T
      refine lv_iconst (v := (-1)) hx hb dX4_signAt_39 (by decide) ?_
      exact g_iret hx hb hrt hlocks hS hG (by unfold fX4_signAt_v; rw [if_neg c_1, if_pos c_2]) rfl dX4_signAt_40
    · --F
      refine lv_aload_n hx hb dX4_signAt_18 rfl (lv_at hl 0 rfl) ?_
      refine go_get (C := RX4) (T := TX4) (ci := 4) hx hb hts in_X4 hown hK hG (hC.1 476 (by decide) (by decide)) (show gC 476 = (4, 19, 0) from rfl) (by decide) rfl 2 (by decide) rfl k_1 (fun _ h => h) (v := X 2) (cS_a19 _ _ _ _ _ _ _ _ _) dX4_signAt_19 ?_
      refine lv_bipush (v := 70) hx hb dX4_signAt_22 (by decide) ?_
      refine lv_icmp_ge (tgt := 39) hx hb dX4_signAt_24 (by decide) (fun c_3 => ?_) (fun c_3 => ?_)
      · --T
        refine lv_iconst (v := (-1)) hx hb dX4_signAt_39 (by decide) ?_
        exact g_iret hx hb hrt hlocks hS hG (by unfold fX4_signAt_v; rw [if_neg c_1, if_neg c_2, if_pos c_3]) rfl dX4_signAt_40
      · --F
        refine lv_aload_n hx hb dX4_signAt_27 rfl (lv_at hl 0 rfl) ?_
        refine go_getr (C := RX4) (T := TX4) (ci := 4) hx hb hts in_X4 hown hK hG (hC.1 476 (by decide) (by decide)) (show gC 476 = (4, 19, 0) from rfl) (by decide) rfl 0 (by decide) rfl hC.2.2.2.2.2.2.2.2.2.1 k_4 (fun _ h => h) dX4_signAt_28 ?_
        refine lv_aload_n hx hb dX4_signAt_31 rfl (lv_at hl 0 rfl) ?_
        refine go_get (C := RX4) (T := TX4) (ci := 4) hx hb hts in_X4 hown hK hG (hC.1 476 (by decide) (by decide)) (show gC 476 = (4, 19, 0) from rfl) (by decide) rfl 2 (by decide) rfl k_1 (fun _ h => h) (v := X 2) (cS_a19 _ _ _ _ _ _ _ _ _) dX4_signAt_32 ?_
        refine gm_cald hx hb hK hG (hC.1 477 (by decide) (by decide)) (show gC 477 = (8, 20, 0) from rfl) (show gLen 477 = 70 from rfl) (by decide) (j := (X 2).toNatClampNeg) (ok_pl (k := 70) c_1 rfl (by decide) (i32_nle c_3)).1 (ok_pl (k := 70) c_1 rfl (by decide) (i32_nle c_3)).2 (v := G ((X 2).toNatClampNeg)) (cS_a20 _ _ _ _ _ _ _ _ _) dX4_signAt_35 ?_
        refine lv_goto (tgt := 40) hx hb dX4_signAt_36 (by decide) ?_
        exact g_iret hx hb hrt hlocks hS hG (by unfold fX4_signAt_v; rw [if_neg c_1, if_neg c_2, if_neg c_3]) rfl dX4_signAt_40

def fX4_makeEmpty_v (X : Nat → Int32)  : Int32 := X 1
def fX4_makeEmpty_X (X : Nat → Int32)  : Nat → Int32 := upd X 1 0
def fX4_below_v (a : Int32) : Int32 := (1 <<< (a &&& 31)) - 1
set_option maxHeartbeats 4000000 in
set_option maxRecDepth 100000 in
theorem mX4_below {l : Launch} {Γ : gX} (M : Nat → Nat → Int32) (R : Nat → Nat → Option Nat) (O : Int64) (a : Int32) : gMet l Γ yX4_below wsX4_below 0 0 [.int a] M R O (some (.int (fX4_below_v a))) M R O := by
  refine g_start (cc := cX4_below) (maxL := 1) (ret := (some .int)) (by decide) rfl (Nat.le_of_ble_eq_true rfl) ?_
  intro p e s m below meth c ls hx hb hml hrt hts hown hlocks hname hK hZ hG hS hl
  have hl : lv_has ls 1 [(0, .int a)] := hl
  have hown : s.vm.findClass RX4 = some m.cls := hown
  have hF : CallFix p m c cX4_below 1 s _ wsX4_below RX4 := ⟨hx, hb, hml, hown, hts⟩
  refine lv_iconst (v := 1) hx hb dX4_below_0 (by decide) ?_
  refine lv_iload_n hx hb dX4_below_1 rfl (lv_at hl 0 rfl) ?_
  refine lv_ishl hx hb dX4_below_2 ?_
  refine lv_iconst (v := 1) hx hb dX4_below_3 (by decide) ?_
  refine lv_isub hx hb dX4_below_4 ?_
  exact g_iret hx hb hrt hlocks hS hG (by unfold fX4_below_v; rfl) rfl dX4_below_5

def fX4_takeSign_v (X G : Nat → Int32) (a : Int32) : Int32 := if (fX4_signAt_v X G ) = a then 1 else 0
def fX4_takeSign_X (X G : Nat → Int32) (a : Int32) : Nat → Int32 := if (fX4_signAt_v X G ) = a then upd X 2 ((X 2) + 1) else X
set_option maxHeartbeats 4000000 in
set_option maxRecDepth 100000 in
theorem mX4_takeSign {l : Launch} {Γ : gX} (M : Nat → Nat → Int32) (R : Nat → Nat → Option Nat) (O : Int64) (hC : LC Γ R) (X G J S C P Q : Nat → Int32) (a : Int32) : gMet l Γ yX4_takeSign wsX4_takeSign 1 20 [.ref (gad Γ 476), .int a] (cS M X G J S C P Q) R O (some (.int (fX4_takeSign_v X G a))) (cS M (fX4_takeSign_X X G a) G J S C P Q) R O := by
  refine g_start (cc := cX4_takeSign) (maxL := 2) (ret := (some .boolean)) (by decide) rfl (Nat.le_of_ble_eq_true rfl) ?_
  intro p e s m below meth c ls hx hb hml hrt hts hown hlocks hname hK hZ hG hS hl
  have hl : lv_has ls 2 [(0, .ref (gad Γ 476)), (1, .int a)] := hl
  have hown : s.vm.findClass RX4 = some m.cls := hown
  have hF : CallFix p m c cX4_takeSign 2 s _ wsX4_takeSign RX4 := ⟨hx, hb, hml, hown, hts⟩
  have k_1 : (Cond.fieldLink RX4 23 "RoadDust$Text" "at" "I").before _ s = true := hts _ (by decide +kernel)
  have in_X4 : ∀ w ∈ wsX40, w ∈ wsX4_takeSign := by decide +kernel
  have hV0 := hC.2.1 0 (by decide)
  have hV1 := hC.2.1 1 (by decide)
  refine lv_aload_n hx hb dX4_takeSign_0 rfl (lv_at hl 0 rfl) ?_
  refine g_callV (As := []) (rest := []) (st1 := [.int (fX4_signAt_v X G )]) hF (mX4_signAt M R O hC X G J S C P Q  ) (cwV 0 hts gX4_takeSign_X4_signAt rfl rfl rfl (by decide +kernel) ⟨Nat.le_of_ble_eq_true rfl, Nat.le_of_ble_eq_true rfl⟩) hK hZ hG hS (hC.1 476 (by decide) (by decide)) (show gC 476 = (4, 19, 0) from rfl) (by decide) rfl rfl hl.1 (Nat.le_of_ble_eq_true rfl) dX4_takeSign_1 ⟨Nat.zero_le _, Nat.zero_le _⟩ rfl rfl (fun H locs hG hS => ?_)
  refine lv_iload_n hx hb dX4_takeSign_4 rfl (lv_at hl 1 rfl) ?_
  refine lv_icmp_eq (tgt := 10) hx hb dX4_takeSign_5 (by decide) (fun c_1 => ?_) (fun c_1 => ?_)
  · --T
    refine lv_aload_n hx hb dX4_takeSign_10 rfl (lv_at hl 0 rfl) ?_
    refine lv_dup hx hb dX4_takeSign_11 rfl ?_
    refine go_get (C := RX4) (T := TX4) (ci := 4) hx hb hts in_X4 hown hK hG (hC.1 476 (by decide) (by decide)) (show gC 476 = (4, 19, 0) from rfl) (by decide) rfl 2 (by decide) rfl k_1 (fun _ h => h) (v := X 2) (cS_a19 _ _ _ _ _ _ _ _ _) dX4_takeSign_12 ?_
    refine lv_iconst (v := 1) hx hb dX4_takeSign_15 (by decide) ?_
    refine lv_iadd hx hb dX4_takeSign_16 ?_
    refine go_put (M2 := cS M (upd X 2 ((X 2) + 1)) G J S C P Q) (C := RX4) (T := TX4) (ci := 4) hx hb hts in_X4 tyX4 tyX4_ok nmX4 hown hK hG hS (hC.1 476 (by decide) (by decide)) (show gC 476 = (4, 19, 0) from rfl) (by decide) rfl 2 (by decide) k_1 (fun _ h => h) rfl rfl (by decide +kernel) (cS_p19 _ _ _ _ _ _ _ _ _ _) dX4_takeSign_17 (fun H locs hG hS => ?_)
    refine lv_iconst (v := 1) hx hb dX4_takeSign_20 (by decide) ?_
    exact g_zret hx hb hrt hlocks hS hG (by decide) (by unfold fX4_takeSign_v; rw [if_pos c_1]) (cS_c (by unfold fX4_takeSign_X; rw [if_pos c_1]) rfl rfl rfl rfl rfl rfl) dX4_takeSign_21
  · --F
    refine lv_iconst (v := 0) hx hb dX4_takeSign_8 (by decide) ?_
    exact g_zret hx hb hrt hlocks hS hG (by decide) (by unfold fX4_takeSign_v; rw [if_neg c_1]) (cS_c (by unfold fX4_takeSign_X; rw [if_neg c_1]) rfl rfl rfl rfl rfl rfl) dX4_takeSign_9

def fX4_takeDigit_v (X G : Nat → Int32) (a : Int32) : Int32 := if (fX6_within_v ((fX4_signAt_v X G ) - 48) 0 9) = 0 then (-1) else if ((a >>> (((fX4_signAt_v X G ) - 48) &&& 31)) &&& 1) = 0 then (-1) else (fX4_signAt_v X G ) - 48
def fX4_takeDigit_X (X G : Nat → Int32) (a : Int32) : Nat → Int32 := if (fX6_within_v ((fX4_signAt_v X G ) - 48) 0 9) = 0 then X else if ((a >>> (((fX4_signAt_v X G ) - 48) &&& 31)) &&& 1) = 0 then X else upd X 2 ((X 2) + 1)
set_option maxHeartbeats 4000000 in
set_option maxRecDepth 100000 in
theorem mX4_takeDigit {l : Launch} {Γ : gX} (M : Nat → Nat → Int32) (R : Nat → Nat → Option Nat) (O : Int64) (hC : LC Γ R) (X G J S C P Q : Nat → Int32) (a : Int32) : gMet l Γ yX4_takeDigit wsX4_takeDigit 1 22 [.ref (gad Γ 476), .int a] (cS M X G J S C P Q) R O (some (.int (fX4_takeDigit_v X G a))) (cS M (fX4_takeDigit_X X G a) G J S C P Q) R O := by
  refine g_start (cc := cX4_takeDigit) (maxL := 3) (ret := (some .int)) (by decide) rfl (Nat.le_of_ble_eq_true rfl) ?_
  intro p e s m below meth c ls hx hb hml hrt hts hown hlocks hname hK hZ hG hS hl
  have hl : lv_has ls 3 [(0, .ref (gad Γ 476)), (1, .int a)] := hl
  have hown : s.vm.findClass RX4 = some m.cls := hown
  have hF : CallFix p m c cX4_takeDigit 3 s _ wsX4_takeDigit RX4 := ⟨hx, hb, hml, hown, hts⟩
  have k_1 : (Cond.initialized RX6).before _ s = true := hts _ (by decide +kernel)
  have k_2 : (Cond.static yX6_within).before _ s = true := hts _ (by decide +kernel)
  have k_3 : (Cond.fieldLink RX4 23 "RoadDust$Text" "at" "I").before _ s = true := hts _ (by decide +kernel)
  have in_X4 : ∀ w ∈ wsX40, w ∈ wsX4_takeDigit := by decide +kernel
  have hV0 := hC.2.1 0 (by decide)
  have hV1 := hC.2.1 1 (by decide)
  refine lv_aload_n hx hb dX4_takeDigit_0 rfl (lv_at hl 0 rfl) ?_
  refine g_callV (As := []) (rest := []) (st1 := [.int (fX4_signAt_v X G )]) hF (mX4_signAt M R O hC X G J S C P Q  ) (cwV 0 hts gX4_takeDigit_X4_signAt rfl rfl rfl (by decide +kernel) ⟨Nat.le_of_ble_eq_true rfl, Nat.le_of_ble_eq_true rfl⟩) hK hZ hG hS (hC.1 476 (by decide) (by decide)) (show gC 476 = (4, 19, 0) from rfl) (by decide) rfl rfl hl.1 (Nat.le_of_ble_eq_true rfl) dX4_takeDigit_1 ⟨Nat.zero_le _, Nat.zero_le _⟩ rfl rfl (fun H locs hG hS => ?_)
  refine lv_bipush (v := 48) hx hb dX4_takeDigit_4 (by decide) ?_
  refine lv_isub hx hb dX4_takeDigit_6 ?_
  refine lv_istore_n (lv' := [(2, .int ((fX4_signAt_v X G ) - 48)), (0, .ref (gad Γ 476)), (1, .int a)]) hx hb dX4_takeDigit_7 rfl hl (by decide) rfl (fun ls hl => ?_)
  refine lv_iload_n hx hb dX4_takeDigit_8 rfl (lv_at hl 0 rfl) ?_
  refine lv_iconst (v := 0) hx hb dX4_takeDigit_9 (by decide) ?_
  refine lv_bipush (v := 9) hx hb dX4_takeDigit_10 (by decide) ?_
  refine g_callSN (As := [.int ((fX4_signAt_v X G ) - 48), .int 0, .int 9]) (rest := []) (st1 := [.int (fX6_within_v ((fX4_signAt_v X G ) - 48) 0 9)]) hF (mX6_within _ R O ((fX4_signAt_v X G ) - 48) 0 9) ⟨va_cnB 3 hts gX4_takeDigit_X6_within_n15 rfl rfl rfl hK.2.2.2.2.2.1 k_1 (by decide +kernel) ⟨Nat.le_of_ble_eq_true rfl, Nat.le_of_ble_eq_true rfl⟩, k_2, trivial⟩ hK hZ hG hS rfl hl.1 (Nat.le_of_ble_eq_true rfl) dX4_takeDigit_12 ⟨Nat.zero_le _, Nat.zero_le _⟩ rfl rfl (fun H locs hG hS => ?_)
  refine lv_if_eq (tgt := 26) hx hb dX4_takeDigit_15 (by decide) (fun c_1 => ?_) (fun c_1 => ?_)
  · --T
    refine lv_iconst (v := (-1)) hx hb dX4_takeDigit_26 (by decide) ?_
    exact g_iret hx hb hrt hlocks hS hG (by unfold fX4_takeDigit_v; rw [if_pos c_1]) (cS_c (by unfold fX4_takeDigit_X; rw [if_pos c_1]) rfl rfl rfl rfl rfl rfl) dX4_takeDigit_27
  · --F
    refine lv_iload_n hx hb dX4_takeDigit_18 rfl (lv_at hl 2 rfl) ?_
    refine lv_iload_n hx hb dX4_takeDigit_19 rfl (lv_at hl 0 rfl) ?_
    refine lv_ishr hx hb dX4_takeDigit_20 ?_
    refine lv_iconst (v := 1) hx hb dX4_takeDigit_21 (by decide) ?_
    refine lv_iand hx hb dX4_takeDigit_22 ?_
    refine lv_if_ne (tgt := 28) hx hb dX4_takeDigit_23 (by decide) (fun c_2 => ?_) (fun c_2 => ?_)
    · --T
      refine lv_aload_n hx hb dX4_takeDigit_28 rfl (lv_at hl 1 rfl) ?_
      refine lv_dup hx hb dX4_takeDigit_29 rfl ?_
      refine go_get (C := RX4) (T := TX4) (ci := 4) hx hb hts in_X4 hown hK hG (hC.1 476 (by decide) (by decide)) (show gC 476 = (4, 19, 0) from rfl) (by decide) rfl 2 (by decide) rfl k_3 (fun _ h => h) (v := X 2) (cS_a19 _ _ _ _ _ _ _ _ _) dX4_takeDigit_30 ?_
      refine lv_iconst (v := 1) hx hb dX4_takeDigit_33 (by decide) ?_
      refine lv_iadd hx hb dX4_takeDigit_34 ?_
      refine go_put (M2 := cS M (upd X 2 ((X 2) + 1)) G J S C P Q) (C := RX4) (T := TX4) (ci := 4) hx hb hts in_X4 tyX4 tyX4_ok nmX4 hown hK hG hS (hC.1 476 (by decide) (by decide)) (show gC 476 = (4, 19, 0) from rfl) (by decide) rfl 2 (by decide) k_3 (fun _ h => h) rfl rfl (by decide +kernel) (cS_p19 _ _ _ _ _ _ _ _ _ _) dX4_takeDigit_35 (fun H locs hG hS => ?_)
      refine lv_iload_n hx hb dX4_takeDigit_38 rfl (lv_at hl 0 rfl) ?_
      exact g_iret hx hb hrt hlocks hS hG (by unfold fX4_takeDigit_v; rw [if_neg c_1, if_neg c_2]) (cS_c (by unfold fX4_takeDigit_X; rw [if_neg c_1, if_neg c_2]) rfl rfl rfl rfl rfl rfl) dX4_takeDigit_39
    · --F
      refine lv_iconst (v := (-1)) hx hb dX4_takeDigit_26 (by decide) ?_
      exact g_iret hx hb hrt hlocks hS hG (by unfold fX4_takeDigit_v; rw [if_neg c_1, if_pos c_2]) (cS_c (by unfold fX4_takeDigit_X; rw [if_neg c_1, if_pos c_2]) rfl rfl rfl rfl rfl rfl) dX4_takeDigit_27

def fX4_takeFillingPlace_v (X G : Nat → Int32) (a : Int32) : Int32 := if (fX4_takeDigit_v X G a) = (-1) then 0 else 1
def fX4_takeFillingPlace_X (X G : Nat → Int32) (a : Int32) : Nat → Int32 := if (fX4_takeDigit_v X G a) = (-1) then fX4_takeDigit_X X G a else upd (fX4_takeDigit_X X G a) 3 (((fX4_takeDigit_X X G a) 3) ||| (1 <<< ((fX4_takeDigit_v X G a) &&& 31)))
set_option maxHeartbeats 4000000 in
set_option maxRecDepth 100000 in
theorem mX4_takeFillingPlace {l : Launch} {Γ : gX} (M : Nat → Nat → Int32) (R : Nat → Nat → Option Nat) (O : Int64) (hC : LC Γ R) (X G J S C P Q : Nat → Int32) (a : Int32) : gMet l Γ yX4_takeFillingPlace wsX4_takeFillingPlace 2 44 [.ref (gad Γ 476), .int a] (cS M X G J S C P Q) R O (some (.int (fX4_takeFillingPlace_v X G a))) (cS M (fX4_takeFillingPlace_X X G a) G J S C P Q) R O := by
  refine g_start (cc := cX4_takeFillingPlace) (maxL := 3) (ret := (some .boolean)) (by decide) rfl (Nat.le_of_ble_eq_true rfl) ?_
  intro p e s m below meth c ls hx hb hml hrt hts hown hlocks hname hK hZ hG hS hl
  have hl : lv_has ls 3 [(0, .ref (gad Γ 476)), (1, .int a)] := hl
  have hown : s.vm.findClass RX4 = some m.cls := hown
  have hF : CallFix p m c cX4_takeFillingPlace 3 s _ wsX4_takeFillingPlace RX4 := ⟨hx, hb, hml, hown, hts⟩
  have k_1 : (Cond.fieldLink RX4 26 "RoadDust$Text" "told" "I").before _ s = true := hts _ (by decide +kernel)
  have in_X4 : ∀ w ∈ wsX40, w ∈ wsX4_takeFillingPlace := by decide +kernel
  have hV0 := hC.2.1 0 (by decide)
  have hV1 := hC.2.1 1 (by decide)
  refine lv_aload_n hx hb dX4_takeFillingPlace_0 rfl (lv_at hl 0 rfl) ?_
  refine lv_iload_n hx hb dX4_takeFillingPlace_1 rfl (lv_at hl 1 rfl) ?_
  refine g_callV (As := [.int a]) (rest := []) (st1 := [.int (fX4_takeDigit_v X G a)]) hF (mX4_takeDigit M R O hC X G J S C P Q a ) (cwV 1 hts gX4_takeFillingPlace_X4_takeDigit rfl rfl rfl (by decide +kernel) ⟨Nat.le_of_ble_eq_true rfl, Nat.le_of_ble_eq_true rfl⟩) hK hZ hG hS (hC.1 476 (by decide) (by decide)) (show gC 476 = (4, 19, 0) from rfl) (by decide) rfl rfl hl.1 (Nat.le_of_ble_eq_true rfl) dX4_takeFillingPlace_2 ⟨Nat.zero_le _, Nat.zero_le _⟩ rfl rfl (fun H locs hG hS => ?_)
  refine lv_istore_n (lv' := [(2, .int (fX4_takeDigit_v X G a)), (0, .ref (gad Γ 476)), (1, .int a)]) hx hb dX4_takeFillingPlace_5 rfl hl (by decide) rfl (fun ls hl => ?_)
  refine lv_iload_n hx hb dX4_takeFillingPlace_6 rfl (lv_at hl 0 rfl) ?_
  refine lv_iconst (v := (-1)) hx hb dX4_takeFillingPlace_7 (by decide) ?_
  refine lv_icmp_ne (tgt := 13) hx hb dX4_takeFillingPlace_8 (by decide) (fun c_1 => ?_) (fun c_1 => ?_)
  · --T
    refine lv_aload_n hx hb dX4_takeFillingPlace_13 rfl (lv_at hl 1 rfl) ?_
    refine lv_dup hx hb dX4_takeFillingPlace_14 rfl ?_
    refine go_get (C := RX4) (T := TX4) (ci := 4) hx hb hts in_X4 hown hK hG (hC.1 476 (by decide) (by decide)) (show gC 476 = (4, 19, 0) from rfl) (by decide) rfl 3 (by decide) rfl k_1 (fun _ h => h) (v := (fX4_takeDigit_X X G a) 3) (cS_a19 _ _ _ _ _ _ _ _ _) dX4_takeFillingPlace_15 ?_
    refine lv_iconst (v := 1) hx hb dX4_takeFillingPlace_18 (by decide) ?_
    refine lv_iload_n hx hb dX4_takeFillingPlace_19 rfl (lv_at hl 0 rfl) ?_
    refine lv_ishl hx hb dX4_takeFillingPlace_20 ?_
    refine lv_ior hx hb dX4_takeFillingPlace_21 ?_
    refine go_put (M2 := cS M (upd (fX4_takeDigit_X X G a) 3 (((fX4_takeDigit_X X G a) 3) ||| (1 <<< ((fX4_takeDigit_v X G a) &&& 31)))) G J S C P Q) (C := RX4) (T := TX4) (ci := 4) hx hb hts in_X4 tyX4 tyX4_ok nmX4 hown hK hG hS (hC.1 476 (by decide) (by decide)) (show gC 476 = (4, 19, 0) from rfl) (by decide) rfl 3 (by decide) k_1 (fun _ h => h) rfl rfl (by decide +kernel) (cS_p19 _ _ _ _ _ _ _ _ _ _) dX4_takeFillingPlace_22 (fun H locs hG hS => ?_)
    refine lv_iconst (v := 1) hx hb dX4_takeFillingPlace_25 (by decide) ?_
    exact g_zret hx hb hrt hlocks hS hG (by decide) (by unfold fX4_takeFillingPlace_v; rw [if_neg c_1]) (cS_c (by unfold fX4_takeFillingPlace_X; rw [if_neg c_1]) rfl rfl rfl rfl rfl rfl) dX4_takeFillingPlace_26
  · --F
    refine lv_iconst (v := 0) hx hb dX4_takeFillingPlace_11 (by decide) ?_
    exact g_zret hx hb hrt hlocks hS hG (by decide) (by unfold fX4_takeFillingPlace_v; rw [if_pos c_1]) (cS_c (by unfold fX4_takeFillingPlace_X; rw [if_pos c_1]) rfl rfl rfl rfl rfl rfl) dX4_takeFillingPlace_12

def fX4_put_v (X G : Nat → Int32) (a : Int32) : Int32 := if (fX6_within_v a 0 255) = 0 then (-2) else if (X 1) < 0 then (-3) else if (X 1) < 70 then (upd X 1 ((X 1) + 1)) 1 else (-3)
def fX4_put_X (X G : Nat → Int32) (a : Int32) : Nat → Int32 := if (fX6_within_v a 0 255) = 0 then X else if (X 1) < 0 then X else if (X 1) < 70 then upd X 1 ((X 1) + 1) else X
def fX4_put_G (X G : Nat → Int32) (a : Int32) : Nat → Int32 := if (fX6_within_v a 0 255) = 0 then G else if (X 1) < 0 then G else if (X 1) < 70 then upd G ((X 1).toNatClampNeg) a else G
set_option maxHeartbeats 4000000 in
set_option maxRecDepth 100000 in
theorem mX4_put {l : Launch} {Γ : gX} (M : Nat → Nat → Int32) (R : Nat → Nat → Option Nat) (O : Int64) (hC : LC Γ R) (X G J S C P Q : Nat → Int32) (a : Int32) : gMet l Γ yX4_put wsX4_put 1 22 [.ref (gad Γ 476), .int a] (cS M X G J S C P Q) R O (some (.int (fX4_put_v X G a))) (cS M (fX4_put_X X G a) (fX4_put_G X G a) J S C P Q) R O := by
  refine g_start (cc := cX4_put) (maxL := 2) (ret := (some .int)) (by decide) rfl (Nat.le_of_ble_eq_true rfl) ?_
  intro p e s m below meth c ls hx hb hml hrt hts hown hlocks hname hK hZ hG hS hl
  have hl : lv_has ls 2 [(0, .ref (gad Γ 476)), (1, .int a)] := hl
  have hown : s.vm.findClass RX4 = some m.cls := hown
  have hF : CallFix p m c cX4_put 2 s _ wsX4_put RX4 := ⟨hx, hb, hml, hown, hts⟩
  have k_1 : (Cond.initialized RX6).before _ s = true := hts _ (by decide +kernel)
  have k_2 : (Cond.static yX6_within).before _ s = true := hts _ (by decide +kernel)
  have k_3 : (Cond.fieldLink RX4 19 "RoadDust$Text" "length" "I").before _ s = true := hts _ (by decide +kernel)
  have in_X4 : ∀ w ∈ wsX40, w ∈ wsX4_put := by decide +kernel
  have k_5 : (Cond.fieldLink RX4 9 "RoadDust$Text" "signs" "[C").before _ s = true := hts _ (by decide +kernel)
  have hV0 := hC.2.1 0 (by decide)
  have hV1 := hC.2.1 1 (by decide)
  refine lv_iload_n hx hb dX4_put_0 rfl (lv_at hl 1 rfl) ?_
  refine lv_iconst (v := 0) hx hb dX4_put_1 (by decide) ?_
  refine lv_sipush (v := 255) hx hb dX4_put_2 (by decide) ?_
  refine g_callSN (As := [.int a, .int 0, .int 255]) (rest := []) (st1 := [.int (fX6_within_v a 0 255)]) hF (mX6_within _ R O a 0 255) ⟨va_cnB 3 hts gX4_put_X6_within_n15 rfl rfl rfl hK.2.2.2.2.2.1 k_1 (by decide +kernel) ⟨Nat.le_of_ble_eq_true rfl, Nat.le_of_ble_eq_true rfl⟩, k_2, trivial⟩ hK hZ hG hS rfl hl.1 (Nat.le_of_ble_eq_true rfl) dX4_put_5 ⟨Nat.zero_le _, Nat.zero_le _⟩ rfl rfl (fun H locs hG hS => ?_)
  refine lv_if_ne (tgt := 14) hx hb dX4_put_8 (by decide) (fun c_1 => ?_) (fun c_1 => ?_)
  · --T
    refine lv_aload_n hx hb dX4_put_14 rfl (lv_at hl 0 rfl) ?_
    refine go_get (C := RX4) (T := TX4) (ci := 4) hx hb hts in_X4 hown hK hG (hC.1 476 (by decide) (by decide)) (show gC 476 = (4, 19, 0) from rfl) (by decide) rfl 1 (by decide) rfl k_3 (fun _ h => h) (v := X 1) (cS_a19 _ _ _ _ _ _ _ _ _) dX4_put_15 ?_
    refine lv_if_lt (tgt := 30) hx hb dX4_put_18 (by decide) (fun c_2 => ?_) (fun c_2 => ?_)
    · --T
      refine lv_bipush (v := (-3)) hx hb dX4_put_30 (by decide) ?_
      exact g_iret hx hb hrt hlocks hS hG (by unfold fX4_put_v; rw [if_neg c_1, if_pos c_2]) (cS_c (by unfold fX4_put_X; rw [if_neg c_1, if_pos c_2]) (by unfold fX4_put_G; rw [if_neg c_1, if_pos c_2]) rfl rfl rfl rfl rfl) dX4_put_32
    · --F
      refine lv_aload_n hx hb dX4_put_21 rfl (lv_at hl 0 rfl) ?_
      refine go_get (C := RX4) (T := TX4) (ci := 4) hx hb hts in_X4 hown hK hG (hC.1 476 (by decide) (by decide)) (show gC 476 = (4, 19, 0) from rfl) (by decide) rfl 1 (by decide) rfl k_3 (fun _ h => h) (v := X 1) (cS_a19 _ _ _ _ _ _ _ _ _) dX4_put_22 ?_
      refine lv_bipush (v := 70) hx hb dX4_put_25 (by decide) ?_
      refine lv_icmp_lt (tgt := 33) hx hb dX4_put_27 (by decide) (fun c_3 => ?_) (fun c_3 => ?_)
      · --T
        refine lv_aload_n hx hb dX4_put_33 rfl (lv_at hl 0 rfl) ?_
        refine go_getr (C := RX4) (T := TX4) (ci := 4) hx hb hts in_X4 hown hK hG (hC.1 476 (by decide) (by decide)) (show gC 476 = (4, 19, 0) from rfl) (by decide) rfl 0 (by decide) rfl hC.2.2.2.2.2.2.2.2.2.1 k_5 (fun _ h => h) dX4_put_34 ?_
        refine lv_aload_n hx hb dX4_put_37 rfl (lv_at hl 0 rfl) ?_
        refine go_get (C := RX4) (T := TX4) (ci := 4) hx hb hts in_X4 hown hK hG (hC.1 476 (by decide) (by decide)) (show gC 476 = (4, 19, 0) from rfl) (by decide) rfl 1 (by decide) rfl k_3 (fun _ h => h) (v := X 1) (cS_a19 _ _ _ _ _ _ _ _ _) dX4_put_38 ?_
        refine lv_iload_n hx hb dX4_put_41 rfl (lv_at hl 1 rfl) ?_
        refine lv_i2c hx hb dX4_put_42 rfl ?_
        refine g_top (show _ = a from (nar_pl (wi_pl (m := 255) (by decide) c_1).1 (wi_pl (m := 255) (by decide) c_1).2).1) ?_
        refine gm_cast (M2 := cS M X (upd G ((X 1).toNatClampNeg) a) J S C P Q) hx hb hK hG hS (hC.1 477 (by decide) (by decide)) (show gC 477 = (8, 20, 0) from rfl) (show gLen 477 = 70 from rfl) (by decide) (j := (X 1).toNatClampNeg) (ok_pl (k := 70) c_2 rfl (by decide) c_3).1 (ok_pl (k := 70) c_2 rfl (by decide) c_3).2 (nar_pl (wi_pl (m := 255) (by decide) c_1).1 (wi_pl (m := 255) (by decide) c_1).2).2 (cS_p20 _ _ _ _ _ _ _ _ _ _) dX4_put_43 (fun H locs hG hS => ?_)
        refine lv_aload_n hx hb dX4_put_44 rfl (lv_at hl 0 rfl) ?_
        refine lv_dup hx hb dX4_put_45 rfl ?_
        refine go_get (C := RX4) (T := TX4) (ci := 4) hx hb hts in_X4 hown hK hG (hC.1 476 (by decide) (by decide)) (show gC 476 = (4, 19, 0) from rfl) (by decide) rfl 1 (by decide) rfl k_3 (fun _ h => h) (v := X 1) (cS_a19 _ _ _ _ _ _ _ _ _) dX4_put_46 ?_
        refine lv_iconst (v := 1) hx hb dX4_put_49 (by decide) ?_
        refine lv_iadd hx hb dX4_put_50 ?_
        refine go_put (M2 := cS M (upd X 1 ((X 1) + 1)) (upd G ((X 1).toNatClampNeg) a) J S C P Q) (C := RX4) (T := TX4) (ci := 4) hx hb hts in_X4 tyX4 tyX4_ok nmX4 hown hK hG hS (hC.1 476 (by decide) (by decide)) (show gC 476 = (4, 19, 0) from rfl) (by decide) rfl 1 (by decide) k_3 (fun _ h => h) rfl rfl (by decide +kernel) (cS_p19 _ _ _ _ _ _ _ _ _ _) dX4_put_51 (fun H locs hG hS => ?_)
        refine lv_aload_n hx hb dX4_put_54 rfl (lv_at hl 0 rfl) ?_
        refine go_get (C := RX4) (T := TX4) (ci := 4) hx hb hts in_X4 hown hK hG (hC.1 476 (by decide) (by decide)) (show gC 476 = (4, 19, 0) from rfl) (by decide) rfl 1 (by decide) rfl k_3 (fun _ h => h) (v := (upd X 1 ((X 1) + 1)) 1) (cS_a19 _ _ _ _ _ _ _ _ _) dX4_put_55 ?_
        exact g_iret hx hb hrt hlocks hS hG (by unfold fX4_put_v; rw [if_neg c_1, if_neg c_2, if_pos c_3]) (cS_c (by unfold fX4_put_X; rw [if_neg c_1, if_neg c_2, if_pos c_3]) (by unfold fX4_put_G; rw [if_neg c_1, if_neg c_2, if_pos c_3]) rfl rfl rfl rfl rfl) dX4_put_58
      · --F
        refine lv_bipush (v := (-3)) hx hb dX4_put_30 (by decide) ?_
        exact g_iret hx hb hrt hlocks hS hG (by unfold fX4_put_v; rw [if_neg c_1, if_neg c_2, if_neg c_3]) (cS_c (by unfold fX4_put_X; rw [if_neg c_1, if_neg c_2, if_neg c_3]) (by unfold fX4_put_G; rw [if_neg c_1, if_neg c_2, if_neg c_3]) rfl rfl rfl rfl rfl) dX4_put_32
  · --F
    refine lv_bipush (v := (-2)) hx hb dX4_put_11 (by decide) ?_
    exact g_iret hx hb hrt hlocks hS hG (by unfold fX4_put_v; rw [if_pos c_1]) (cS_c (by unfold fX4_put_X; rw [if_pos c_1]) (by unfold fX4_put_G; rw [if_pos c_1]) rfl rfl rfl rfl rfl) dX4_put_13

