/-! THE ROAD. Laid by gen/p07.py. -/
def fX2_dustFor_v (P : Nat → Int32) (i : Nat) : Int32 := if 0 < (2 * (1 + (P (82 + 5 * i + 1)))) then (((2 * (fX2_dustAt_v P (P (82 + 5 * i)))) + (fX2_dustAt_v P ((P (82 + 5 * i)) - 1))) + (fX2_dustAt_v P ((P (82 + 5 * i)) + 1))) / (2 * (1 + (P (82 + 5 * i + 1)))) else 0
set_option maxHeartbeats 4000000 in
set_option maxRecDepth 100000 in
theorem mX2_dustFor {l : Launch} {Γ : gX} (M : Nat → Nat → Int32) (R : Nat → Nat → Option Nat) (O : Int64) {r : Nat} (hV : LV Γ R r) (P : Nat → Int32) {i : Nat} (hi : i < 8) : gMet l Γ yX2_dustFor wsX2_dustFor 1 21 [.ref (gad Γ (25 * r)), .ref (gad Γ (25 * r + 14 + i))] (va_up M r P) R O (some (.int (fX2_dustFor_v P i))) (va_up M r P) R O := by
  refine g_start (cc := cX2_dustFor) (maxL := 4) (ret := (some .int)) (by decide) rfl (Nat.le_of_ble_eq_true rfl) ?_
  intro p e s m below meth c ls hx hb hml hrt hts hown hlocks hname hK hZ hG hS hl
  have hl : lv_has ls 4 [(0, .ref (gad Γ (25 * r))), (1, .ref (gad Γ (25 * r + 14 + i)))] := hl
  have hown : s.vm.findClass RX2 = some m.cls := hown
  have hF : CallFix p m c cX2_dustFor 4 s _ wsX2_dustFor RX2 := ⟨hx, hb, hml, hown, hts⟩
  have k_1 : (Cond.fieldLink RX2 185 "RoadDust$House" "segment" "I").before _ s = true := hts _ (by decide +kernel)
  have in_X1 : ∀ w ∈ wsX10, w ∈ wsX2_dustFor := by decide +kernel
  have k_3 : (Cond.fieldLink RX2 203 "RoadDust$House" "distance" "I").before _ s = true := hts _ (by decide +kernel)
  refine lv_aload_n hx hb dX2_dustFor_0 rfl (lv_at hl 1 rfl) ?_
  refine gHs_get hx hb hts in_X1 hown hK hG hV.1 hi (hV.hou hi) 0 (by decide) k_1 (fun _ h => h) (j := 82 + 5 * i) rfl dX2_dustFor_1 ?_
  refine lv_istore_n (lv' := [(2, .int (P (82 + 5 * i))), (0, .ref (gad Γ (25 * r))), (1, .ref (gad Γ (25 * r + 14 + i)))]) hx hb dX2_dustFor_4 rfl hl (by decide) rfl (fun ls hl => ?_)
  refine lv_iconst (v := 2) hx hb dX2_dustFor_5 (by decide) ?_
  refine lv_iconst (v := 1) hx hb dX2_dustFor_6 (by decide) ?_
  refine lv_aload_n hx hb dX2_dustFor_7 rfl (lv_at hl 2 rfl) ?_
  refine gHs_get hx hb hts in_X1 hown hK hG hV.1 hi (hV.hou hi) 1 (by decide) k_3 (fun _ h => h) (j := 82 + 5 * i + 1) rfl dX2_dustFor_8 ?_
  refine lv_iadd hx hb dX2_dustFor_11 ?_
  refine lv_imul hx hb dX2_dustFor_12 ?_
  refine lv_istore_n (lv' := [(3, .int (2 * (1 + (P (82 + 5 * i + 1))))), (2, .int (P (82 + 5 * i))), (0, .ref (gad Γ (25 * r))), (1, .ref (gad Γ (25 * r + 14 + i)))]) hx hb dX2_dustFor_13 rfl hl (by decide) rfl (fun ls hl => ?_)
  refine lv_iload_n hx hb dX2_dustFor_14 rfl (lv_at hl 0 rfl) ?_
  refine lv_if_gt (tgt := 22) hx hb dX2_dustFor_15 (by decide) (fun c_1 => ?_) (fun c_1 => ?_)
  · --T
    refine lv_iconst (v := 2) hx hb dX2_dustFor_22 (by decide) ?_
    refine lv_aload_n hx hb dX2_dustFor_23 rfl (lv_at hl 2 rfl) ?_
    refine lv_iload_n hx hb dX2_dustFor_24 rfl (lv_at hl 1 rfl) ?_
    refine g_callV (As := [.int (P (82 + 5 * i))]) (rest := [.int 2]) (st1 := [.int (fX2_dustAt_v P (P (82 + 5 * i))), .int 2]) hF (mX2_dustAt M R O hV P (P (82 + 5 * i))) (cwV 1 hts gX2_dustFor_X2_dustAt rfl rfl rfl (by decide +kernel) ⟨Nat.le_of_ble_eq_true rfl, Nat.le_of_ble_eq_true rfl⟩) hK hZ hG hS hV.c0 (gC_Rd hV.1) (by decide) rfl rfl hl.1 (Nat.le_of_ble_eq_true rfl) dX2_dustFor_25 ⟨Nat.zero_le _, Nat.zero_le _⟩ rfl rfl (fun H locs hG hS => ?_)
    refine lv_imul hx hb dX2_dustFor_28 ?_
    refine lv_aload_n hx hb dX2_dustFor_29 rfl (lv_at hl 2 rfl) ?_
    refine lv_iload_n hx hb dX2_dustFor_30 rfl (lv_at hl 1 rfl) ?_
    refine lv_iconst (v := 1) hx hb dX2_dustFor_31 (by decide) ?_
    refine lv_isub hx hb dX2_dustFor_32 ?_
    refine g_callV (As := [.int ((P (82 + 5 * i)) - 1)]) (rest := [.int (2 * (fX2_dustAt_v P (P (82 + 5 * i))))]) (st1 := [.int (fX2_dustAt_v P ((P (82 + 5 * i)) - 1)), .int (2 * (fX2_dustAt_v P (P (82 + 5 * i))))]) hF (mX2_dustAt M R O hV P ((P (82 + 5 * i)) - 1)) (cwV 1 hts gX2_dustFor_X2_dustAt rfl rfl rfl (by decide +kernel) ⟨Nat.le_of_ble_eq_true rfl, Nat.le_of_ble_eq_true rfl⟩) hK hZ hG hS hV.c0 (gC_Rd hV.1) (by decide) rfl rfl hl.1 (Nat.le_of_ble_eq_true rfl) dX2_dustFor_33 ⟨Nat.zero_le _, Nat.zero_le _⟩ rfl rfl (fun H locs hG hS => ?_)
    refine lv_iadd hx hb dX2_dustFor_36 ?_
    refine lv_aload_n hx hb dX2_dustFor_37 rfl (lv_at hl 2 rfl) ?_
    refine lv_iload_n hx hb dX2_dustFor_38 rfl (lv_at hl 1 rfl) ?_
    refine lv_iconst (v := 1) hx hb dX2_dustFor_39 (by decide) ?_
    refine lv_iadd hx hb dX2_dustFor_40 ?_
    refine g_callV (As := [.int ((P (82 + 5 * i)) + 1)]) (rest := [.int ((2 * (fX2_dustAt_v P (P (82 + 5 * i)))) + (fX2_dustAt_v P ((P (82 + 5 * i)) - 1)))]) (st1 := [.int (fX2_dustAt_v P ((P (82 + 5 * i)) + 1)), .int ((2 * (fX2_dustAt_v P (P (82 + 5 * i)))) + (fX2_dustAt_v P ((P (82 + 5 * i)) - 1)))]) hF (mX2_dustAt M R O hV P ((P (82 + 5 * i)) + 1)) (cwV 1 hts gX2_dustFor_X2_dustAt rfl rfl rfl (by decide +kernel) ⟨Nat.le_of_ble_eq_true rfl, Nat.le_of_ble_eq_true rfl⟩) hK hZ hG hS hV.c0 (gC_Rd hV.1) (by decide) rfl rfl hl.1 (Nat.le_of_ble_eq_true rfl) dX2_dustFor_41 ⟨Nat.zero_le _, Nat.zero_le _⟩ rfl rfl (fun H locs hG hS => ?_)
    refine lv_iadd hx hb dX2_dustFor_44 ?_
    refine lv_iload_n hx hb dX2_dustFor_45 rfl (lv_at hl 0 rfl) ?_
    refine lv_idiv hx hb dX2_dustFor_46 (fun q => by rw [q] at c_1; exact absurd c_1 (by decide)) ?_
    exact g_iret hx hb hrt hlocks hS hG (by unfold fX2_dustFor_v; rw [if_pos c_1]) rfl dX2_dustFor_47
  · --F
    refine lv_iconst (v := 0) hx hb dX2_dustFor_18 (by decide) ?_
    refine lv_goto (tgt := 47) hx hb dX2_dustFor_19 (by decide) ?_
    exact g_iret hx hb hrt hlocks hS hG (by unfold fX2_dustFor_v; rw [if_neg c_1]) rfl dX2_dustFor_47

def fX2_dustForAll_T1  (P : Nat → Int32) (k : Nat) (a1 : Int32) : Int32 := a1 + (fX2_dustFor_v P k)
def fX2_dustForAll_A1  (P : Nat → Int32) : Nat → Int32
  | 0 => 0
  | k + 1 => fX2_dustForAll_T1  P k (fX2_dustForAll_A1  P k)
def fX2_dustForAll_v (P : Nat → Int32) : Int32 := fX2_dustForAll_A1  P ((P 1).toNatClampNeg)
set_option maxHeartbeats 4000000 in
set_option maxRecDepth 100000 in
theorem mX2_dustForAll {l : Launch} {Γ : gX} (M : Nat → Nat → Int32) (R : Nat → Nat → Option Nat) (O : Int64) {r : Nat} (hV : LV Γ R r) (P : Nat → Int32) (h8 : (P 1).toNatClampNeg ≤ 8) : gMet l Γ yX2_dustForAll wsX2_dustForAll 2 44 [.ref (gad Γ (25 * r))] (va_up M r P) R O (some (.int (fX2_dustForAll_v P))) (va_up M r P) R O := by
  refine g_start (cc := cX2_dustForAll) (maxL := 4) (ret := (some .int)) (by decide) rfl (Nat.le_of_ble_eq_true rfl) ?_
  intro p e s m below meth c ls hx hb hml hrt hts hown hlocks hname hK hZ hG hS hl
  have hl : lv_has ls 4 [(0, .ref (gad Γ (25 * r)))] := hl
  have hown : s.vm.findClass RX2 = some m.cls := hown
  have hF : CallFix p m c cX2_dustForAll 4 s _ wsX2_dustForAll RX2 := ⟨hx, hb, hml, hown, hts⟩
  have k_1 : (Cond.fieldLink RX2 39 "RoadDust$Road" "houses" "I").before _ s = true := hts _ (by decide +kernel)
  have in_X2 : ∀ w ∈ wsX20, w ∈ wsX2_dustForAll := by decide +kernel
  refine lv_iconst (v := 0) hx hb dX2_dustForAll_0 (by decide) ?_
  refine lv_istore_n (lv' := [(1, .int 0), (0, .ref (gad Γ (25 * r)))]) hx hb dX2_dustForAll_1 rfl hl (by decide) rfl (fun ls hl => ?_)
  refine lv_iconst (v := 0) hx hb dX2_dustForAll_2 (by decide) ?_
  refine lv_istore_n (lv' := [(2, .int 0), (1, .int 0), (0, .ref (gad Γ (25 * r)))]) hx hb dX2_dustForAll_3 rfl hl (by decide) rfl (fun ls hl => ?_)
  refine g_loop (N := (P 1).toNatClampNeg) (fun k H locs ls => GH Γ (va_up M r P) R O H ∧ va_S (gA Γ) s.heap H locs ∧ lv_has ls 4 [(0, .ref (gad Γ (25 * r))), (1, .int (fX2_dustForAll_A1  P k)), (2, .int (nI k))]) ?_ ?_ 0 (Nat.zero_le _) _ _ _ ⟨hG, hS, lv_sub hl [2, 1, 0] rfl⟩
  · rintro H locs ls ⟨hG, hS, hl⟩
    refine lv_iload_n hx hb dX2_dustForAll_4 rfl (lv_at hl 2 rfl) ?_
    refine lv_aload_n hx hb dX2_dustForAll_5 rfl (lv_at hl 0 rfl) ?_
    refine gRd_get hx hb hts in_X2 hown hK hG hV.1 hV.c0 1 (by decide) k_1 (fun _ h => h) (j := 1) rfl dX2_dustForAll_6 ?_
    refine lv_icmp_ge (tgt := 40) hx hb dX2_dustForAll_9 (by decide) (fun c_1 => ?_) (fun c_1 => absurd (cl_le _) c_1)
    refine lv_iload_n hx hb dX2_dustForAll_40 rfl (lv_at hl 1 rfl) ?_
    exact g_iret hx hb hrt hlocks hS hG (by unfold fX2_dustForAll_v; rfl) rfl dX2_dustForAll_41
  · rintro k hk_k ih_k H locs ls ⟨hG, hS, hl⟩
    refine lv_iload_n hx hb dX2_dustForAll_4 rfl (lv_at hl 2 rfl) ?_
    refine lv_aload_n hx hb dX2_dustForAll_5 rfl (lv_at hl 0 rfl) ?_
    refine gRd_get hx hb hts in_X2 hown hK hG hV.1 hV.c0 1 (by decide) k_1 (fun _ h => h) (j := 1) rfl dX2_dustForAll_6 ?_
    refine lv_icmp_ge (tgt := 40) hx hb dX2_dustForAll_9 (by decide) (fun c_2 => absurd c_2 (cl_ge hk_k)) (fun c_2 => ?_)
    refine lv_aload_n hx hb dX2_dustForAll_12 rfl (lv_at hl 0 rfl) ?_
    refine lv_iload_n hx hb dX2_dustForAll_13 rfl (lv_at hl 2 rfl) ?_
    have c_3 : okI (nI k) (P 1) 8 := okI_k (b := 8) rfl hk_k (by omega) (by decide)
    refine g_callV (As := [.int (nI k)]) (rest := []) (st1 := [.ref (gad Γ (25 * r + 14 + k))]) hF (mX2_houseAt_y M R O hV P c_3 (j := k) (nI_clamp (by omega))) (cwV 1 hts gX2_dustForAll_X2_houseAt rfl rfl rfl (by decide +kernel) ⟨Nat.le_of_ble_eq_true rfl, Nat.le_of_ble_eq_true rfl⟩) hK hZ hG hS hV.c0 (gC_Rd hV.1) (by decide) rfl rfl hl.1 (Nat.le_of_ble_eq_true rfl) dX2_dustForAll_14 ⟨Nat.zero_le _, Nat.zero_le _⟩ rfl rfl (fun H locs hG hS => ?_)
    refine lv_astore_n (lv' := [(3, .ref (gad Γ (25 * r + 14 + k))), (0, .ref (gad Γ (25 * r))), (1, .int (fX2_dustForAll_A1  P k)), (2, .int (nI k))]) hx hb dX2_dustForAll_17 rfl hl (by decide) rfl (fun ls hl => ?_)
    refine lv_iload_n hx hb dX2_dustForAll_18 rfl (lv_at hl 2 rfl) ?_
    refine lv_aload_n hx hb dX2_dustForAll_19 rfl (lv_at hl 0 rfl) ?_
    refine lv_ifnonnull (tgt := 27) hx hb dX2_dustForAll_20 (by decide) ?_
    refine lv_aload_n hx hb dX2_dustForAll_27 rfl (lv_at hl 1 rfl) ?_
    refine lv_aload_n hx hb dX2_dustForAll_28 rfl (lv_at hl 0 rfl) ?_
    refine g_callV (As := [.ref (gad Γ (25 * r + 14 + k))]) (rest := [.int (fX2_dustForAll_A1  P k)]) (st1 := [.int (fX2_dustFor_v P k), .int (fX2_dustForAll_A1  P k)]) hF (mX2_dustFor M R O hV P (i := k) (by omega)) (cwV 1 hts gX2_dustForAll_X2_dustFor rfl rfl rfl (by decide +kernel) ⟨Nat.le_of_ble_eq_true rfl, Nat.le_of_ble_eq_true rfl⟩) hK hZ hG hS hV.c0 (gC_Rd hV.1) (by decide) rfl rfl hl.1 (Nat.le_of_ble_eq_true rfl) dX2_dustForAll_29 ⟨Nat.zero_le _, Nat.zero_le _⟩ rfl rfl (fun H locs hG hS => ?_)
    refine lv_iadd hx hb dX2_dustForAll_32 ?_
    refine lv_istore_n (lv' := [(1, .int ((fX2_dustForAll_A1  P k) + (fX2_dustFor_v P k))), (3, .ref (gad Γ (25 * r + 14 + k))), (0, .ref (gad Γ (25 * r))), (2, .int (nI k))]) hx hb dX2_dustForAll_33 rfl hl (by decide) rfl (fun ls hl => ?_)
    refine lv_iinc (v := nI (k + 1)) (lv' := [(2, .int (nI (k + 1))), (1, .int ((fX2_dustForAll_A1  P k) + (fX2_dustFor_v P k))), (3, .ref (gad Γ (25 * r + 14 + k))), (0, .ref (gad Γ (25 * r)))]) hx hb dX2_dustForAll_34 hl (k := 3) rfl (nI_1 _) (by decide) rfl (fun ls hl => ?_)
    refine lv_goto (tgt := 4) hx hb dX2_dustForAll_37 (by decide) ?_
    exact ih_k _ _ _ ⟨hG, hS, lv_sub hl [3, 1, 0] rfl⟩

def fX2_dustWithout_v (P : Nat → Int32) (a : Int32) : Int32 := if okI a (P 0) 10 then fX2_dustForAll_v (upd P (12 + 7 * a.toNatClampNeg + 3) 0) else fX2_dustForAll_v P
def fX2_dustWithout_P (P : Nat → Int32) (a : Int32) : Nat → Int32 := if okI a (P 0) 10 then upd (upd P (12 + 7 * a.toNatClampNeg + 3) 0) (12 + 7 * a.toNatClampNeg + 3) (P (12 + 7 * a.toNatClampNeg + 3)) else P