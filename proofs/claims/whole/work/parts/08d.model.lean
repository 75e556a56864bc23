/-! THE REFERENCE: wagons, pages. Laid by gen/p08.py. -/
def fX7_wet_P (P : Nat → Int32) (k : Nat) (a : Int32) : Nat → Int32 := upd P ((12 + 7 * k) + 4) (fX7_less_v 9 ((P ((12 + 7 * k) + 4)) + a))
set_option maxHeartbeats 4000000 in
set_option maxRecDepth 100000 in
theorem mX7_wet {l : Launch} {Γ : gX} (M : Nat → Nat → Int32) (R : Nat → Nat → Option Nat) (O : Int64) {c0 b : Nat} (hc : c0 ∈ gcs Γ) (hC : gC c0 = (9, b, 0)) (hn : gLen c0 = 131) (P : Nat → Int32) (k : Nat) {t : Int32} (hkt : t = nI k) (hk : k < 10) (a : Int32) (hW : WS P) : gMet l Γ yX7_wet wsX7_wet 1 21 [.ref (gad Γ c0), .int t, .int a] (va_up M b P) R O none (va_up M b (fX7_wet_P P k a)) R O := by
  subst hkt
  refine g_start (cc := cX7_wet) (maxL := 3) (ret := none) (by decide) rfl (Nat.le_of_ble_eq_true rfl) ?_
  intro p e s m below meth c ls hx hb hml hrt hts hown hlocks hname hK hZ hG hS hl
  have hl : lv_has ls 3 [(0, .ref (gad Γ c0)), (1, .int (nI k)), (2, .int a)] := hl
  have hown : s.vm.findClass RX7 = some m.cls := hown
  have hF : CallFix p m c cX7_wet 3 s _ wsX7_wet RX7 := ⟨hx, hb, hml, hown, hts⟩
  have w0 := hW.1.2
  have w1 := hW.2.1.2
  have w2 := hW.2.2.1.2
  refine lv_aload_n hx hb dX7_wet_0 rfl (lv_at hl 0 rfl) ?_
  refine lv_iload_n hx hb dX7_wet_1 rfl (lv_at hl 1 rfl) ?_
  refine g_callS (As := [.int (nI k)]) (rest := [.ref (gad Γ c0)]) (st1 := [.int (nI (12 + 7 * k)), .ref (gad Γ c0)]) hF (mX7_segmentAt _ R O k rfl) (va_cwS 1 hts gX7_wet_X7_segmentAt rfl rfl rfl (by decide +kernel) ⟨Nat.le_of_ble_eq_true rfl, Nat.le_of_ble_eq_true rfl⟩) hK hZ hG hS rfl hl.1 (Nat.le_of_ble_eq_true rfl) dX7_wet_2 ⟨Nat.zero_le _, Nat.zero_le _⟩ rfl rfl (fun H locs hG hS => ?_)
  refine lv_iconst (v := 4) hx hb dX7_wet_5 (by decide) ?_
  refine lv_iadd hx hb dX7_wet_6 ?_
  refine g_top (show _ = nI ((12 + 7 * k) + 4) from nI_add _ _) ?_
  refine lv_bipush (v := 9) hx hb dX7_wet_7 (by decide) ?_
  refine lv_aload_n hx hb dX7_wet_9 rfl (lv_at hl 0 rfl) ?_
  refine lv_iload_n hx hb dX7_wet_10 rfl (lv_at hl 1 rfl) ?_
  refine g_callS (As := [.int (nI k)]) (rest := [.ref (gad Γ c0), .int 9, .int (nI ((12 + 7 * k) + 4)), .ref (gad Γ c0)]) (st1 := [.int (nI (12 + 7 * k)), .ref (gad Γ c0), .int 9, .int (nI ((12 + 7 * k) + 4)), .ref (gad Γ c0)]) hF (mX7_segmentAt _ R O k rfl) (va_cwS 1 hts gX7_wet_X7_segmentAt rfl rfl rfl (by decide +kernel) ⟨Nat.le_of_ble_eq_true rfl, Nat.le_of_ble_eq_true rfl⟩) hK hZ hG hS rfl hl.1 (Nat.le_of_ble_eq_true rfl) dX7_wet_11 ⟨Nat.zero_le _, Nat.zero_le _⟩ rfl rfl (fun H locs hG hS => ?_)
  refine lv_iconst (v := 4) hx hb dX7_wet_14 (by decide) ?_
  refine lv_iadd hx hb dX7_wet_15 ?_
  refine g_top (show _ = nI ((12 + 7 * k) + 4) from nI_add _ _) ?_
  refine ga_ald hx hb hK hG hc hC hn (by decide) (j := (12 + 7 * k) + 4) rfl (by omega) dX7_wet_16 ?_
  refine lv_iload_n hx hb dX7_wet_17 rfl (lv_at hl 2 rfl) ?_
  refine lv_iadd hx hb dX7_wet_18 ?_
  refine g_callS (As := [.int 9, .int ((P ((12 + 7 * k) + 4)) + a)]) (rest := [.int (nI ((12 + 7 * k) + 4)), .ref (gad Γ c0)]) (st1 := [.int (fX7_less_v 9 ((P ((12 + 7 * k) + 4)) + a)), .int (nI ((12 + 7 * k) + 4)), .ref (gad Γ c0)]) hF (mX7_less _ R O 9 ((P ((12 + 7 * k) + 4)) + a)) (va_cwS 2 hts gX7_wet_X7_less rfl rfl rfl (by decide +kernel) ⟨Nat.le_of_ble_eq_true rfl, Nat.le_of_ble_eq_true rfl⟩) hK hZ hG hS rfl hl.1 (Nat.le_of_ble_eq_true rfl) dX7_wet_19 ⟨Nat.zero_le _, Nat.zero_le _⟩ rfl rfl (fun H locs hG hS => ?_)
  refine ga_ast hx hb hK hG hS hc hC hn (by decide) (j := (12 + 7 * k) + 4) rfl (by omega) dX7_wet_22 (fun H locs hG hS => ?_)
  exact g_vret hx hb hrt hlocks hS hG (congrArg (va_up M b) (by unfold fX7_wet_P; rfl)) rfl dX7_wet_23

def fX7_far_v (P : Nat → Int32) (k : Nat) (a : Int32) : Int32 := if 0 ≤ ((P (122 + 3 * k)) - a) then (P (122 + 3 * k)) - a else -((P (122 + 3 * k)) - a)
set_option maxHeartbeats 4000000 in
set_option maxRecDepth 100000 in
theorem mX7_far {l : Launch} {Γ : gX} (M : Nat → Nat → Int32) (R : Nat → Nat → Option Nat) (O : Int64) {c0 b : Nat} (hc : c0 ∈ gcs Γ) (hC : gC c0 = (9, b, 0)) (hn : gLen c0 = 131) (P : Nat → Int32) (k : Nat) {t : Int32} (hkt : t = nI k) (hk : k < 3) (a : Int32) (hW : WS P) : gMet l Γ yX7_far wsX7_far 1 20 [.ref (gad Γ c0), .int t, .int a] (va_up M b P) R O (some (.int (fX7_far_v P k a))) (va_up M b P) R O := by
  subst hkt
  refine g_start (cc := cX7_far) (maxL := 4) (ret := (some .int)) (by decide) rfl (Nat.le_of_ble_eq_true rfl) ?_
  intro p e s m below meth c ls hx hb hml hrt hts hown hlocks hname hK hZ hG hS hl
  have hl : lv_has ls 4 [(0, .ref (gad Γ c0)), (1, .int (nI k)), (2, .int a)] := hl
  have hown : s.vm.findClass RX7 = some m.cls := hown
  have hF : CallFix p m c cX7_far 4 s _ wsX7_far RX7 := ⟨hx, hb, hml, hown, hts⟩
  have w0 := hW.1.2
  have w1 := hW.2.1.2
  have w2 := hW.2.2.1.2
  refine lv_aload_n hx hb dX7_far_0 rfl (lv_at hl 0 rfl) ?_
  refine lv_iload_n hx hb dX7_far_1 rfl (lv_at hl 1 rfl) ?_
  refine g_callS (As := [.int (nI k)]) (rest := [.ref (gad Γ c0)]) (st1 := [.int (nI (122 + 3 * k)), .ref (gad Γ c0)]) hF (mX7_wagonAt _ R O k rfl) (va_cwS 1 hts gX7_far_X7_wagonAt rfl rfl rfl (by decide +kernel) ⟨Nat.le_of_ble_eq_true rfl, Nat.le_of_ble_eq_true rfl⟩) hK hZ hG hS rfl hl.1 (Nat.le_of_ble_eq_true rfl) dX7_far_2 ⟨Nat.zero_le _, Nat.zero_le _⟩ rfl rfl (fun H locs hG hS => ?_)
  refine ga_ald hx hb hK hG hc hC hn (by decide) (j := 122 + 3 * k) rfl (by omega) dX7_far_5 ?_
  refine lv_iload_n hx hb dX7_far_6 rfl (lv_at hl 2 rfl) ?_
  refine lv_isub hx hb dX7_far_7 ?_
  refine lv_istore_n (lv' := [(3, .int ((P (122 + 3 * k)) - a)), (0, .ref (gad Γ c0)), (1, .int (nI k)), (2, .int a)]) hx hb dX7_far_8 rfl hl (by decide) rfl (fun ls hl => ?_)
  refine lv_iload_n hx hb dX7_far_9 rfl (lv_at hl 0 rfl) ?_
  refine lv_if_ge (tgt := 18) hx hb dX7_far_10 (by decide) (fun c_1 => ?_) (fun c_1 => ?_)
  · --T
    refine lv_iload_n hx hb dX7_far_18 rfl (lv_at hl 0 rfl) ?_
    exact g_iret hx hb hrt hlocks hS hG (by unfold fX7_far_v; rw [if_pos c_1]) rfl dX7_far_19
  · --F
    refine lv_iload_n hx hb dX7_far_13 rfl (lv_at hl 0 rfl) ?_
    refine lv_ineg hx hb dX7_far_14 ?_
    refine lv_goto (tgt := 19) hx hb dX7_far_15 (by decide) ?_
    exact g_iret hx hb hrt hlocks hS hG (by unfold fX7_far_v; rw [if_neg c_1]) rfl dX7_far_19

def fX7_driveOn_v (P : Nat → Int32) (k : Nat) (a : Int32) : Int32 := if (fX7_far_v P k a) ≤ (P ((122 + 3 * k) + 2)) then 1 else 0
def fX7_driveOn_P (P : Nat → Int32) (k : Nat) (a : Int32) : Nat → Int32 := if (fX7_far_v P k a) ≤ (P ((122 + 3 * k) + 2)) then upd (upd P ((122 + 3 * k) + 2) ((P ((122 + 3 * k) + 2)) - (fX7_far_v P k a))) (122 + 3 * k) a else P
set_option maxHeartbeats 4000000 in
set_option maxRecDepth 100000 in
theorem mX7_driveOn {l : Launch} {Γ : gX} (M : Nat → Nat → Int32) (R : Nat → Nat → Option Nat) (O : Int64) {c0 b : Nat} (hc : c0 ∈ gcs Γ) (hC : gC c0 = (9, b, 0)) (hn : gLen c0 = 131) (P : Nat → Int32) (k : Nat) {t : Int32} (hkt : t = nI k) (hk : k < 3) (a : Int32) (hW : WS P) : gMet l Γ yX7_driveOn wsX7_driveOn 2 43 [.ref (gad Γ c0), .int t, .int a] (va_up M b P) R O (some (.int (fX7_driveOn_v P k a))) (va_up M b (fX7_driveOn_P P k a)) R O := by
  subst hkt
  refine g_start (cc := cX7_driveOn) (maxL := 4) (ret := (some .boolean)) (by decide) rfl (Nat.le_of_ble_eq_true rfl) ?_
  intro p e s m below meth c ls hx hb hml hrt hts hown hlocks hname hK hZ hG hS hl
  have hl : lv_has ls 4 [(0, .ref (gad Γ c0)), (1, .int (nI k)), (2, .int a)] := hl
  have hown : s.vm.findClass RX7 = some m.cls := hown
  have hF : CallFix p m c cX7_driveOn 4 s _ wsX7_driveOn RX7 := ⟨hx, hb, hml, hown, hts⟩
  have w0 := hW.1.2
  have w1 := hW.2.1.2
  have w2 := hW.2.2.1.2
  refine lv_aload_n hx hb dX7_driveOn_0 rfl (lv_at hl 0 rfl) ?_
  refine lv_iload_n hx hb dX7_driveOn_1 rfl (lv_at hl 1 rfl) ?_
  refine lv_iload_n hx hb dX7_driveOn_2 rfl (lv_at hl 2 rfl) ?_
  refine g_callS (As := [.ref (gad Γ c0), .int (nI k), .int a]) (rest := []) (st1 := [.int (fX7_far_v P k a)]) hF (mX7_far M R O hc hC hn P k rfl (by omega) a hW) (va_cwS 3 hts gX7_driveOn_X7_far rfl rfl rfl (by decide +kernel) ⟨Nat.le_of_ble_eq_true rfl, Nat.le_of_ble_eq_true rfl⟩) hK hZ hG hS rfl hl.1 (Nat.le_of_ble_eq_true rfl) dX7_driveOn_3 ⟨Nat.zero_le _, Nat.zero_le _⟩ rfl rfl (fun H locs hG hS => ?_)
  refine lv_istore_n (lv' := [(3, .int (fX7_far_v P k a)), (0, .ref (gad Γ c0)), (1, .int (nI k)), (2, .int a)]) hx hb dX7_driveOn_6 rfl hl (by decide) rfl (fun ls hl => ?_)
  refine lv_iload_n hx hb dX7_driveOn_7 rfl (lv_at hl 0 rfl) ?_
  refine lv_aload_n hx hb dX7_driveOn_8 rfl (lv_at hl 1 rfl) ?_
  refine lv_iload_n hx hb dX7_driveOn_9 rfl (lv_at hl 2 rfl) ?_
  refine g_callS (As := [.int (nI k)]) (rest := [.ref (gad Γ c0), .int (fX7_far_v P k a)]) (st1 := [.int (nI (122 + 3 * k)), .ref (gad Γ c0), .int (fX7_far_v P k a)]) hF (mX7_wagonAt _ R O k rfl) (va_cwS 1 hts gX7_driveOn_X7_wagonAt rfl rfl rfl (by decide +kernel) ⟨Nat.le_of_ble_eq_true rfl, Nat.le_of_ble_eq_true rfl⟩) hK hZ hG hS rfl hl.1 (Nat.le_of_ble_eq_true rfl) dX7_driveOn_10 ⟨Nat.zero_le _, Nat.zero_le _⟩ rfl rfl (fun H locs hG hS => ?_)
  refine lv_iconst (v := 2) hx hb dX7_driveOn_13 (by decide) ?_
  refine lv_iadd hx hb dX7_driveOn_14 ?_
  refine g_top (show _ = nI ((122 + 3 * k) + 2) from nI_add _ _) ?_
  refine ga_ald hx hb hK hG hc hC hn (by decide) (j := (122 + 3 * k) + 2) rfl (by omega) dX7_driveOn_15 ?_
  refine lv_icmp_le (tgt := 21) hx hb dX7_driveOn_16 (by decide) (fun c_1 => ?_) (fun c_1 => ?_)
  · --T
    refine lv_aload_n hx hb dX7_driveOn_21 rfl (lv_at hl 1 rfl) ?_
    refine lv_iload_n hx hb dX7_driveOn_22 rfl (lv_at hl 2 rfl) ?_
    refine g_callS (As := [.int (nI k)]) (rest := [.ref (gad Γ c0)]) (st1 := [.int (nI (122 + 3 * k)), .ref (gad Γ c0)]) hF (mX7_wagonAt _ R O k rfl) (va_cwS 1 hts gX7_driveOn_X7_wagonAt rfl rfl rfl (by decide +kernel) ⟨Nat.le_of_ble_eq_true rfl, Nat.le_of_ble_eq_true rfl⟩) hK hZ hG hS rfl hl.1 (Nat.le_of_ble_eq_true rfl) dX7_driveOn_23 ⟨Nat.zero_le _, Nat.zero_le _⟩ rfl rfl (fun H locs hG hS => ?_)
    refine lv_iconst (v := 2) hx hb dX7_driveOn_26 (by decide) ?_
    refine lv_iadd hx hb dX7_driveOn_27 ?_
    refine g_top (show _ = nI ((122 + 3 * k) + 2) from nI_add _ _) ?_
    refine lv_dup2_11 hx hb dX7_driveOn_28 rfl rfl ?_
    refine ga_ald hx hb hK hG hc hC hn (by decide) (j := (122 + 3 * k) + 2) rfl (by omega) dX7_driveOn_29 ?_
    refine lv_iload_n hx hb dX7_driveOn_30 rfl (lv_at hl 0 rfl) ?_
    refine lv_isub hx hb dX7_driveOn_31 ?_
    refine ga_ast hx hb hK hG hS hc hC hn (by decide) (j := (122 + 3 * k) + 2) rfl (by omega) dX7_driveOn_32 (fun H locs hG hS => ?_)
    refine lv_aload_n hx hb dX7_driveOn_33 rfl (lv_at hl 1 rfl) ?_
    refine lv_iload_n hx hb dX7_driveOn_34 rfl (lv_at hl 2 rfl) ?_
    refine g_callS (As := [.int (nI k)]) (rest := [.ref (gad Γ c0)]) (st1 := [.int (nI (122 + 3 * k)), .ref (gad Γ c0)]) hF (mX7_wagonAt _ R O k rfl) (va_cwS 1 hts gX7_driveOn_X7_wagonAt rfl rfl rfl (by decide +kernel) ⟨Nat.le_of_ble_eq_true rfl, Nat.le_of_ble_eq_true rfl⟩) hK hZ hG hS rfl hl.1 (Nat.le_of_ble_eq_true rfl) dX7_driveOn_35 ⟨Nat.zero_le _, Nat.zero_le _⟩ rfl rfl (fun H locs hG hS => ?_)
    refine lv_iload_n hx hb dX7_driveOn_38 rfl (lv_at hl 3 rfl) ?_
    refine ga_ast hx hb hK hG hS hc hC hn (by decide) (j := 122 + 3 * k) rfl (by omega) dX7_driveOn_39 (fun H locs hG hS => ?_)
    refine lv_iconst (v := 1) hx hb dX7_driveOn_40 (by decide) ?_
    exact g_zret hx hb hrt hlocks hS hG (by decide) (by unfold fX7_driveOn_v; rw [if_pos c_1]) (congrArg (va_up M b) (by unfold fX7_driveOn_P; rw [if_pos c_1])) dX7_driveOn_41
  · --F
    refine lv_iconst (v := 0) hx hb dX7_driveOn_19 (by decide) ?_
    exact g_zret hx hb hrt hlocks hS hG (by decide) (by unfold fX7_driveOn_v; rw [if_neg c_1]) (congrArg (va_up M b) (by unfold fX7_driveOn_P; rw [if_neg c_1])) dX7_driveOn_20

def fX7_sprayOn_v (P : Nat → Int32) (k : Nat) (a : Int32) : Int32 := if (P ((122 + 3 * k) + 2)) = 0 then 0 else if a ≤ (P ((122 + 3 * k) + 1)) then 1 else 0
def fX7_sprayOn_P (P : Nat → Int32) (k : Nat) (a : Int32) : Nat → Int32 := if (P ((122 + 3 * k) + 2)) = 0 then P else if a ≤ (P ((122 + 3 * k) + 1)) then fX7_wet_P (upd (upd (upd P ((122 + 3 * k) + 2) ((P ((122 + 3 * k) + 2)) - 1)) ((122 + 3 * k) + 1) (((upd P ((122 + 3 * k) + 2) ((P ((122 + 3 * k) + 2)) - 1)) ((122 + 3 * k) + 1)) - a)) 11 (((upd (upd P ((122 + 3 * k) + 2) ((P ((122 + 3 * k) + 2)) - 1)) ((122 + 3 * k) + 1) (((upd P ((122 + 3 * k) + 2) ((P ((122 + 3 * k) + 2)) - 1)) ((122 + 3 * k) + 1)) - a)) 11) + a)) (((upd (upd (upd P ((122 + 3 * k) + 2) ((P ((122 + 3 * k) + 2)) - 1)) ((122 + 3 * k) + 1) (((upd P ((122 + 3 * k) + 2) ((P ((122 + 3 * k) + 2)) - 1)) ((122 + 3 * k) + 1)) - a)) 11 (((upd (upd P ((122 + 3 * k) + 2) ((P ((122 + 3 * k) + 2)) - 1)) ((122 + 3 * k) + 1) (((upd P ((122 + 3 * k) + 2) ((P ((122 + 3 * k) + 2)) - 1)) ((122 + 3 * k) + 1)) - a)) 11) + a)) (122 + 3 * k)).toNatClampNeg) a else P
set_option maxHeartbeats 4000000 in
set_option maxRecDepth 100000 in
theorem mX7_sprayOn {l : Launch} {Γ : gX} (M : Nat → Nat → Int32) (R : Nat → Nat → Option Nat) (O : Int64) {c0 b : Nat} (hc : c0 ∈ gcs Γ) (hC : gC c0 = (9, b, 0)) (hn : gLen c0 = 131) (P : Nat → Int32) (k : Nat) {t : Int32} (hkt : t = nI k) (hk : k < 3) (a : Int32) (hW : WS P) : gMet l Γ yX7_sprayOn wsX7_sprayOn 2 43 [.ref (gad Γ c0), .int t, .int a] (va_up M b P) R O (some (.int (fX7_sprayOn_v P k a))) (va_up M b (fX7_sprayOn_P P k a)) R O := by
  subst hkt
  refine g_start (cc := cX7_sprayOn) (maxL := 4) (ret := (some .boolean)) (by decide) rfl (Nat.le_of_ble_eq_true rfl) ?_
  intro p e s m below meth c ls hx hb hml hrt hts hown hlocks hname hK hZ hG hS hl
  have hl : lv_has ls 4 [(0, .ref (gad Γ c0)), (1, .int (nI k)), (2, .int a)] := hl
  have hown : s.vm.findClass RX7 = some m.cls := hown
  have hF : CallFix p m c cX7_sprayOn 4 s _ wsX7_sprayOn RX7 := ⟨hx, hb, hml, hown, hts⟩
  have w0 := hW.1.2
  have w1 := hW.2.1.2
  have w2 := hW.2.2.1.2
  refine lv_iload_n hx hb dX7_sprayOn_0 rfl (lv_at hl 1 rfl) ?_
  refine g_callS (As := [.int (nI k)]) (rest := []) (st1 := [.int (nI (122 + 3 * k))]) hF (mX7_wagonAt _ R O k rfl) (va_cwS 1 hts gX7_sprayOn_X7_wagonAt rfl rfl rfl (by decide +kernel) ⟨Nat.le_of_ble_eq_true rfl, Nat.le_of_ble_eq_true rfl⟩) hK hZ hG hS rfl hl.1 (Nat.le_of_ble_eq_true rfl) dX7_sprayOn_1 ⟨Nat.zero_le _, Nat.zero_le _⟩ rfl rfl (fun H locs hG hS => ?_)
  refine lv_istore_n (lv' := [(3, .int (nI (122 + 3 * k))), (0, .ref (gad Γ c0)), (1, .int (nI k)), (2, .int a)]) hx hb dX7_sprayOn_4 rfl hl (by decide) rfl (fun ls hl => ?_)
  refine lv_aload_n hx hb dX7_sprayOn_5 rfl (lv_at hl 1 rfl) ?_
  refine lv_iload_n hx hb dX7_sprayOn_6 rfl (lv_at hl 0 rfl) ?_
  refine lv_iconst (v := 2) hx hb dX7_sprayOn_7 (by decide) ?_
  refine lv_iadd hx hb dX7_sprayOn_8 ?_
  refine g_top (show _ = nI ((122 + 3 * k) + 2) from nI_add _ _) ?_
  refine ga_ald hx hb hK hG hc hC hn (by decide) (j := (122 + 3 * k) + 2) rfl (by omega) dX7_sprayOn_9 ?_
  refine lv_if_eq (tgt := 22) hx hb dX7_sprayOn_10 (by decide) (fun c_1 => ?_) (fun c_1 => ?_)
  · --T
    refine lv_iconst (v := 0) hx hb dX7_sprayOn_22 (by decide) ?_
    exact g_zret hx hb hrt hlocks hS hG (by decide) (by unfold fX7_sprayOn_v; rw [if_pos c_1]) (congrArg (va_up M b) (by unfold fX7_sprayOn_P; rw [if_pos c_1])) dX7_sprayOn_23
  · --F
    refine lv_aload_n hx hb dX7_sprayOn_13 rfl (lv_at hl 1 rfl) ?_
    refine lv_iload_n hx hb dX7_sprayOn_14 rfl (lv_at hl 0 rfl) ?_
    refine lv_iconst (v := 1) hx hb dX7_sprayOn_15 (by decide) ?_
    refine lv_iadd hx hb dX7_sprayOn_16 ?_
    refine g_top (show _ = nI ((122 + 3 * k) + 1) from nI_add _ _) ?_
    refine ga_ald hx hb hK hG hc hC hn (by decide) (j := (122 + 3 * k) + 1) rfl (by omega) dX7_sprayOn_17 ?_
    refine lv_iload_n hx hb dX7_sprayOn_18 rfl (lv_at hl 3 rfl) ?_
    refine lv_icmp_ge (tgt := 24) hx hb dX7_sprayOn_19 (by decide) (fun c_2 => ?_) (fun c_2 => ?_)
    · --T
      refine lv_aload_n hx hb dX7_sprayOn_24 rfl (lv_at hl 1 rfl) ?_
      refine lv_iload_n hx hb dX7_sprayOn_25 rfl (lv_at hl 0 rfl) ?_
      refine lv_iconst (v := 2) hx hb dX7_sprayOn_26 (by decide) ?_
      refine lv_iadd hx hb dX7_sprayOn_27 ?_
      refine g_top (show _ = nI ((122 + 3 * k) + 2) from nI_add _ _) ?_
      refine lv_dup2_11 hx hb dX7_sprayOn_28 rfl rfl ?_
      refine ga_ald hx hb hK hG hc hC hn (by decide) (j := (122 + 3 * k) + 2) rfl (by omega) dX7_sprayOn_29 ?_
      refine lv_iconst (v := 1) hx hb dX7_sprayOn_30 (by decide) ?_
      refine lv_isub hx hb dX7_sprayOn_31 ?_
      refine ga_ast hx hb hK hG hS hc hC hn (by decide) (j := (122 + 3 * k) + 2) rfl (by omega) dX7_sprayOn_32 (fun H locs hG hS => ?_)
      refine lv_aload_n hx hb dX7_sprayOn_33 rfl (lv_at hl 1 rfl) ?_
      refine lv_iload_n hx hb dX7_sprayOn_34 rfl (lv_at hl 0 rfl) ?_
      refine lv_iconst (v := 1) hx hb dX7_sprayOn_35 (by decide) ?_
      refine lv_iadd hx hb dX7_sprayOn_36 ?_
      refine g_top (show _ = nI ((122 + 3 * k) + 1) from nI_add _ _) ?_
      refine lv_dup2_11 hx hb dX7_sprayOn_37 rfl rfl ?_
      refine ga_ald hx hb hK hG hc hC hn (by decide) (j := (122 + 3 * k) + 1) rfl (by omega) dX7_sprayOn_38 ?_
      refine lv_iload_n hx hb dX7_sprayOn_39 rfl (lv_at hl 3 rfl) ?_
      refine lv_isub hx hb dX7_sprayOn_40 ?_
      refine ga_ast hx hb hK hG hS hc hC hn (by decide) (j := (122 + 3 * k) + 1) rfl (by omega) dX7_sprayOn_41 (fun H locs hG hS => ?_)
      refine lv_aload_n hx hb dX7_sprayOn_42 rfl (lv_at hl 1 rfl) ?_
      refine lv_bipush (v := 11) hx hb dX7_sprayOn_43 (by decide) ?_
      refine lv_dup2_11 hx hb dX7_sprayOn_45 rfl rfl ?_
      refine ga_ald hx hb hK hG hc hC hn (by decide) (j := 11) rfl (by omega) dX7_sprayOn_46 ?_
      refine lv_iload_n hx hb dX7_sprayOn_47 rfl (lv_at hl 3 rfl) ?_
      refine lv_iadd hx hb dX7_sprayOn_48 ?_
      refine ga_ast hx hb hK hG hS hc hC hn (by decide) (j := 11) rfl (by omega) dX7_sprayOn_49 (fun H locs hG hS => ?_)
      refine lv_aload_n hx hb dX7_sprayOn_50 rfl (lv_at hl 1 rfl) ?_
      refine lv_aload_n hx hb dX7_sprayOn_51 rfl (lv_at hl 1 rfl) ?_
      refine lv_iload_n hx hb dX7_sprayOn_52 rfl (lv_at hl 0 rfl) ?_
      refine ga_ald hx hb hK hG hc hC hn (by decide) (j := 122 + 3 * k) rfl (by omega) dX7_sprayOn_53 ?_
      refine lv_iload_n hx hb dX7_sprayOn_54 rfl (lv_at hl 3 rfl) ?_
      refine g_callS (As := [.ref (gad Γ c0), .int ((upd (upd (upd P ((122 + 3 * k) + 2) ((P ((122 + 3 * k) + 2)) - 1)) ((122 + 3 * k) + 1) (((upd P ((122 + 3 * k) + 2) ((P ((122 + 3 * k) + 2)) - 1)) ((122 + 3 * k) + 1)) - a)) 11 (((upd (upd P ((122 + 3 * k) + 2) ((P ((122 + 3 * k) + 2)) - 1)) ((122 + 3 * k) + 1) (((upd P ((122 + 3 * k) + 2) ((P ((122 + 3 * k) + 2)) - 1)) ((122 + 3 * k) + 1)) - a)) 11) + a)) (122 + 3 * k)), .int a]) (rest := []) (st1 := []) hF (mX7_wet M R O hc hC hn (upd (upd (upd P ((122 + 3 * k) + 2) ((P ((122 + 3 * k) + 2)) - 1)) ((122 + 3 * k) + 1) (((upd P ((122 + 3 * k) + 2) ((P ((122 + 3 * k) + 2)) - 1)) ((122 + 3 * k) + 1)) - a)) 11 (((upd (upd P ((122 + 3 * k) + 2) ((P ((122 + 3 * k) + 2)) - 1)) ((122 + 3 * k) + 1) (((upd P ((122 + 3 * k) + 2) ((P ((122 + 3 * k) + 2)) - 1)) ((122 + 3 * k) + 1)) - a)) 11) + a)) (((upd (upd (upd P ((122 + 3 * k) + 2) ((P ((122 + 3 * k) + 2)) - 1)) ((122 + 3 * k) + 1) (((upd P ((122 + 3 * k) + 2) ((P ((122 + 3 * k) + 2)) - 1)) ((122 + 3 * k) + 1)) - a)) 11 (((upd (upd P ((122 + 3 * k) + 2) ((P ((122 + 3 * k) + 2)) - 1)) ((122 + 3 * k) + 1) (((upd P ((122 + 3 * k) + 2) ((P ((122 + 3 * k) + 2)) - 1)) ((122 + 3 * k) + 1)) - a)) 11) + a)) (122 + 3 * k)).toNatClampNeg) (((WS.up (by unfold kw; omega) (WS.up (by unfold kw; omega) (WS.up (by unfold kw; omega) hW))).2.2.2.2 k (by omega)).1) ((WS.up (by unfold kw; omega) (WS.up (by unfold kw; omega) (WS.up (by unfold kw; omega) hW))).2.2.2.2 k (by omega)).2 a (WS.up (by unfold kw; omega) (WS.up (by unfold kw; omega) (WS.up (by unfold kw; omega) hW)))) (va_cwS 3 hts gX7_sprayOn_X7_wet rfl rfl rfl (by decide +kernel) ⟨Nat.le_of_ble_eq_true rfl, Nat.le_of_ble_eq_true rfl⟩) hK hZ hG hS rfl hl.1 (Nat.le_of_ble_eq_true rfl) dX7_sprayOn_55 ⟨Nat.zero_le _, Nat.zero_le _⟩ rfl rfl (fun H locs hG hS => ?_)
      refine lv_iconst (v := 1) hx hb dX7_sprayOn_58 (by decide) ?_
      exact g_zret hx hb hrt hlocks hS hG (by decide) (by unfold fX7_sprayOn_v; rw [if_neg c_1, if_pos c_2]) (congrArg (va_up M b) (by unfold fX7_sprayOn_P; rw [if_neg c_1, if_pos c_2])) dX7_sprayOn_59
    · --F
      refine lv_iconst (v := 0) hx hb dX7_sprayOn_22 (by decide) ?_
      exact g_zret hx hb hrt hlocks hS hG (by decide) (by unfold fX7_sprayOn_v; rw [if_neg c_1, if_neg c_2]) (congrArg (va_up M b) (by unfold fX7_sprayOn_P; rw [if_neg c_1, if_neg c_2])) dX7_sprayOn_23

def fX7_why_v (P : Nat → Int32) (k : Nat) : Int32 := if (P ((122 + 3 * k) + 2)) = 0 then 1 else if (P ((12 + 7 * ((P (122 + 3 * k)).toNatClampNeg)) + 5)) = 0 then 2 else if (P ((122 + 3 * k) + 1)) = 20 then 3 else if (P 9) < (P 8) then 0 else 4
set_option maxHeartbeats 4000000 in
set_option maxRecDepth 100000 in
theorem mX7_why {l : Launch} {Γ : gX} (M : Nat → Nat → Int32) (R : Nat → Nat → Option Nat) (O : Int64) {c0 b : Nat} (hc : c0 ∈ gcs Γ) (hC : gC c0 = (9, b, 0)) (hn : gLen c0 = 131) (P : Nat → Int32) (k : Nat) {t : Int32} (hkt : t = nI k) (hk : k < 3) (hW : WS P) : gMet l Γ yX7_why wsX7_why 1 20 [.ref (gad Γ c0), .int t] (va_up M b P) R O (some (.int (fX7_why_v P k))) (va_up M b P) R O := by
  subst hkt
  refine g_start (cc := cX7_why) (maxL := 3) (ret := (some .int)) (by decide) rfl (Nat.le_of_ble_eq_true rfl) ?_
  intro p e s m below meth c ls hx hb hml hrt hts hown hlocks hname hK hZ hG hS hl
  have hl : lv_has ls 3 [(0, .ref (gad Γ c0)), (1, .int (nI k))] := hl
  have hown : s.vm.findClass RX7 = some m.cls := hown
  have hF : CallFix p m c cX7_why 3 s _ wsX7_why RX7 := ⟨hx, hb, hml, hown, hts⟩
  have w0 := hW.1.2
  have w1 := hW.2.1.2
  have w2 := hW.2.2.1.2
  have q_2 := (hW.2.2.2.2 k hk).2
  refine lv_iload_n hx hb dX7_why_0 rfl (lv_at hl 1 rfl) ?_
  refine g_callS (As := [.int (nI k)]) (rest := []) (st1 := [.int (nI (122 + 3 * k))]) hF (mX7_wagonAt _ R O k rfl) (va_cwS 1 hts gX7_why_X7_wagonAt rfl rfl rfl (by decide +kernel) ⟨Nat.le_of_ble_eq_true rfl, Nat.le_of_ble_eq_true rfl⟩) hK hZ hG hS rfl hl.1 (Nat.le_of_ble_eq_true rfl) dX7_why_1 ⟨Nat.zero_le _, Nat.zero_le _⟩ rfl rfl (fun H locs hG hS => ?_)
  refine lv_istore_n (lv' := [(2, .int (nI (122 + 3 * k))), (0, .ref (gad Γ c0)), (1, .int (nI k))]) hx hb dX7_why_4 rfl hl (by decide) rfl (fun ls hl => ?_)
  refine lv_aload_n hx hb dX7_why_5 rfl (lv_at hl 1 rfl) ?_
  refine lv_iload_n hx hb dX7_why_6 rfl (lv_at hl 0 rfl) ?_
  refine lv_iconst (v := 2) hx hb dX7_why_7 (by decide) ?_
  refine lv_iadd hx hb dX7_why_8 ?_
  refine g_top (show _ = nI ((122 + 3 * k) + 2) from nI_add _ _) ?_
  refine ga_ald hx hb hK hG hc hC hn (by decide) (j := (122 + 3 * k) + 2) rfl (by omega) dX7_why_9 ?_
  refine lv_if_ne (tgt := 15) hx hb dX7_why_10 (by decide) (fun c_1 => ?_) (fun c_1 => ?_)
  · --T
    refine lv_aload_n hx hb dX7_why_15 rfl (lv_at hl 1 rfl) ?_
    refine lv_aload_n hx hb dX7_why_16 rfl (lv_at hl 1 rfl) ?_
    refine lv_iload_n hx hb dX7_why_17 rfl (lv_at hl 0 rfl) ?_
    refine ga_ald hx hb hK hG hc hC hn (by decide) (j := 122 + 3 * k) rfl (by omega) dX7_why_18 ?_
    refine g_callS (As := [.int (P (122 + 3 * k))]) (rest := [.ref (gad Γ c0)]) (st1 := [.int (nI (12 + 7 * ((P (122 + 3 * k)).toNatClampNeg))), .ref (gad Γ c0)]) hF (mX7_segmentAt _ R O ((P (122 + 3 * k)).toNatClampNeg) ((hW.2.2.2.2 k (by omega)).1)) (va_cwS 1 hts gX7_why_X7_segmentAt rfl rfl rfl (by decide +kernel) ⟨Nat.le_of_ble_eq_true rfl, Nat.le_of_ble_eq_true rfl⟩) hK hZ hG hS rfl hl.1 (Nat.le_of_ble_eq_true rfl) dX7_why_19 ⟨Nat.zero_le _, Nat.zero_le _⟩ rfl rfl (fun H locs hG hS => ?_)
    refine lv_iconst (v := 5) hx hb dX7_why_22 (by decide) ?_
    refine lv_iadd hx hb dX7_why_23 ?_
    refine g_top (show _ = nI ((12 + 7 * ((P (122 + 3 * k)).toNatClampNeg)) + 5) from nI_add _ _) ?_
    refine ga_ald hx hb hK hG hc hC hn (by decide) (j := (12 + 7 * ((P (122 + 3 * k)).toNatClampNeg)) + 5) rfl (by omega) dX7_why_24 ?_
    refine lv_if_ne (tgt := 30) hx hb dX7_why_25 (by decide) (fun c_2 => ?_) (fun c_2 => ?_)
    · --T
      refine lv_aload_n hx hb dX7_why_30 rfl (lv_at hl 1 rfl) ?_
      refine lv_iload_n hx hb dX7_why_31 rfl (lv_at hl 0 rfl) ?_
      refine lv_iconst (v := 1) hx hb dX7_why_32 (by decide) ?_
      refine lv_iadd hx hb dX7_why_33 ?_
      refine g_top (show _ = nI ((122 + 3 * k) + 1) from nI_add _ _) ?_
      refine ga_ald hx hb hK hG hc hC hn (by decide) (j := (122 + 3 * k) + 1) rfl (by omega) dX7_why_34 ?_
      refine lv_bipush (v := 20) hx hb dX7_why_35 (by decide) ?_
      refine lv_icmp_ne (tgt := 44) hx hb dX7_why_37 (by decide) (fun c_3 => ?_) (fun c_3 => ?_)
      · --T
        refine lv_aload_n hx hb dX7_why_44 rfl (lv_at hl 1 rfl) ?_
        refine lv_bipush (v := 9) hx hb dX7_why_45 (by decide) ?_
        refine ga_ald hx hb hK hG hc hC hn (by decide) (j := 9) rfl (by omega) dX7_why_47 ?_
        refine lv_aload_n hx hb dX7_why_48 rfl (lv_at hl 1 rfl) ?_
        refine lv_bipush (v := 8) hx hb dX7_why_49 (by decide) ?_
        refine ga_ald hx hb hK hG hc hC hn (by decide) (j := 8) rfl (by omega) dX7_why_51 ?_
        refine lv_icmp_lt (tgt := 59) hx hb dX7_why_52 (by decide) (fun c_4 => ?_) (fun c_4 => ?_)
        · --T
          refine lv_iconst (v := 0) hx hb dX7_why_59 (by decide) ?_
          exact g_iret hx hb hrt hlocks hS hG (by unfold fX7_why_v; rw [if_neg c_1, if_neg c_2, if_neg c_3, if_pos c_4]) rfl dX7_why_60
        · --F
          refine lv_iconst (v := 4) hx hb dX7_why_55 (by decide) ?_
          refine lv_goto (tgt := 60) hx hb dX7_why_56 (by decide) ?_
          exact g_iret hx hb hrt hlocks hS hG (by unfold fX7_why_v; rw [if_neg c_1, if_neg c_2, if_neg c_3, if_neg c_4]) rfl dX7_why_60
      · --F
        refine lv_iconst (v := 3) hx hb dX7_why_40 (by decide) ?_
        refine lv_goto (tgt := 60) hx hb dX7_why_41 (by decide) ?_
        exact g_iret hx hb hrt hlocks hS hG (by unfold fX7_why_v; rw [if_neg c_1, if_neg c_2, if_pos c_3]) rfl dX7_why_60
    · --F
      refine lv_iconst (v := 2) hx hb dX7_why_28 (by decide) ?_
      exact g_iret hx hb hrt hlocks hS hG (by unfold fX7_why_v; rw [if_neg c_1, if_pos c_2]) rfl dX7_why_29
  · --F
    refine lv_iconst (v := 1) hx hb dX7_why_13 (by decide) ?_
    exact g_iret hx hb hrt hlocks hS hG (by unfold fX7_why_v; rw [if_pos c_1]) rfl dX7_why_14

def fX7_fillOn_v (P : Nat → Int32) (k : Nat) : Int32 := fX7_less_v (20 - (P ((122 + 3 * k) + 1))) ((P 8) - (P 9))
def fX7_fillOn_P (P : Nat → Int32) (k : Nat) : Nat → Int32 := upd (upd (upd P ((122 + 3 * k) + 1) ((P ((122 + 3 * k) + 1)) + (fX7_less_v (20 - (P ((122 + 3 * k) + 1))) ((P 8) - (P 9))))) ((122 + 3 * k) + 2) (((upd P ((122 + 3 * k) + 1) ((P ((122 + 3 * k) + 1)) + (fX7_less_v (20 - (P ((122 + 3 * k) + 1))) ((P 8) - (P 9))))) ((122 + 3 * k) + 2)) - 1)) 9 (((upd (upd P ((122 + 3 * k) + 1) ((P ((122 + 3 * k) + 1)) + (fX7_less_v (20 - (P ((122 + 3 * k) + 1))) ((P 8) - (P 9))))) ((122 + 3 * k) + 2) (((upd P ((122 + 3 * k) + 1) ((P ((122 + 3 * k) + 1)) + (fX7_less_v (20 - (P ((122 + 3 * k) + 1))) ((P 8) - (P 9))))) ((122 + 3 * k) + 2)) - 1)) 9) + (fX7_less_v (20 - (P ((122 + 3 * k) + 1))) ((P 8) - (P 9))))
set_option maxHeartbeats 4000000 in
set_option maxRecDepth 100000 in
theorem mX7_fillOn {l : Launch} {Γ : gX} (M : Nat → Nat → Int32) (R : Nat → Nat → Option Nat) (O : Int64) {c0 b : Nat} (hc : c0 ∈ gcs Γ) (hC : gC c0 = (9, b, 0)) (hn : gLen c0 = 131) (P : Nat → Int32) (k : Nat) {t : Int32} (hkt : t = nI k) (hk : k < 3) (hW : WS P) : gMet l Γ yX7_fillOn wsX7_fillOn 1 21 [.ref (gad Γ c0), .int t] (va_up M b P) R O (some (.int (fX7_fillOn_v P k))) (va_up M b (fX7_fillOn_P P k)) R O := by
  subst hkt
  refine g_start (cc := cX7_fillOn) (maxL := 4) (ret := (some .int)) (by decide) rfl (Nat.le_of_ble_eq_true rfl) ?_
  intro p e s m below meth c ls hx hb hml hrt hts hown hlocks hname hK hZ hG hS hl
  have hl : lv_has ls 4 [(0, .ref (gad Γ c0)), (1, .int (nI k))] := hl
  have hown : s.vm.findClass RX7 = some m.cls := hown
  have hF : CallFix p m c cX7_fillOn 4 s _ wsX7_fillOn RX7 := ⟨hx, hb, hml, hown, hts⟩
  have w0 := hW.1.2
  have w1 := hW.2.1.2
  have w2 := hW.2.2.1.2
  refine lv_iload_n hx hb dX7_fillOn_0 rfl (lv_at hl 1 rfl) ?_
  refine g_callS (As := [.int (nI k)]) (rest := []) (st1 := [.int (nI (122 + 3 * k))]) hF (mX7_wagonAt _ R O k rfl) (va_cwS 1 hts gX7_fillOn_X7_wagonAt rfl rfl rfl (by decide +kernel) ⟨Nat.le_of_ble_eq_true rfl, Nat.le_of_ble_eq_true rfl⟩) hK hZ hG hS rfl hl.1 (Nat.le_of_ble_eq_true rfl) dX7_fillOn_1 ⟨Nat.zero_le _, Nat.zero_le _⟩ rfl rfl (fun H locs hG hS => ?_)
  refine lv_istore_n (lv' := [(2, .int (nI (122 + 3 * k))), (0, .ref (gad Γ c0)), (1, .int (nI k))]) hx hb dX7_fillOn_4 rfl hl (by decide) rfl (fun ls hl => ?_)
  refine lv_bipush (v := 20) hx hb dX7_fillOn_5 (by decide) ?_
  refine lv_aload_n hx hb dX7_fillOn_7 rfl (lv_at hl 1 rfl) ?_
  refine lv_iload_n hx hb dX7_fillOn_8 rfl (lv_at hl 0 rfl) ?_
  refine lv_iconst (v := 1) hx hb dX7_fillOn_9 (by decide) ?_
  refine lv_iadd hx hb dX7_fillOn_10 ?_
  refine g_top (show _ = nI ((122 + 3 * k) + 1) from nI_add _ _) ?_
  refine ga_ald hx hb hK hG hc hC hn (by decide) (j := (122 + 3 * k) + 1) rfl (by omega) dX7_fillOn_11 ?_
  refine lv_isub hx hb dX7_fillOn_12 ?_
  refine lv_aload_n hx hb dX7_fillOn_13 rfl (lv_at hl 1 rfl) ?_
  refine lv_bipush (v := 8) hx hb dX7_fillOn_14 (by decide) ?_
  refine ga_ald hx hb hK hG hc hC hn (by decide) (j := 8) rfl (by omega) dX7_fillOn_16 ?_
  refine lv_aload_n hx hb dX7_fillOn_17 rfl (lv_at hl 1 rfl) ?_
  refine lv_bipush (v := 9) hx hb dX7_fillOn_18 (by decide) ?_
  refine ga_ald hx hb hK hG hc hC hn (by decide) (j := 9) rfl (by omega) dX7_fillOn_20 ?_
  refine lv_isub hx hb dX7_fillOn_21 ?_
  refine g_callS (As := [.int (20 - (P ((122 + 3 * k) + 1))), .int ((P 8) - (P 9))]) (rest := []) (st1 := [.int (fX7_less_v (20 - (P ((122 + 3 * k) + 1))) ((P 8) - (P 9)))]) hF (mX7_less _ R O (20 - (P ((122 + 3 * k) + 1))) ((P 8) - (P 9))) (va_cwS 2 hts gX7_fillOn_X7_less rfl rfl rfl (by decide +kernel) ⟨Nat.le_of_ble_eq_true rfl, Nat.le_of_ble_eq_true rfl⟩) hK hZ hG hS rfl hl.1 (Nat.le_of_ble_eq_true rfl) dX7_fillOn_22 ⟨Nat.zero_le _, Nat.zero_le _⟩ rfl rfl (fun H locs hG hS => ?_)
  refine lv_istore_n (lv' := [(3, .int (fX7_less_v (20 - (P ((122 + 3 * k) + 1))) ((P 8) - (P 9)))), (2, .int (nI (122 + 3 * k))), (0, .ref (gad Γ c0)), (1, .int (nI k))]) hx hb dX7_fillOn_25 rfl hl (by decide) rfl (fun ls hl => ?_)
  refine lv_aload_n hx hb dX7_fillOn_26 rfl (lv_at hl 2 rfl) ?_
  refine lv_iload_n hx hb dX7_fillOn_27 rfl (lv_at hl 1 rfl) ?_
  refine lv_iconst (v := 1) hx hb dX7_fillOn_28 (by decide) ?_
  refine lv_iadd hx hb dX7_fillOn_29 ?_
  refine g_top (show _ = nI ((122 + 3 * k) + 1) from nI_add _ _) ?_
  refine lv_dup2_11 hx hb dX7_fillOn_30 rfl rfl ?_
  refine ga_ald hx hb hK hG hc hC hn (by decide) (j := (122 + 3 * k) + 1) rfl (by omega) dX7_fillOn_31 ?_
  refine lv_iload_n hx hb dX7_fillOn_32 rfl (lv_at hl 0 rfl) ?_
  refine lv_iadd hx hb dX7_fillOn_33 ?_
  refine ga_ast hx hb hK hG hS hc hC hn (by decide) (j := (122 + 3 * k) + 1) rfl (by omega) dX7_fillOn_34 (fun H locs hG hS => ?_)
  refine lv_aload_n hx hb dX7_fillOn_35 rfl (lv_at hl 2 rfl) ?_
  refine lv_iload_n hx hb dX7_fillOn_36 rfl (lv_at hl 1 rfl) ?_
  refine lv_iconst (v := 2) hx hb dX7_fillOn_37 (by decide) ?_
  refine lv_iadd hx hb dX7_fillOn_38 ?_
  refine g_top (show _ = nI ((122 + 3 * k) + 2) from nI_add _ _) ?_
  refine lv_dup2_11 hx hb dX7_fillOn_39 rfl rfl ?_
  refine ga_ald hx hb hK hG hc hC hn (by decide) (j := (122 + 3 * k) + 2) rfl (by omega) dX7_fillOn_40 ?_
  refine lv_iconst (v := 1) hx hb dX7_fillOn_41 (by decide) ?_
  refine lv_isub hx hb dX7_fillOn_42 ?_
  refine ga_ast hx hb hK hG hS hc hC hn (by decide) (j := (122 + 3 * k) + 2) rfl (by omega) dX7_fillOn_43 (fun H locs hG hS => ?_)
  refine lv_aload_n hx hb dX7_fillOn_44 rfl (lv_at hl 2 rfl) ?_
  refine lv_bipush (v := 9) hx hb dX7_fillOn_45 (by decide) ?_
  refine lv_dup2_11 hx hb dX7_fillOn_47 rfl rfl ?_
  refine ga_ald hx hb hK hG hc hC hn (by decide) (j := 9) rfl (by omega) dX7_fillOn_48 ?_
  refine lv_iload_n hx hb dX7_fillOn_49 rfl (lv_at hl 0 rfl) ?_
  refine lv_iadd hx hb dX7_fillOn_50 ?_
  refine ga_ast hx hb hK hG hS hc hC hn (by decide) (j := 9) rfl (by omega) dX7_fillOn_51 (fun H locs hG hS => ?_)
  refine lv_iload_n hx hb dX7_fillOn_52 rfl (lv_at hl 0 rfl) ?_
  exact g_iret hx hb hrt hlocks hS hG (by unfold fX7_fillOn_v; rfl) (congrArg (va_up M b) (by unfold fX7_fillOn_P; rfl)) dX7_fillOn_53

def fX7_houseOn_S (n : Nat) (Pk : Nat → Int32) (k : Nat) : Nat → Int32 := upd Pk ((82 + 5 * n) + k) 0
def fX7_houseOn_L (n : Nat) (P : Nat → Int32) : Nat → Nat → Int32
  | 0 => P
  | k + 1 => fX7_houseOn_S n (fX7_houseOn_L n P k) k
def fX7_houseOn_P (P : Nat → Int32) (a d : Int32) : Nat → Int32 := upd (upd (upd (fX7_houseOn_L (P 1).toNatClampNeg P 5) (82 + 5 * (P 1).toNatClampNeg) a) ((82 + 5 * (P 1).toNatClampNeg) + 1) d) 1 (((upd (upd (fX7_houseOn_L (P 1).toNatClampNeg P 5) (82 + 5 * (P 1).toNatClampNeg) a) ((82 + 5 * (P 1).toNatClampNeg) + 1) d) 1) + 1)
set_option maxHeartbeats 4000000 in
set_option maxRecDepth 100000 in
theorem mX7_houseOn {l : Launch} {Γ : gX} (M : Nat → Nat → Int32) (R : Nat → Nat → Option Nat) (O : Int64) {c0 b : Nat} (hc : c0 ∈ gcs Γ) (hC : gC c0 = (9, b, 0)) (hn : gLen c0 = 131) (P : Nat → Int32) (a d : Int32) (hW : WS P) (h8 : (P 1).toNatClampNeg < 8) : gMet l Γ yX7_houseOn wsX7_houseOn 1 20 [.ref (gad Γ c0), .int a, .int d] (va_up M b P) R O none (va_up M b (fX7_houseOn_P P a d)) R O := by
  refine g_start (cc := cX7_houseOn) (maxL := 5) (ret := none) (by decide) rfl (Nat.le_of_ble_eq_true rfl) ?_
  intro p e s m below meth c ls hx hb hml hrt hts hown hlocks hname hK hZ hG hS hl
  have hl : lv_has ls 5 [(0, .ref (gad Γ c0)), (1, .int a), (2, .int d)] := hl
  have hown : s.vm.findClass RX7 = some m.cls := hown
  have hF : CallFix p m c cX7_houseOn 5 s _ wsX7_houseOn RX7 := ⟨hx, hb, hml, hown, hts⟩
  have w0 := hW.1.2
  have w1 := hW.2.1.2
  have w2 := hW.2.2.1.2
  refine lv_aload_n hx hb dX7_houseOn_0 rfl (lv_at hl 0 rfl) ?_
  refine lv_iconst (v := 1) hx hb dX7_houseOn_1 (by decide) ?_
  refine ga_ald hx hb hK hG hc hC hn (by decide) (j := 1) rfl (by omega) dX7_houseOn_2 ?_
  refine g_callS (As := [.int (P 1)]) (rest := []) (st1 := [.int (nI (82 + 5 * ((P 1).toNatClampNeg)))]) hF (mX7_houseAt _ R O ((P 1).toNatClampNeg) hW.2.1.1) (va_cwS 1 hts gX7_houseOn_X7_houseAt rfl rfl rfl (by decide +kernel) ⟨Nat.le_of_ble_eq_true rfl, Nat.le_of_ble_eq_true rfl⟩) hK hZ hG hS rfl hl.1 (Nat.le_of_ble_eq_true rfl) dX7_houseOn_3 ⟨Nat.zero_le _, Nat.zero_le _⟩ rfl rfl (fun H locs hG hS => ?_)
  refine lv_istore_n (lv' := [(3, .int (nI (82 + 5 * ((P 1).toNatClampNeg)))), (0, .ref (gad Γ c0)), (1, .int a), (2, .int d)]) hx hb dX7_houseOn_6 rfl hl (by decide) rfl (fun ls hl => ?_)
  refine lv_iconst (v := 0) hx hb dX7_houseOn_7 (by decide) ?_
  refine lv_istore (lv' := [(4, .int 0), (3, .int (nI (82 + 5 * ((P 1).toNatClampNeg)))), (0, .ref (gad Γ c0)), (1, .int a), (2, .int d)]) hx hb dX7_houseOn_8 hl (by decide) rfl (fun ls hl => ?_)
  refine g_loop (N := 5) (fun k H locs ls => GH Γ (va_up M b (fX7_houseOn_L (P 1).toNatClampNeg P k)) R O H ∧ va_S (gA Γ) s.heap H locs ∧ lv_has ls 5 [(0, .ref (gad Γ c0)), (1, .int a), (2, .int d), (3, .int (nI (82 + 5 * (P 1).toNatClampNeg))), (4, .int (nI k))]) ?_ ?_ 0 (Nat.zero_le _) _ _ _ ⟨hG, hS, lv_sub hl [2, 3, 4, 1, 0] rfl⟩
  · rintro H locs ls ⟨hG, hS, hl⟩
    refine lv_iload hx hb dX7_houseOn_10 (lv_at hl 4 rfl) ?_
    refine lv_iconst (v := 5) hx hb dX7_houseOn_12 (by decide) ?_
    refine lv_icmp_ge (tgt := 29) hx hb dX7_houseOn_13 (by decide) (fun c_1 => ?_) (fun c_1 => absurd (nI_le (Nat.le_refl _) (by decide)) c_1)
    refine lv_aload_n hx hb dX7_houseOn_29 rfl (lv_at hl 0 rfl) ?_
    refine lv_iload_n hx hb dX7_houseOn_30 rfl (lv_at hl 3 rfl) ?_
    refine lv_iload_n hx hb dX7_houseOn_31 rfl (lv_at hl 1 rfl) ?_
    refine ga_ast hx hb hK hG hS hc hC hn (by decide) (j := 82 + 5 * (P 1).toNatClampNeg) rfl (by omega) dX7_houseOn_32 (fun H locs hG hS => ?_)
    refine lv_aload_n hx hb dX7_houseOn_33 rfl (lv_at hl 0 rfl) ?_
    refine lv_iload_n hx hb dX7_houseOn_34 rfl (lv_at hl 3 rfl) ?_
    refine lv_iconst (v := 1) hx hb dX7_houseOn_35 (by decide) ?_
    refine lv_iadd hx hb dX7_houseOn_36 ?_
    refine g_top (show _ = nI ((82 + 5 * (P 1).toNatClampNeg) + 1) from nI_add _ _) ?_
    refine lv_iload_n hx hb dX7_houseOn_37 rfl (lv_at hl 2 rfl) ?_
    refine ga_ast hx hb hK hG hS hc hC hn (by decide) (j := (82 + 5 * (P 1).toNatClampNeg) + 1) rfl (by omega) dX7_houseOn_38 (fun H locs hG hS => ?_)
    refine lv_aload_n hx hb dX7_houseOn_39 rfl (lv_at hl 0 rfl) ?_
    refine lv_iconst (v := 1) hx hb dX7_houseOn_40 (by decide) ?_
    refine lv_dup2_11 hx hb dX7_houseOn_41 rfl rfl ?_
    refine ga_ald hx hb hK hG hc hC hn (by decide) (j := 1) rfl (by omega) dX7_houseOn_42 ?_
    refine lv_iconst (v := 1) hx hb dX7_houseOn_43 (by decide) ?_
    refine lv_iadd hx hb dX7_houseOn_44 ?_
    refine ga_ast hx hb hK hG hS hc hC hn (by decide) (j := 1) rfl (by omega) dX7_houseOn_45 (fun H locs hG hS => ?_)
    exact g_vret hx hb hrt hlocks hS hG (congrArg (va_up M b) (by unfold fX7_houseOn_P; rfl)) rfl dX7_houseOn_46
  · rintro k hk_k ih_k H locs ls ⟨hG, hS, hl⟩
    refine lv_iload hx hb dX7_houseOn_10 (lv_at hl 4 rfl) ?_
    refine lv_iconst (v := 5) hx hb dX7_houseOn_12 (by decide) ?_
    refine lv_icmp_ge (tgt := 29) hx hb dX7_houseOn_13 (by decide) (fun c_2 => absurd c_2 (nI_ge hk_k (by decide))) (fun c_2 => ?_)
    refine lv_aload_n hx hb dX7_houseOn_16 rfl (lv_at hl 0 rfl) ?_
    refine lv_iload_n hx hb dX7_houseOn_17 rfl (lv_at hl 3 rfl) ?_
    refine lv_iload hx hb dX7_houseOn_18 (lv_at hl 4 rfl) ?_
    refine lv_iadd hx hb dX7_houseOn_20 ?_
    refine g_top (show _ = nI ((82 + 5 * (P 1).toNatClampNeg) + k) from nI_add _ _) ?_
    refine lv_iconst (v := 0) hx hb dX7_houseOn_21 (by decide) ?_
    refine ga_ast hx hb hK hG hS hc hC hn (by decide) (j := (82 + 5 * (P 1).toNatClampNeg) + k) rfl (by omega) dX7_houseOn_22 (fun H locs hG hS => ?_)
    refine lv_iinc (v := nI (k + 1)) (lv' := [(4, .int (nI (k + 1))), (0, .ref (gad Γ c0)), (1, .int a), (2, .int d), (3, .int (nI (82 + 5 * (P 1).toNatClampNeg)))]) hx hb dX7_houseOn_23 hl (k := 4) rfl (nI_1 _) (by decide) rfl (fun ls hl => ?_)
    refine lv_goto (tgt := 10) hx hb dX7_houseOn_26 (by decide) ?_
    exact ih_k _ _ _ ⟨hG, hS, lv_sub hl [1, 2, 3, 4, 0] rfl⟩

def fX7_wagonOn_P (P : Nat → Int32) (a : Int32) : Nat → Int32 := upd (upd (upd (upd P (122 + 3 * ((P 2).toNatClampNeg)) a) ((122 + 3 * ((P 2).toNatClampNeg)) + 1) 20) ((122 + 3 * ((P 2).toNatClampNeg)) + 2) 4) 2 (((upd (upd (upd P (122 + 3 * ((P 2).toNatClampNeg)) a) ((122 + 3 * ((P 2).toNatClampNeg)) + 1) 20) ((122 + 3 * ((P 2).toNatClampNeg)) + 2) 4) 2) + 1)
set_option maxHeartbeats 4000000 in
set_option maxRecDepth 100000 in
theorem mX7_wagonOn {l : Launch} {Γ : gX} (M : Nat → Nat → Int32) (R : Nat → Nat → Option Nat) (O : Int64) {c0 b : Nat} (hc : c0 ∈ gcs Γ) (hC : gC c0 = (9, b, 0)) (hn : gLen c0 = 131) (P : Nat → Int32) (a : Int32) (hW : WS P) (h3 : (P 2).toNatClampNeg < 3) : gMet l Γ yX7_wagonOn wsX7_wagonOn 1 20 [.ref (gad Γ c0), .int a] (va_up M b P) R O none (va_up M b (fX7_wagonOn_P P a)) R O := by
  refine g_start (cc := cX7_wagonOn) (maxL := 3) (ret := none) (by decide) rfl (Nat.le_of_ble_eq_true rfl) ?_
  intro p e s m below meth c ls hx hb hml hrt hts hown hlocks hname hK hZ hG hS hl
  have hl : lv_has ls 3 [(0, .ref (gad Γ c0)), (1, .int a)] := hl
  have hown : s.vm.findClass RX7 = some m.cls := hown
  have hF : CallFix p m c cX7_wagonOn 3 s _ wsX7_wagonOn RX7 := ⟨hx, hb, hml, hown, hts⟩
  have w0 := hW.1.2
  have w1 := hW.2.1.2
  have w2 := hW.2.2.1.2
  refine lv_aload_n hx hb dX7_wagonOn_0 rfl (lv_at hl 0 rfl) ?_
  refine lv_iconst (v := 2) hx hb dX7_wagonOn_1 (by decide) ?_
  refine ga_ald hx hb hK hG hc hC hn (by decide) (j := 2) rfl (by omega) dX7_wagonOn_2 ?_
  refine g_callS (As := [.int (P 2)]) (rest := []) (st1 := [.int (nI (122 + 3 * ((P 2).toNatClampNeg)))]) hF (mX7_wagonAt _ R O ((P 2).toNatClampNeg) hW.2.2.1.1) (va_cwS 1 hts gX7_wagonOn_X7_wagonAt rfl rfl rfl (by decide +kernel) ⟨Nat.le_of_ble_eq_true rfl, Nat.le_of_ble_eq_true rfl⟩) hK hZ hG hS rfl hl.1 (Nat.le_of_ble_eq_true rfl) dX7_wagonOn_3 ⟨Nat.zero_le _, Nat.zero_le _⟩ rfl rfl (fun H locs hG hS => ?_)
  refine lv_istore_n (lv' := [(2, .int (nI (122 + 3 * ((P 2).toNatClampNeg)))), (0, .ref (gad Γ c0)), (1, .int a)]) hx hb dX7_wagonOn_6 rfl hl (by decide) rfl (fun ls hl => ?_)
  refine lv_aload_n hx hb dX7_wagonOn_7 rfl (lv_at hl 1 rfl) ?_
  refine lv_iload_n hx hb dX7_wagonOn_8 rfl (lv_at hl 0 rfl) ?_
  refine lv_iload_n hx hb dX7_wagonOn_9 rfl (lv_at hl 2 rfl) ?_
  refine ga_ast hx hb hK hG hS hc hC hn (by decide) (j := 122 + 3 * ((P 2).toNatClampNeg)) rfl (by omega) dX7_wagonOn_10 (fun H locs hG hS => ?_)
  refine lv_aload_n hx hb dX7_wagonOn_11 rfl (lv_at hl 1 rfl) ?_
  refine lv_iload_n hx hb dX7_wagonOn_12 rfl (lv_at hl 0 rfl) ?_
  refine lv_iconst (v := 1) hx hb dX7_wagonOn_13 (by decide) ?_
  refine lv_iadd hx hb dX7_wagonOn_14 ?_
  refine g_top (show _ = nI ((122 + 3 * ((P 2).toNatClampNeg)) + 1) from nI_add _ _) ?_
  refine lv_bipush (v := 20) hx hb dX7_wagonOn_15 (by decide) ?_
  refine ga_ast hx hb hK hG hS hc hC hn (by decide) (j := (122 + 3 * ((P 2).toNatClampNeg)) + 1) rfl (by omega) dX7_wagonOn_17 (fun H locs hG hS => ?_)
  refine lv_aload_n hx hb dX7_wagonOn_18 rfl (lv_at hl 1 rfl) ?_
  refine lv_iload_n hx hb dX7_wagonOn_19 rfl (lv_at hl 0 rfl) ?_
  refine lv_iconst (v := 2) hx hb dX7_wagonOn_20 (by decide) ?_
  refine lv_iadd hx hb dX7_wagonOn_21 ?_
  refine g_top (show _ = nI ((122 + 3 * ((P 2).toNatClampNeg)) + 2) from nI_add _ _) ?_
  refine lv_iconst (v := 4) hx hb dX7_wagonOn_22 (by decide) ?_
  refine ga_ast hx hb hK hG hS hc hC hn (by decide) (j := (122 + 3 * ((P 2).toNatClampNeg)) + 2) rfl (by omega) dX7_wagonOn_23 (fun H locs hG hS => ?_)
  refine lv_aload_n hx hb dX7_wagonOn_24 rfl (lv_at hl 1 rfl) ?_
  refine lv_iconst (v := 2) hx hb dX7_wagonOn_25 (by decide) ?_
  refine lv_dup2_11 hx hb dX7_wagonOn_26 rfl rfl ?_
  refine ga_ald hx hb hK hG hc hC hn (by decide) (j := 2) rfl (by omega) dX7_wagonOn_27 ?_
  refine lv_iconst (v := 1) hx hb dX7_wagonOn_28 (by decide) ?_
  refine lv_iadd hx hb dX7_wagonOn_29 ?_
  refine ga_ast hx hb hK hG hS hc hC hn (by decide) (j := 2) rfl (by omega) dX7_wagonOn_30 (fun H locs hG hS => ?_)
  exact g_vret hx hb hrt hlocks hS hG (congrArg (va_up M b) (by unfold fX7_wagonOn_P; rfl)) rfl dX7_wagonOn_31

def fX7_cp_S (Q : Nat → Int32) (fa ta : Nat) (Pk : Nat → Int32) (k : Nat) : Nat → Int32 := upd Pk (ta + k) (Q (fa + k))
def fX7_cp_L (Q : Nat → Int32) (fa ta : Nat) (P : Nat → Int32) : Nat → Nat → Int32
  | 0 => P
  | k + 1 => fX7_cp_S Q fa ta (fX7_cp_L Q fa ta P k) k
def fX7_copyPage_P (Q P : Nat → Int32) (fa ta : Nat) : Nat → Int32 := fX7_cp_L Q fa ta P 131
set_option maxHeartbeats 4000000 in
set_option maxRecDepth 100000 in
theorem mX7_copyPage {l : Launch} {Γ : gX} (M : Nat → Nat → Int32) (R : Nat → Nat → Option Nat) (O : Int64) {c0 b n0 c1 b1 n1 : Nat} (hc1 : c1 ∈ gcs Γ) (hC1 : gC c1 = (9, b1, 0)) (hn1 : gLen c1 = n1) (hc : c0 ∈ gcs Γ) (hC : gC c0 = (9, b, 0)) (hn : gLen c0 = n0) (hne : b1 ≠ b) (fa ta : Nat) {t1 t2 : Int32} (h1 : t1 = nI fa) (h2 : t2 = nI ta) (hb1 : fa + 131 ≤ n1) (hb0 : ta + 131 ≤ n0) (hs1 : n1 ≤ 10000) (hs0 : n0 ≤ 10000) (P : Nat → Int32) : gMet l Γ yX7_copyPage wsX7_copyPage 0 0 [.ref (gad Γ c1), .int t1, .ref (gad Γ c0), .int t2] (va_up M b P) R O none (va_up M b (fX7_copyPage_P (M b1) P fa ta)) R O := by
  subst h1
  subst h2
  refine g_start (cc := cX7_copyPage) (maxL := 5) (ret := none) (by decide) rfl (Nat.le_of_ble_eq_true rfl) ?_
  intro p e s m below meth c ls hx hb hml hrt hts hown hlocks hname hK hZ hG hS hl
  have hl : lv_has ls 5 [(0, .ref (gad Γ c1)), (1, .int (nI fa)), (2, .ref (gad Γ c0)), (3, .int (nI ta))] := hl
  have hown : s.vm.findClass RX7 = some m.cls := hown
  have hF : CallFix p m c cX7_copyPage 5 s _ wsX7_copyPage RX7 := ⟨hx, hb, hml, hown, hts⟩
  refine lv_iconst (v := 0) hx hb dX7_copyPage_0 (by decide) ?_
  refine lv_istore (lv' := [(4, .int 0), (0, .ref (gad Γ c1)), (1, .int (nI fa)), (2, .ref (gad Γ c0)), (3, .int (nI ta))]) hx hb dX7_copyPage_1 hl (by decide) rfl (fun ls hl => ?_)
  refine g_loop (N := 131) (fun k H locs ls => GH Γ (va_up M b (fX7_cp_L (M b1) fa ta P k)) R O H ∧ va_S (gA Γ) s.heap H locs ∧ lv_has ls 5 [(0, .ref (gad Γ c1)), (1, .int (nI fa)), (2, .ref (gad Γ c0)), (3, .int (nI ta)), (4, .int (nI k))]) ?_ ?_ 0 (Nat.zero_le _) _ _ _ ⟨hG, hS, lv_sub hl [1, 2, 3, 4, 0] rfl⟩
  · rintro H locs ls ⟨hG, hS, hl⟩
    refine lv_iload hx hb dX7_copyPage_3 (lv_at hl 4 rfl) ?_
    refine lv_sipush (v := 131) hx hb dX7_copyPage_5 (by decide) ?_
    refine lv_icmp_ge (tgt := 29) hx hb dX7_copyPage_8 (by decide) (fun c_1 => ?_) (fun c_1 => absurd (nI_le (Nat.le_refl _) (by decide)) c_1)
    exact g_vret hx hb hrt hlocks hS hG (congrArg (va_up M b) (by unfold fX7_copyPage_P; rfl)) rfl dX7_copyPage_29
  · rintro k hk_k ih_k H locs ls ⟨hG, hS, hl⟩
    refine lv_iload hx hb dX7_copyPage_3 (lv_at hl 4 rfl) ?_
    refine lv_sipush (v := 131) hx hb dX7_copyPage_5 (by decide) ?_
    refine lv_icmp_ge (tgt := 29) hx hb dX7_copyPage_8 (by decide) (fun c_2 => absurd c_2 (nI_ge hk_k (by decide))) (fun c_2 => ?_)
    refine lv_aload_n hx hb dX7_copyPage_11 rfl (lv_at hl 2 rfl) ?_
    refine lv_iload_n hx hb dX7_copyPage_12 rfl (lv_at hl 3 rfl) ?_
    refine lv_iload hx hb dX7_copyPage_13 (lv_at hl 4 rfl) ?_
    refine lv_iadd hx hb dX7_copyPage_15 ?_
    refine g_top (show _ = nI (ta + k) from nI_add _ _) ?_
    refine lv_aload_n hx hb dX7_copyPage_16 rfl (lv_at hl 0 rfl) ?_
    refine lv_iload_n hx hb dX7_copyPage_17 rfl (lv_at hl 1 rfl) ?_
    refine lv_iload hx hb dX7_copyPage_18 (lv_at hl 4 rfl) ?_
    refine lv_iadd hx hb dX7_copyPage_20 ?_
    refine g_top (show _ = nI (fa + k) from nI_add _ _) ?_
    refine ga_ald hx hb hK (g_st (va_back _ _ hne) hG) hc1 hC1 hn1 (by omega) (j := fa + k) rfl (by omega) dX7_copyPage_21 ?_
    refine ga_ast hx hb hK hG hS hc hC hn (by omega) (j := ta + k) rfl (by omega) dX7_copyPage_22 (fun H locs hG hS => ?_)
    refine lv_iinc (v := nI (k + 1)) (lv' := [(4, .int (nI (k + 1))), (0, .ref (gad Γ c1)), (1, .int (nI fa)), (2, .ref (gad Γ c0)), (3, .int (nI ta))]) hx hb dX7_copyPage_23 hl (k := 4) rfl (nI_1 _) (by decide) rfl (fun ls hl => ?_)
    refine lv_goto (tgt := 3) hx hb dX7_copyPage_26 (by decide) ?_
    exact ih_k _ _ _ ⟨hG, hS, lv_sub hl [1, 2, 3, 4, 0] rfl⟩

def fX7_cls_S  (Pk : Nat → Int32) (k : Nat) : Nat → Int32 := upd Pk ((12 + 7 * k) + 1) 3
def fX7_cls_L  (P : Nat → Int32) : Nat → Nat → Int32
  | 0 => P
  | k + 1 => fX7_cls_S  (fX7_cls_L  P k) k
def fX7_clr_S  (Pk : Nat → Int32) (k : Nat) : Nat → Int32 := upd Pk k 0
def fX7_clr_L  (P : Nat → Int32) : Nat → Nat → Int32
  | 0 => P
  | k + 1 => fX7_clr_S  (fX7_clr_L  P k) k
def fX7_clear_P (P : Nat → Int32) (n : Nat) : Nat → Int32 := fX7_cls_L  (upd (upd (upd (upd (upd (fX7_clr_L  P 131) 0 (nI n)) 5 10) 6 5) 7 50) 8 40) n
set_option maxHeartbeats 4000000 in
set_option maxRecDepth 100000 in
theorem mX7_clear {l : Launch} {Γ : gX} (M : Nat → Nat → Int32) (R : Nat → Nat → Option Nat) (O : Int64) {c0 b : Nat} (hc : c0 ∈ gcs Γ) (hC : gC c0 = (9, b, 0)) (hn : gLen c0 = 131) (P : Nat → Int32) (n : Nat) {t : Int32} (hkt : t = nI n) (hk : n ≤ 10) : gMet l Γ yX7_clear wsX7_clear 1 20 [.ref (gad Γ c0), .int t] (va_up M b P) R O none (va_up M b (fX7_clear_P P n)) R O := by
  subst hkt
  refine g_start (cc := cX7_clear) (maxL := 3) (ret := none) (by decide) rfl (Nat.le_of_ble_eq_true rfl) ?_
  intro p e s m below meth c ls hx hb hml hrt hts hown hlocks hname hK hZ hG hS hl
  have hl : lv_has ls 3 [(0, .ref (gad Γ c0)), (1, .int (nI n))] := hl
  have hown : s.vm.findClass RX7 = some m.cls := hown
  have hF : CallFix p m c cX7_clear 3 s _ wsX7_clear RX7 := ⟨hx, hb, hml, hown, hts⟩
  refine lv_iconst (v := 0) hx hb dX7_clear_0 (by decide) ?_
  refine lv_istore_n (lv' := [(2, .int 0), (0, .ref (gad Γ c0)), (1, .int (nI n))]) hx hb dX7_clear_1 rfl hl (by decide) rfl (fun ls hl => ?_)
  refine g_loop (N := 131) (fun k H locs ls => GH Γ (va_up M b (fX7_clr_L  P k)) R O H ∧ va_S (gA Γ) s.heap H locs ∧ lv_has ls 3 [(0, .ref (gad Γ c0)), (1, .int (nI n)), (2, .int (nI k))]) ?_ ?_ 0 (Nat.zero_le _) _ _ _ ⟨hG, hS, lv_sub hl [1, 2, 0] rfl⟩
  · rintro H locs ls ⟨hG, hS, hl⟩
    refine lv_iload_n hx hb dX7_clear_2 rfl (lv_at hl 2 rfl) ?_
    refine lv_sipush (v := 131) hx hb dX7_clear_3 (by decide) ?_
    refine lv_icmp_ge (tgt := 19) hx hb dX7_clear_6 (by decide) (fun c_1 => ?_) (fun c_1 => absurd (nI_le (Nat.le_refl _) (by decide)) c_1)
    refine lv_aload_n hx hb dX7_clear_19 rfl (lv_at hl 0 rfl) ?_
    refine lv_iconst (v := 0) hx hb dX7_clear_20 (by decide) ?_
    refine lv_iload_n hx hb dX7_clear_21 rfl (lv_at hl 1 rfl) ?_
    refine ga_ast hx hb hK hG hS hc hC hn (by decide) (j := 0) rfl (by omega) dX7_clear_22 (fun H locs hG hS => ?_)
    refine lv_aload_n hx hb dX7_clear_23 rfl (lv_at hl 0 rfl) ?_
    refine lv_iconst (v := 5) hx hb dX7_clear_24 (by decide) ?_
    refine lv_bipush (v := 10) hx hb dX7_clear_25 (by decide) ?_
    refine ga_ast hx hb hK hG hS hc hC hn (by decide) (j := 5) rfl (by omega) dX7_clear_27 (fun H locs hG hS => ?_)
    refine lv_aload_n hx hb dX7_clear_28 rfl (lv_at hl 0 rfl) ?_
    refine lv_bipush (v := 6) hx hb dX7_clear_29 (by decide) ?_
    refine lv_iconst (v := 5) hx hb dX7_clear_31 (by decide) ?_
    refine ga_ast hx hb hK hG hS hc hC hn (by decide) (j := 6) rfl (by omega) dX7_clear_32 (fun H locs hG hS => ?_)
    refine lv_aload_n hx hb dX7_clear_33 rfl (lv_at hl 0 rfl) ?_
    refine lv_bipush (v := 7) hx hb dX7_clear_34 (by decide) ?_
    refine lv_bipush (v := 50) hx hb dX7_clear_36 (by decide) ?_
    refine ga_ast hx hb hK hG hS hc hC hn (by decide) (j := 7) rfl (by omega) dX7_clear_38 (fun H locs hG hS => ?_)
    refine lv_aload_n hx hb dX7_clear_39 rfl (lv_at hl 0 rfl) ?_
    refine lv_bipush (v := 8) hx hb dX7_clear_40 (by decide) ?_
    refine lv_bipush (v := 40) hx hb dX7_clear_42 (by decide) ?_
    refine ga_ast hx hb hK hG hS hc hC hn (by decide) (j := 8) rfl (by omega) dX7_clear_44 (fun H locs hG hS => ?_)
    refine lv_iconst (v := 0) hx hb dX7_clear_45 (by decide) ?_
    refine lv_istore_n (lv' := [(2, .int 0), (0, .ref (gad Γ c0)), (1, .int (nI n))]) hx hb dX7_clear_46 rfl hl (by decide) rfl (fun ls hl => ?_)
    refine g_loop (N := n) (fun k H locs ls => GH Γ (va_up M b (fX7_cls_L  (upd (upd (upd (upd (upd (fX7_clr_L  P 131) 0 (nI n)) 5 10) 6 5) 7 50) 8 40) k)) R O H ∧ va_S (gA Γ) s.heap H locs ∧ lv_has ls 3 [(0, .ref (gad Γ c0)), (1, .int (nI n)), (2, .int (nI k))]) ?_ ?_ 0 (Nat.zero_le _) _ _ _ ⟨hG, hS, lv_sub hl [1, 2, 0] rfl⟩
    · rintro H locs ls ⟨hG, hS, hl⟩
      refine lv_iload_n hx hb dX7_clear_47 rfl (lv_at hl 2 rfl) ?_
      refine lv_iload_n hx hb dX7_clear_48 rfl (lv_at hl 1 rfl) ?_
      refine lv_icmp_ge (tgt := 67) hx hb dX7_clear_49 (by decide) (fun c_2 => ?_) (fun c_2 => absurd (nI_le (Nat.le_refl _) (by omega)) c_2)
      exact g_vret hx hb hrt hlocks hS hG (congrArg (va_up M b) (by unfold fX7_clear_P; rfl)) rfl dX7_clear_67
    · rintro k hk_k ih_k H locs ls ⟨hG, hS, hl⟩
      refine lv_iload_n hx hb dX7_clear_47 rfl (lv_at hl 2 rfl) ?_
      refine lv_iload_n hx hb dX7_clear_48 rfl (lv_at hl 1 rfl) ?_
      refine lv_icmp_ge (tgt := 67) hx hb dX7_clear_49 (by decide) (fun c_3 => absurd c_3 (nI_ge hk_k (by omega))) (fun c_3 => ?_)
      refine lv_aload_n hx hb dX7_clear_52 rfl (lv_at hl 0 rfl) ?_
      refine lv_iload_n hx hb dX7_clear_53 rfl (lv_at hl 2 rfl) ?_
      refine g_callS (As := [.int (nI k)]) (rest := [.ref (gad Γ c0)]) (st1 := [.int (nI (12 + 7 * k)), .ref (gad Γ c0)]) hF (mX7_segmentAt _ R O k rfl) (va_cwS 1 hts gX7_clear_X7_segmentAt rfl rfl rfl (by decide +kernel) ⟨Nat.le_of_ble_eq_true rfl, Nat.le_of_ble_eq_true rfl⟩) hK hZ hG hS rfl hl.1 (Nat.le_of_ble_eq_true rfl) dX7_clear_54 ⟨Nat.zero_le _, Nat.zero_le _⟩ rfl rfl (fun H locs hG hS => ?_)
      refine lv_iconst (v := 1) hx hb dX7_clear_57 (by decide) ?_
      refine lv_iadd hx hb dX7_clear_58 ?_
      refine g_top (show _ = nI ((12 + 7 * k) + 1) from nI_add _ _) ?_
      refine lv_iconst (v := 3) hx hb dX7_clear_59 (by decide) ?_
      refine ga_ast hx hb hK hG hS hc hC hn (by decide) (j := (12 + 7 * k) + 1) rfl (by omega) dX7_clear_60 (fun H locs hG hS => ?_)
      refine lv_iinc (v := nI (k + 1)) (lv' := [(2, .int (nI (k + 1))), (0, .ref (gad Γ c0)), (1, .int (nI n))]) hx hb dX7_clear_61 hl (k := 2) rfl (nI_1 _) (by decide) rfl (fun ls hl => ?_)
      refine lv_goto (tgt := 47) hx hb dX7_clear_64 (by decide) ?_
      exact ih_k _ _ _ ⟨hG, hS, lv_sub hl [1, 2, 0] rfl⟩
  · rintro k hk_k ih_k H locs ls ⟨hG, hS, hl⟩
    refine lv_iload_n hx hb dX7_clear_2 rfl (lv_at hl 2 rfl) ?_
    refine lv_sipush (v := 131) hx hb dX7_clear_3 (by decide) ?_
    refine lv_icmp_ge (tgt := 19) hx hb dX7_clear_6 (by decide) (fun c_4 => absurd c_4 (nI_ge hk_k (by decide))) (fun c_4 => ?_)
    refine lv_aload_n hx hb dX7_clear_9 rfl (lv_at hl 0 rfl) ?_
    refine lv_iload_n hx hb dX7_clear_10 rfl (lv_at hl 2 rfl) ?_
    refine lv_iconst (v := 0) hx hb dX7_clear_11 (by decide) ?_
    refine ga_ast hx hb hK hG hS hc hC hn (by decide) (j := k) rfl (by omega) dX7_clear_12 (fun H locs hG hS => ?_)
    refine lv_iinc (v := nI (k + 1)) (lv' := [(2, .int (nI (k + 1))), (0, .ref (gad Γ c0)), (1, .int (nI n))]) hx hb dX7_clear_13 hl (k := 2) rfl (nI_1 _) (by decide) rfl (fun ls hl => ?_)
    refine lv_goto (tgt := 2) hx hb dX7_clear_16 (by decide) ?_
    exact ih_k _ _ _ ⟨hG, hS, lv_sub hl [1, 2, 0] rfl⟩

def fX7_isSetting_v (a b : Int32) : Int32 := if a = 5 then fX7_in_v b.toInt64 0 20 else if a = 6 then fX7_in_v b.toInt64 0 9 else if a = 7 then fX7_in_v b.toInt64 1 200 else if a = 8 then fX7_in_v b.toInt64 0 99 else 0
set_option maxHeartbeats 4000000 in
set_option maxRecDepth 100000 in
theorem mX7_isSetting {l : Launch} {Γ : gX} (M : Nat → Nat → Int32) (R : Nat → Nat → Option Nat) (O : Int64) (a b : Int32) : gMet l Γ yX7_isSetting wsX7_isSetting 1 25 [.int a, .int b] M R O (some (.int (fX7_isSetting_v a b))) M R O := by
  refine g_start (cc := cX7_isSetting) (maxL := 2) (ret := (some .boolean)) (by decide) rfl (Nat.le_of_ble_eq_true rfl) ?_
  intro p e s m below meth c ls hx hb hml hrt hts hown hlocks hname hK hZ hG hS hl
  have hl : lv_has ls 2 [(0, .int a), (1, .int b)] := hl
  have hown : s.vm.findClass RX7 = some m.cls := hown
  have hF : CallFix p m c cX7_isSetting 2 s _ wsX7_isSetting RX7 := ⟨hx, hb, hml, hown, hts⟩
  have k_1 : (Cond.constantLong RX7 165 (20)).before _ s = true := hts _ (by decide +kernel)
  have k_2 : (Cond.constantLong RX7 102 (9)).before _ s = true := hts _ (by decide +kernel)
  have k_3 : (Cond.constantLong RX7 167 (200)).before _ s = true := hts _ (by decide +kernel)
  have k_4 : (Cond.constantLong RX7 169 (99)).before _ s = true := hts _ (by decide +kernel)
  refine lv_iload_n hx hb dX7_isSetting_0 rfl (lv_at hl 0 rfl) ?_
  by_cases c_1 : a = 5
  · --5
    refine lv_tableIn (tgt := 32) hx hb dX7_isSetting_1 (by rw [c_1]; decide) (by rw [c_1]; decide) (by rw [c_1]; rfl) (by decide) ?_
    refine lv_iload_n hx hb dX7_isSetting_32 rfl (lv_at hl 1 rfl) ?_
    refine lv_i2l hx hb dX7_isSetting_33 rfl ?_
    refine lv_lconst (v := 0) hx hb dX7_isSetting_34 (by decide) ?_
    refine lv_ldc2 hx hb hown k_1 dX7_isSetting_35 ?_
    refine g_callS (As := [.long b.toInt64, .long 0, .long 20]) (rest := []) (st1 := [.int (fX7_in_v b.toInt64 0 20)]) hF (mX7_in _ R O b.toInt64 0 20) (va_cwS 3 hts gX7_isSetting_X7_in rfl rfl rfl (by decide +kernel) ⟨Nat.le_of_ble_eq_true rfl, Nat.le_of_ble_eq_true rfl⟩) hK hZ hG hS rfl hl.1 (Nat.le_of_ble_eq_true rfl) dX7_isSetting_38 ⟨Nat.zero_le _, Nat.zero_le _⟩ rfl rfl (fun H locs hG hS => ?_)
    exact g_zret hx hb hrt hlocks hS hG (by unfold fX7_in_v; (repeat' split) <;> decide) (by unfold fX7_isSetting_v; rw [if_pos c_1]) rfl dX7_isSetting_41
  · --not 5
    by_cases c_2 : a = 6
    · --6
      refine lv_tableIn (tgt := 42) hx hb dX7_isSetting_1 (by rw [c_2]; decide) (by rw [c_2]; decide) (by rw [c_2]; rfl) (by decide) ?_
      refine lv_iload_n hx hb dX7_isSetting_42 rfl (lv_at hl 1 rfl) ?_
      refine lv_i2l hx hb dX7_isSetting_43 rfl ?_
      refine lv_lconst (v := 0) hx hb dX7_isSetting_44 (by decide) ?_
      refine lv_ldc2 hx hb hown k_2 dX7_isSetting_45 ?_
      refine g_callS (As := [.long b.toInt64, .long 0, .long 9]) (rest := []) (st1 := [.int (fX7_in_v b.toInt64 0 9)]) hF (mX7_in _ R O b.toInt64 0 9) (va_cwS 3 hts gX7_isSetting_X7_in rfl rfl rfl (by decide +kernel) ⟨Nat.le_of_ble_eq_true rfl, Nat.le_of_ble_eq_true rfl⟩) hK hZ hG hS rfl hl.1 (Nat.le_of_ble_eq_true rfl) dX7_isSetting_48 ⟨Nat.zero_le _, Nat.zero_le _⟩ rfl rfl (fun H locs hG hS => ?_)
      exact g_zret hx hb hrt hlocks hS hG (by unfold fX7_in_v; (repeat' split) <;> decide) (by unfold fX7_isSetting_v; rw [if_neg c_1, if_pos c_2]) rfl dX7_isSetting_51
    · --not 6
      by_cases c_3 : a = 7
      · --7
        refine lv_tableIn (tgt := 52) hx hb dX7_isSetting_1 (by rw [c_3]; decide) (by rw [c_3]; decide) (by rw [c_3]; rfl) (by decide) ?_
        refine lv_iload_n hx hb dX7_isSetting_52 rfl (lv_at hl 1 rfl) ?_
        refine lv_i2l hx hb dX7_isSetting_53 rfl ?_
        refine lv_lconst (v := 1) hx hb dX7_isSetting_54 (by decide) ?_
        refine lv_ldc2 hx hb hown k_3 dX7_isSetting_55 ?_
        refine g_callS (As := [.long b.toInt64, .long 1, .long 200]) (rest := []) (st1 := [.int (fX7_in_v b.toInt64 1 200)]) hF (mX7_in _ R O b.toInt64 1 200) (va_cwS 3 hts gX7_isSetting_X7_in rfl rfl rfl (by decide +kernel) ⟨Nat.le_of_ble_eq_true rfl, Nat.le_of_ble_eq_true rfl⟩) hK hZ hG hS rfl hl.1 (Nat.le_of_ble_eq_true rfl) dX7_isSetting_58 ⟨Nat.zero_le _, Nat.zero_le _⟩ rfl rfl (fun H locs hG hS => ?_)
        exact g_zret hx hb hrt hlocks hS hG (by unfold fX7_in_v; (repeat' split) <;> decide) (by unfold fX7_isSetting_v; rw [if_neg c_1, if_neg c_2, if_pos c_3]) rfl dX7_isSetting_61
      · --not 7
        by_cases c_4 : a = 8
        · --8
          refine lv_tableIn (tgt := 62) hx hb dX7_isSetting_1 (by rw [c_4]; decide) (by rw [c_4]; decide) (by rw [c_4]; rfl) (by decide) ?_
          refine lv_iload_n hx hb dX7_isSetting_62 rfl (lv_at hl 1 rfl) ?_
          refine lv_i2l hx hb dX7_isSetting_63 rfl ?_
          refine lv_lconst (v := 0) hx hb dX7_isSetting_64 (by decide) ?_
          refine lv_ldc2 hx hb hown k_4 dX7_isSetting_65 ?_
          refine g_callS (As := [.long b.toInt64, .long 0, .long 99]) (rest := []) (st1 := [.int (fX7_in_v b.toInt64 0 99)]) hF (mX7_in _ R O b.toInt64 0 99) (va_cwS 3 hts gX7_isSetting_X7_in rfl rfl rfl (by decide +kernel) ⟨Nat.le_of_ble_eq_true rfl, Nat.le_of_ble_eq_true rfl⟩) hK hZ hG hS rfl hl.1 (Nat.le_of_ble_eq_true rfl) dX7_isSetting_68 ⟨Nat.zero_le _, Nat.zero_le _⟩ rfl rfl (fun H locs hG hS => ?_)
          exact g_zret hx hb hrt hlocks hS hG (by unfold fX7_in_v; (repeat' split) <;> decide) (by unfold fX7_isSetting_v; rw [if_neg c_1, if_neg c_2, if_neg c_3, if_pos c_4]) rfl dX7_isSetting_71
        · --not 8
          have z_5 := lv_neT (a := 5) c_1 (by decide)
          have z_6 := lv_neT (a := 6) c_2 (by decide)
          have z_7 := lv_neT (a := 7) c_3 (by decide)
          have z_8 := lv_neT (a := 8) c_4 (by decide)
          refine lv_tableOut (tgt := 72) hx hb dX7_isSetting_1 (by omega) (by decide) ?_
          refine lv_iconst (v := 0) hx hb dX7_isSetting_72 (by decide) ?_
          exact g_zret hx hb hrt hlocks hS hG (by decide) (by unfold fX7_isSetting_v; rw [if_neg c_1, if_neg c_2, if_neg c_3, if_neg c_4]) rfl dX7_isSetting_73

