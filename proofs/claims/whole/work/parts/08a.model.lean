/-! THE REFERENCE: numbers, places, parts 1 and 2 of an hour. Laid by gen/p08.py. -/
def fX7_in_v (a b d : Int64) : Int32 := if a < b then 0 else if d < a then 0 else 1
set_option maxHeartbeats 4000000 in
set_option maxRecDepth 100000 in
theorem mX7_in {l : Launch} {Γ : gX} (M : Nat → Nat → Int32) (R : Nat → Nat → Option Nat) (O : Int64) (a b d : Int64) : gMet l Γ yX7_in wsX7_in 0 0 [.long a, .long b, .long d] M R O (some (.int (fX7_in_v a b d))) M R O := by
  refine g_start (cc := cX7_in) (maxL := 6) (ret := (some .boolean)) (by decide) rfl (Nat.le_of_ble_eq_true rfl) ?_
  intro p e s m below meth c ls hx hb hml hrt hts hown hlocks hname hK hZ hG hS hl
  have hl : lv_has ls 6 [(0, .long a), (2, .long b), (4, .long d)] := hl
  have hown : s.vm.findClass RX7 = some m.cls := hown
  have hF : CallFix p m c cX7_in 6 s _ wsX7_in RX7 := ⟨hx, hb, hml, hown, hts⟩
  refine lv_lload_n hx hb dX7_in_0 rfl (lv_at hl 0 rfl) ?_
  refine lv_lload_n hx hb dX7_in_1 rfl (lv_at hl 1 rfl) ?_
  refine W.lcmp hx hb dX7_in_2 ?_
  refine gl_lt (tgt := 17) hx hb dX7_in_3 (by decide) (fun c_1 => ?_) (fun c_1 => ?_)
  · --T
    refine lv_iconst (v := 0) hx hb dX7_in_17 (by decide) ?_
    exact g_zret hx hb hrt hlocks hS hG (by decide) (by unfold fX7_in_v; rw [if_pos c_1]) rfl dX7_in_18
  · --F
    refine lv_lload_n hx hb dX7_in_6 rfl (lv_at hl 0 rfl) ?_
    refine lv_lload hx hb dX7_in_7 (lv_at hl 2 rfl) ?_
    refine W.lcmp hx hb dX7_in_9 ?_
    refine gl_gt (tgt := 17) hx hb dX7_in_10 (by decide) (fun c_2 => ?_) (fun c_2 => ?_)
    · --T
      refine lv_iconst (v := 0) hx hb dX7_in_17 (by decide) ?_
      exact g_zret hx hb hrt hlocks hS hG (by decide) (by unfold fX7_in_v; rw [if_neg c_1, if_pos c_2]) rfl dX7_in_18
    · --F
      refine lv_iconst (v := 1) hx hb dX7_in_13 (by decide) ?_
      refine lv_goto (tgt := 18) hx hb dX7_in_14 (by decide) ?_
      exact g_zret hx hb hrt hlocks hS hG (by decide) (by unfold fX7_in_v; rw [if_neg c_1, if_neg c_2]) rfl dX7_in_18

def fX7_less_v (a b : Int32) : Int32 := if b ≤ a then b else a
set_option maxHeartbeats 4000000 in
set_option maxRecDepth 100000 in
theorem mX7_less {l : Launch} {Γ : gX} (M : Nat → Nat → Int32) (R : Nat → Nat → Option Nat) (O : Int64) (a b : Int32) : gMet l Γ yX7_less wsX7_less 0 0 [.int a, .int b] M R O (some (.int (fX7_less_v a b))) M R O := by
  refine g_start (cc := cX7_less) (maxL := 2) (ret := (some .int)) (by decide) rfl (Nat.le_of_ble_eq_true rfl) ?_
  intro p e s m below meth c ls hx hb hml hrt hts hown hlocks hname hK hZ hG hS hl
  have hl : lv_has ls 2 [(0, .int a), (1, .int b)] := hl
  have hown : s.vm.findClass RX7 = some m.cls := hown
  have hF : CallFix p m c cX7_less 2 s _ wsX7_less RX7 := ⟨hx, hb, hml, hown, hts⟩
  refine lv_iload_n hx hb dX7_less_0 rfl (lv_at hl 0 rfl) ?_
  refine lv_iload_n hx hb dX7_less_1 rfl (lv_at hl 1 rfl) ?_
  refine lv_icmp_ge (tgt := 9) hx hb dX7_less_2 (by decide) (fun c_1 => ?_) (fun c_1 => ?_)
  · --T
    refine lv_iload_n hx hb dX7_less_9 rfl (lv_at hl 1 rfl) ?_
    exact g_iret hx hb hrt hlocks hS hG (by unfold fX7_less_v; rw [if_pos c_1]) rfl dX7_less_10
  · --F
    refine lv_iload_n hx hb dX7_less_5 rfl (lv_at hl 0 rfl) ?_
    refine lv_goto (tgt := 10) hx hb dX7_less_6 (by decide) ?_
    exact g_iret hx hb hrt hlocks hS hG (by unfold fX7_less_v; rw [if_neg c_1]) rfl dX7_less_10

def fX7_more_v (a b : Int32) : Int32 := if a ≤ b then b else a
set_option maxHeartbeats 4000000 in
set_option maxRecDepth 100000 in
theorem mX7_more {l : Launch} {Γ : gX} (M : Nat → Nat → Int32) (R : Nat → Nat → Option Nat) (O : Int64) (a b : Int32) : gMet l Γ yX7_more wsX7_more 0 0 [.int a, .int b] M R O (some (.int (fX7_more_v a b))) M R O := by
  refine g_start (cc := cX7_more) (maxL := 2) (ret := (some .int)) (by decide) rfl (Nat.le_of_ble_eq_true rfl) ?_
  intro p e s m below meth c ls hx hb hml hrt hts hown hlocks hname hK hZ hG hS hl
  have hl : lv_has ls 2 [(0, .int a), (1, .int b)] := hl
  have hown : s.vm.findClass RX7 = some m.cls := hown
  have hF : CallFix p m c cX7_more 2 s _ wsX7_more RX7 := ⟨hx, hb, hml, hown, hts⟩
  refine lv_iload_n hx hb dX7_more_0 rfl (lv_at hl 0 rfl) ?_
  refine lv_iload_n hx hb dX7_more_1 rfl (lv_at hl 1 rfl) ?_
  refine lv_icmp_le (tgt := 9) hx hb dX7_more_2 (by decide) (fun c_1 => ?_) (fun c_1 => ?_)
  · --T
    refine lv_iload_n hx hb dX7_more_9 rfl (lv_at hl 1 rfl) ?_
    exact g_iret hx hb hrt hlocks hS hG (by unfold fX7_more_v; rw [if_pos c_1]) rfl dX7_more_10
  · --F
    refine lv_iload_n hx hb dX7_more_5 rfl (lv_at hl 0 rfl) ?_
    refine lv_goto (tgt := 10) hx hb dX7_more_6 (by decide) ?_
    exact g_iret hx hb hrt hlocks hS hG (by unfold fX7_more_v; rw [if_neg c_1]) rfl dX7_more_10

set_option maxHeartbeats 4000000 in
set_option maxRecDepth 100000 in
theorem mX7_segmentAt {l : Launch} {Γ : gX} (M : Nat → Nat → Int32) (R : Nat → Nat → Option Nat) (O : Int64) (k : Nat) {t : Int32} (ht : t = nI k) : gMet l Γ yX7_segmentAt wsX7_segmentAt 0 0 [.int t] M R O (some (.int (nI (12 + 7 * k)))) M R O := by
  subst ht
  refine g_start (cc := cX7_segmentAt) (maxL := 1) (ret := (some .int)) (by decide) rfl (Nat.le_of_ble_eq_true rfl) ?_
  intro p e s m below meth c ls hx hb hml hrt hts hown hlocks hname hK hZ hG hS hl
  have hl : lv_has ls 1 [(0, .int (nI k))] := hl
  have hown : s.vm.findClass RX7 = some m.cls := hown
  have hF : CallFix p m c cX7_segmentAt 1 s _ wsX7_segmentAt RX7 := ⟨hx, hb, hml, hown, hts⟩
  refine lv_bipush (v := 12) hx hb dX7_segmentAt_0 (by decide) ?_
  refine lv_bipush (v := 7) hx hb dX7_segmentAt_2 (by decide) ?_
  refine lv_iload_n hx hb dX7_segmentAt_4 rfl (lv_at hl 0 rfl) ?_
  refine lv_imul hx hb dX7_segmentAt_5 ?_
  refine g_top (show _ = nI (7 * k) from pk_mul _ _) ?_
  refine lv_iadd hx hb dX7_segmentAt_6 ?_
  refine g_top (show _ = nI (12 + (7 * k)) from nI_add _ _) ?_
  exact g_iret hx hb hrt hlocks hS hG rfl rfl dX7_segmentAt_7

set_option maxHeartbeats 4000000 in
set_option maxRecDepth 100000 in
theorem mX7_houseAt {l : Launch} {Γ : gX} (M : Nat → Nat → Int32) (R : Nat → Nat → Option Nat) (O : Int64) (k : Nat) {t : Int32} (ht : t = nI k) : gMet l Γ yX7_houseAt wsX7_houseAt 0 0 [.int t] M R O (some (.int (nI (82 + 5 * k)))) M R O := by
  subst ht
  refine g_start (cc := cX7_houseAt) (maxL := 1) (ret := (some .int)) (by decide) rfl (Nat.le_of_ble_eq_true rfl) ?_
  intro p e s m below meth c ls hx hb hml hrt hts hown hlocks hname hK hZ hG hS hl
  have hl : lv_has ls 1 [(0, .int (nI k))] := hl
  have hown : s.vm.findClass RX7 = some m.cls := hown
  have hF : CallFix p m c cX7_houseAt 1 s _ wsX7_houseAt RX7 := ⟨hx, hb, hml, hown, hts⟩
  refine lv_bipush (v := 82) hx hb dX7_houseAt_0 (by decide) ?_
  refine lv_iconst (v := 5) hx hb dX7_houseAt_2 (by decide) ?_
  refine lv_iload_n hx hb dX7_houseAt_3 rfl (lv_at hl 0 rfl) ?_
  refine lv_imul hx hb dX7_houseAt_4 ?_
  refine g_top (show _ = nI (5 * k) from pk_mul _ _) ?_
  refine lv_iadd hx hb dX7_houseAt_5 ?_
  refine g_top (show _ = nI (82 + (5 * k)) from nI_add _ _) ?_
  exact g_iret hx hb hrt hlocks hS hG rfl rfl dX7_houseAt_6

set_option maxHeartbeats 4000000 in
set_option maxRecDepth 100000 in
theorem mX7_wagonAt {l : Launch} {Γ : gX} (M : Nat → Nat → Int32) (R : Nat → Nat → Option Nat) (O : Int64) (k : Nat) {t : Int32} (ht : t = nI k) : gMet l Γ yX7_wagonAt wsX7_wagonAt 0 0 [.int t] M R O (some (.int (nI (122 + 3 * k)))) M R O := by
  subst ht
  refine g_start (cc := cX7_wagonAt) (maxL := 1) (ret := (some .int)) (by decide) rfl (Nat.le_of_ble_eq_true rfl) ?_
  intro p e s m below meth c ls hx hb hml hrt hts hown hlocks hname hK hZ hG hS hl
  have hl : lv_has ls 1 [(0, .int (nI k))] := hl
  have hown : s.vm.findClass RX7 = some m.cls := hown
  have hF : CallFix p m c cX7_wagonAt 1 s _ wsX7_wagonAt RX7 := ⟨hx, hb, hml, hown, hts⟩
  refine lv_bipush (v := 122) hx hb dX7_wagonAt_0 (by decide) ?_
  refine lv_iconst (v := 3) hx hb dX7_wagonAt_2 (by decide) ?_
  refine lv_iload_n hx hb dX7_wagonAt_3 rfl (lv_at hl 0 rfl) ?_
  refine lv_imul hx hb dX7_wagonAt_4 ?_
  refine g_top (show _ = nI (3 * k) from pk_mul _ _) ?_
  refine lv_iadd hx hb dX7_wagonAt_5 ?_
  refine g_top (show _ = nI (122 + (3 * k)) from nI_add _ _) ?_
  exact g_iret hx hb hrt hlocks hS hG rfl rfl dX7_wagonAt_6

def fX7_isSegment_v (P : Nat → Int32) (a : Int32) : Int32 := fX7_in_v a.toInt64 0 (((P 0) - 1).toInt64)
set_option maxHeartbeats 4000000 in
set_option maxRecDepth 100000 in
theorem mX7_isSegment {l : Launch} {Γ : gX} (M : Nat → Nat → Int32) (R : Nat → Nat → Option Nat) (O : Int64) {c0 b : Nat} (hc : c0 ∈ gcs Γ) (hC : gC c0 = (9, b, 0)) (hn : gLen c0 = 131) (P : Nat → Int32) (a : Int32) : gMet l Γ yX7_isSegment wsX7_isSegment 1 25 [.ref (gad Γ c0), .int a] (va_up M b P) R O (some (.int (fX7_isSegment_v P a))) (va_up M b P) R O := by
  refine g_start (cc := cX7_isSegment) (maxL := 2) (ret := (some .boolean)) (by decide) rfl (Nat.le_of_ble_eq_true rfl) ?_
  intro p e s m below meth c ls hx hb hml hrt hts hown hlocks hname hK hZ hG hS hl
  have hl : lv_has ls 2 [(0, .ref (gad Γ c0)), (1, .int a)] := hl
  have hown : s.vm.findClass RX7 = some m.cls := hown
  have hF : CallFix p m c cX7_isSegment 2 s _ wsX7_isSegment RX7 := ⟨hx, hb, hml, hown, hts⟩
  refine lv_iload_n hx hb dX7_isSegment_0 rfl (lv_at hl 1 rfl) ?_
  refine lv_i2l hx hb dX7_isSegment_1 rfl ?_
  refine lv_lconst (v := 0) hx hb dX7_isSegment_2 (by decide) ?_
  refine lv_aload_n hx hb dX7_isSegment_3 rfl (lv_at hl 0 rfl) ?_
  refine lv_iconst (v := 0) hx hb dX7_isSegment_4 (by decide) ?_
  refine ga_ald hx hb hK hG hc hC hn (by decide) (j := 0) rfl (by omega) dX7_isSegment_5 ?_
  refine lv_iconst (v := 1) hx hb dX7_isSegment_6 (by decide) ?_
  refine lv_isub hx hb dX7_isSegment_7 ?_
  refine lv_i2l hx hb dX7_isSegment_8 rfl ?_
  refine g_callS (As := [.long a.toInt64, .long 0, .long (((P 0) - 1).toInt64)]) (rest := []) (st1 := [.int (fX7_in_v a.toInt64 0 (((P 0) - 1).toInt64))]) hF (mX7_in _ R O a.toInt64 0 (((P 0) - 1).toInt64)) (va_cwS 3 hts gX7_isSegment_X7_in rfl rfl rfl (by decide +kernel) ⟨Nat.le_of_ble_eq_true rfl, Nat.le_of_ble_eq_true rfl⟩) hK hZ hG hS rfl hl.1 (Nat.le_of_ble_eq_true rfl) dX7_isSegment_9 ⟨Nat.zero_le _, Nat.zero_le _⟩ rfl rfl (fun H locs hG hS => ?_)
  exact g_zret hx hb hrt hlocks hS hG (by unfold fX7_in_v; (repeat' split) <;> decide) (by unfold fX7_isSegment_v; rfl) rfl dX7_isSegment_12

def fX7_isHouse_v (P : Nat → Int32) (a : Int32) : Int32 := fX7_in_v a.toInt64 0 (((P 1) - 1).toInt64)
set_option maxHeartbeats 4000000 in
set_option maxRecDepth 100000 in
theorem mX7_isHouse {l : Launch} {Γ : gX} (M : Nat → Nat → Int32) (R : Nat → Nat → Option Nat) (O : Int64) {c0 b : Nat} (hc : c0 ∈ gcs Γ) (hC : gC c0 = (9, b, 0)) (hn : gLen c0 = 131) (P : Nat → Int32) (a : Int32) : gMet l Γ yX7_isHouse wsX7_isHouse 1 25 [.ref (gad Γ c0), .int a] (va_up M b P) R O (some (.int (fX7_isHouse_v P a))) (va_up M b P) R O := by
  refine g_start (cc := cX7_isHouse) (maxL := 2) (ret := (some .boolean)) (by decide) rfl (Nat.le_of_ble_eq_true rfl) ?_
  intro p e s m below meth c ls hx hb hml hrt hts hown hlocks hname hK hZ hG hS hl
  have hl : lv_has ls 2 [(0, .ref (gad Γ c0)), (1, .int a)] := hl
  have hown : s.vm.findClass RX7 = some m.cls := hown
  have hF : CallFix p m c cX7_isHouse 2 s _ wsX7_isHouse RX7 := ⟨hx, hb, hml, hown, hts⟩
  refine lv_iload_n hx hb dX7_isHouse_0 rfl (lv_at hl 1 rfl) ?_
  refine lv_i2l hx hb dX7_isHouse_1 rfl ?_
  refine lv_lconst (v := 0) hx hb dX7_isHouse_2 (by decide) ?_
  refine lv_aload_n hx hb dX7_isHouse_3 rfl (lv_at hl 0 rfl) ?_
  refine lv_iconst (v := 1) hx hb dX7_isHouse_4 (by decide) ?_
  refine ga_ald hx hb hK hG hc hC hn (by decide) (j := 1) rfl (by omega) dX7_isHouse_5 ?_
  refine lv_iconst (v := 1) hx hb dX7_isHouse_6 (by decide) ?_
  refine lv_isub hx hb dX7_isHouse_7 ?_
  refine lv_i2l hx hb dX7_isHouse_8 rfl ?_
  refine g_callS (As := [.long a.toInt64, .long 0, .long (((P 1) - 1).toInt64)]) (rest := []) (st1 := [.int (fX7_in_v a.toInt64 0 (((P 1) - 1).toInt64))]) hF (mX7_in _ R O a.toInt64 0 (((P 1) - 1).toInt64)) (va_cwS 3 hts gX7_isHouse_X7_in rfl rfl rfl (by decide +kernel) ⟨Nat.le_of_ble_eq_true rfl, Nat.le_of_ble_eq_true rfl⟩) hK hZ hG hS rfl hl.1 (Nat.le_of_ble_eq_true rfl) dX7_isHouse_9 ⟨Nat.zero_le _, Nat.zero_le _⟩ rfl rfl (fun H locs hG hS => ?_)
  exact g_zret hx hb hrt hlocks hS hG (by unfold fX7_in_v; (repeat' split) <;> decide) (by unfold fX7_isHouse_v; rfl) rfl dX7_isHouse_12

def fX7_isWagon_v (P : Nat → Int32) (a : Int32) : Int32 := fX7_in_v a.toInt64 0 (((P 2) - 1).toInt64)
set_option maxHeartbeats 4000000 in
set_option maxRecDepth 100000 in
theorem mX7_isWagon {l : Launch} {Γ : gX} (M : Nat → Nat → Int32) (R : Nat → Nat → Option Nat) (O : Int64) {c0 b : Nat} (hc : c0 ∈ gcs Γ) (hC : gC c0 = (9, b, 0)) (hn : gLen c0 = 131) (P : Nat → Int32) (a : Int32) : gMet l Γ yX7_isWagon wsX7_isWagon 1 25 [.ref (gad Γ c0), .int a] (va_up M b P) R O (some (.int (fX7_isWagon_v P a))) (va_up M b P) R O := by
  refine g_start (cc := cX7_isWagon) (maxL := 2) (ret := (some .boolean)) (by decide) rfl (Nat.le_of_ble_eq_true rfl) ?_
  intro p e s m below meth c ls hx hb hml hrt hts hown hlocks hname hK hZ hG hS hl
  have hl : lv_has ls 2 [(0, .ref (gad Γ c0)), (1, .int a)] := hl
  have hown : s.vm.findClass RX7 = some m.cls := hown
  have hF : CallFix p m c cX7_isWagon 2 s _ wsX7_isWagon RX7 := ⟨hx, hb, hml, hown, hts⟩
  refine lv_iload_n hx hb dX7_isWagon_0 rfl (lv_at hl 1 rfl) ?_
  refine lv_i2l hx hb dX7_isWagon_1 rfl ?_
  refine lv_lconst (v := 0) hx hb dX7_isWagon_2 (by decide) ?_
  refine lv_aload_n hx hb dX7_isWagon_3 rfl (lv_at hl 0 rfl) ?_
  refine lv_iconst (v := 2) hx hb dX7_isWagon_4 (by decide) ?_
  refine ga_ald hx hb hK hG hc hC hn (by decide) (j := 2) rfl (by omega) dX7_isWagon_5 ?_
  refine lv_iconst (v := 1) hx hb dX7_isWagon_6 (by decide) ?_
  refine lv_isub hx hb dX7_isWagon_7 ?_
  refine lv_i2l hx hb dX7_isWagon_8 rfl ?_
  refine g_callS (As := [.long a.toInt64, .long 0, .long (((P 2) - 1).toInt64)]) (rest := []) (st1 := [.int (fX7_in_v a.toInt64 0 (((P 2) - 1).toInt64))]) hF (mX7_in _ R O a.toInt64 0 (((P 2) - 1).toInt64)) (va_cwS 3 hts gX7_isWagon_X7_in rfl rfl rfl (by decide +kernel) ⟨Nat.le_of_ble_eq_true rfl, Nat.le_of_ble_eq_true rfl⟩) hK hZ hG hS rfl hl.1 (Nat.le_of_ble_eq_true rfl) dX7_isWagon_9 ⟨Nat.zero_le _, Nat.zero_le _⟩ rfl rfl (fun H locs hG hS => ?_)
  exact g_zret hx hb hrt hlocks hS hG (by unfold fX7_in_v; (repeat' split) <;> decide) (by unfold fX7_isWagon_v; rfl) rfl dX7_isWagon_12

def fX7_dry_S  (Pk : Nat → Int32) (k : Nat) : Nat → Int32 := if (Pk (12 + 7 * k)) = 0 then upd Pk ((12 + 7 * k) + 4) (fX7_more_v 0 ((Pk ((12 + 7 * k) + 4)) - ((Pk 6) / 3))) else if (Pk (12 + 7 * k)) = 1 then upd Pk ((12 + 7 * k) + 4) (fX7_more_v 0 ((Pk ((12 + 7 * k) + 4)) - ((Pk 6) / 4))) else if (Pk 5) ≤ 0 then upd Pk ((12 + 7 * k) + 4) (fX7_more_v 0 ((Pk ((12 + 7 * k) + 4)) - (((Pk 6) / 2) + 0))) else upd Pk ((12 + 7 * k) + 4) (fX7_more_v 0 ((Pk ((12 + 7 * k) + 4)) - (((Pk 6) / 2) + 1)))
def fX7_dry_L  (P : Nat → Int32) : Nat → Nat → Int32
  | 0 => P
  | k + 1 => fX7_dry_S  (fX7_dry_L  P k) k
theorem fX7_dry_S0 (P : Nat → Int32) (k j : Nat) (h : j < 12) : fX7_dry_S P k j = P j := by
  unfold fX7_dry_S
  (repeat' split) <;> (repeat rw [upd_nw _ _ (by omega)])
theorem fX7_dry_L0 (P : Nat → Int32) (j : Nat) (h : j < 12) : ∀ k, fX7_dry_L P k j = P j
  | 0 => rfl
  | k + 1 => (fX7_dry_S0 _ k j h).trans (fX7_dry_L0 P j h k)
def fX7_dry_P (P : Nat → Int32) : Nat → Int32 := fX7_dry_L  P ((P 0).toNatClampNeg)
set_option maxHeartbeats 4000000 in
set_option maxRecDepth 100000 in
theorem mX7_dry {l : Launch} {Γ : gX} (M : Nat → Nat → Int32) (R : Nat → Nat → Option Nat) (O : Int64) {c0 b : Nat} (hc : c0 ∈ gcs Γ) (hC : gC c0 = (9, b, 0)) (hn : gLen c0 = 131) (P : Nat → Int32) (h10 : (P 0).toNatClampNeg ≤ 10) : gMet l Γ yX7_dry wsX7_dry 1 21 [.ref (gad Γ c0)] (va_up M b P) R O none (va_up M b (fX7_dry_P P)) R O := by
  refine g_start (cc := cX7_dry) (maxL := 4) (ret := none) (by decide) rfl (Nat.le_of_ble_eq_true rfl) ?_
  intro p e s m below meth c ls hx hb hml hrt hts hown hlocks hname hK hZ hG hS hl
  have hl : lv_has ls 4 [(0, .ref (gad Γ c0))] := hl
  have hown : s.vm.findClass RX7 = some m.cls := hown
  have hF : CallFix p m c cX7_dry 4 s _ wsX7_dry RX7 := ⟨hx, hb, hml, hown, hts⟩
  refine lv_iconst (v := 0) hx hb dX7_dry_0 (by decide) ?_
  refine lv_istore_n (lv' := [(1, .int 0), (0, .ref (gad Γ c0))]) hx hb dX7_dry_1 rfl hl (by decide) rfl (fun ls hl => ?_)
  refine g_loop (N := (P 0).toNatClampNeg) (fun k H locs ls => GH Γ (va_up M b (fX7_dry_L  P k)) R O H ∧ va_S (gA Γ) s.heap H locs ∧ lv_has ls 4 [(0, .ref (gad Γ c0)), (1, .int (nI k))]) ?_ ?_ 0 (Nat.zero_le _) _ _ _ ⟨hG, hS, lv_sub hl [1, 0] rfl⟩
  · rintro H locs ls ⟨hG, hS, hl⟩
    refine lv_iload_n hx hb dX7_dry_2 rfl (lv_at hl 1 rfl) ?_
    refine lv_aload_n hx hb dX7_dry_3 rfl (lv_at hl 0 rfl) ?_
    refine lv_iconst (v := 0) hx hb dX7_dry_4 (by decide) ?_
    refine ga_ald hx hb hK hG hc hC hn (by decide) (j := 0) rfl (by omega) dX7_dry_5 ?_
    refine lv_icmp_ge (tgt := 86) hx hb dX7_dry_6 (by decide) (fun c_1 => ?_) (fun c_1 => absurd (by rw [fX7_dry_L0 _ 0 (by decide)]; exact cl_le _) c_1)
    exact g_vret hx hb hrt hlocks hS hG (congrArg (va_up M b) (by unfold fX7_dry_P; rfl)) rfl dX7_dry_86
  · rintro k hk_k ih_k H locs ls ⟨hG, hS, hl⟩
    refine lv_iload_n hx hb dX7_dry_2 rfl (lv_at hl 1 rfl) ?_
    refine lv_aload_n hx hb dX7_dry_3 rfl (lv_at hl 0 rfl) ?_
    refine lv_iconst (v := 0) hx hb dX7_dry_4 (by decide) ?_
    refine ga_ald hx hb hK hG hc hC hn (by decide) (j := 0) rfl (by omega) dX7_dry_5 ?_
    refine lv_icmp_ge (tgt := 86) hx hb dX7_dry_6 (by decide) (fun c_2 => absurd c_2 (by rw [fX7_dry_L0 _ 0 (by decide)]; exact cl_ge hk_k)) (fun c_2 => ?_)
    refine lv_iload_n hx hb dX7_dry_9 rfl (lv_at hl 1 rfl) ?_
    refine g_callS (As := [.int (nI k)]) (rest := []) (st1 := [.int (nI (12 + 7 * k))]) hF (mX7_segmentAt _ R O k rfl) (va_cwS 1 hts gX7_dry_X7_segmentAt rfl rfl rfl (by decide +kernel) ⟨Nat.le_of_ble_eq_true rfl, Nat.le_of_ble_eq_true rfl⟩) hK hZ hG hS rfl hl.1 (Nat.le_of_ble_eq_true rfl) dX7_dry_10 ⟨Nat.zero_le _, Nat.zero_le _⟩ rfl rfl (fun H locs hG hS => ?_)
    refine lv_istore_n (lv' := [(2, .int (nI (12 + 7 * k))), (0, .ref (gad Γ c0)), (1, .int (nI k))]) hx hb dX7_dry_13 rfl hl (by decide) rfl (fun ls hl => ?_)
    refine lv_aload_n hx hb dX7_dry_14 rfl (lv_at hl 1 rfl) ?_
    refine lv_iload_n hx hb dX7_dry_15 rfl (lv_at hl 0 rfl) ?_
    refine ga_ald hx hb hK hG hc hC hn (by decide) (j := 12 + 7 * k) rfl (by omega) dX7_dry_16 ?_
    refine lv_if_ne (tgt := 29) hx hb dX7_dry_17 (by decide) (fun c_3 => ?_) (fun c_3 => ?_)
    · --T
      refine lv_aload_n hx hb dX7_dry_29 rfl (lv_at hl 1 rfl) ?_
      refine lv_iload_n hx hb dX7_dry_30 rfl (lv_at hl 0 rfl) ?_
      refine ga_ald hx hb hK hG hc hC hn (by decide) (j := 12 + 7 * k) rfl (by omega) dX7_dry_31 ?_
      refine lv_iconst (v := 1) hx hb dX7_dry_32 (by decide) ?_
      refine lv_icmp_ne (tgt := 45) hx hb dX7_dry_33 (by decide) (fun c_4 => ?_) (fun c_4 => ?_)
      · --T
        refine lv_aload_n hx hb dX7_dry_45 rfl (lv_at hl 1 rfl) ?_
        refine lv_bipush (v := 6) hx hb dX7_dry_46 (by decide) ?_
        refine ga_ald hx hb hK hG hc hC hn (by decide) (j := 6) rfl (by omega) dX7_dry_48 ?_
        refine lv_iconst (v := 2) hx hb dX7_dry_49 (by decide) ?_
        refine lv_idiv hx hb dX7_dry_50 (by decide) ?_
        refine lv_aload_n hx hb dX7_dry_51 rfl (lv_at hl 1 rfl) ?_
        refine lv_iconst (v := 5) hx hb dX7_dry_52 (by decide) ?_
        refine ga_ald hx hb hK hG hc hC hn (by decide) (j := 5) rfl (by omega) dX7_dry_53 ?_
        refine lv_if_le (tgt := 61) hx hb dX7_dry_54 (by decide) (fun c_5 => ?_) (fun c_5 => ?_)
        · --T
          refine lv_iconst (v := 0) hx hb dX7_dry_61 (by decide) ?_
          refine lv_iadd hx hb dX7_dry_62 ?_
          refine lv_istore_n (lv' := [(3, .int ((((fX7_dry_L  P k) 6) / 2) + 0)), (2, .int (nI (12 + 7 * k))), (0, .ref (gad Γ c0)), (1, .int (nI k))]) hx hb dX7_dry_63 rfl hl (by decide) rfl (fun ls hl => ?_)
          refine lv_aload_n hx hb dX7_dry_64 rfl (lv_at hl 2 rfl) ?_
          refine lv_iload_n hx hb dX7_dry_65 rfl (lv_at hl 1 rfl) ?_
          refine lv_iconst (v := 4) hx hb dX7_dry_66 (by decide) ?_
          refine lv_iadd hx hb dX7_dry_67 ?_
          refine g_top (show _ = nI ((12 + 7 * k) + 4) from nI_add _ _) ?_
          refine lv_iconst (v := 0) hx hb dX7_dry_68 (by decide) ?_
          refine lv_aload_n hx hb dX7_dry_69 rfl (lv_at hl 2 rfl) ?_
          refine lv_iload_n hx hb dX7_dry_70 rfl (lv_at hl 1 rfl) ?_
          refine lv_iconst (v := 4) hx hb dX7_dry_71 (by decide) ?_
          refine lv_iadd hx hb dX7_dry_72 ?_
          refine g_top (show _ = nI ((12 + 7 * k) + 4) from nI_add _ _) ?_
          refine ga_ald hx hb hK hG hc hC hn (by decide) (j := (12 + 7 * k) + 4) rfl (by omega) dX7_dry_73 ?_
          refine lv_iload_n hx hb dX7_dry_74 rfl (lv_at hl 0 rfl) ?_
          refine lv_isub hx hb dX7_dry_75 ?_
          refine g_callS (As := [.int 0, .int (((fX7_dry_L  P k) ((12 + 7 * k) + 4)) - ((((fX7_dry_L  P k) 6) / 2) + 0))]) (rest := [.int (nI ((12 + 7 * k) + 4)), .ref (gad Γ c0)]) (st1 := [.int (fX7_more_v 0 (((fX7_dry_L  P k) ((12 + 7 * k) + 4)) - ((((fX7_dry_L  P k) 6) / 2) + 0))), .int (nI ((12 + 7 * k) + 4)), .ref (gad Γ c0)]) hF (mX7_more _ R O 0 (((fX7_dry_L  P k) ((12 + 7 * k) + 4)) - ((((fX7_dry_L  P k) 6) / 2) + 0))) (va_cwS 2 hts gX7_dry_X7_more rfl rfl rfl (by decide +kernel) ⟨Nat.le_of_ble_eq_true rfl, Nat.le_of_ble_eq_true rfl⟩) hK hZ hG hS rfl hl.1 (Nat.le_of_ble_eq_true rfl) dX7_dry_76 ⟨Nat.zero_le _, Nat.zero_le _⟩ rfl rfl (fun H locs hG hS => ?_)
          refine ga_ast hx hb hK hG hS hc hC hn (by decide) (j := (12 + 7 * k) + 4) rfl (by omega) dX7_dry_79 (fun H locs hG hS => ?_)
          refine lv_iinc (v := nI (k + 1)) (lv' := [(1, .int (nI (k + 1))), (3, .int ((((fX7_dry_L  P k) 6) / 2) + 0)), (2, .int (nI (12 + 7 * k))), (0, .ref (gad Γ c0))]) hx hb dX7_dry_80 hl (k := 3) rfl (nI_1 _) (by decide) rfl (fun ls hl => ?_)
          refine lv_goto (tgt := 2) hx hb dX7_dry_83 (by decide) ?_
          exact ih_k _ _ _ ⟨g_st (congrArg (va_up M b) (by show _ = fX7_dry_S  (fX7_dry_L  P k) k; unfold fX7_dry_S; rw [if_neg c_3, if_neg c_4, if_pos c_5])) hG, hS, lv_sub hl [3, 0] rfl⟩
        · --F
          refine lv_iconst (v := 1) hx hb dX7_dry_57 (by decide) ?_
          refine lv_goto (tgt := 62) hx hb dX7_dry_58 (by decide) ?_
          refine lv_iadd hx hb dX7_dry_62 ?_
          refine lv_istore_n (lv' := [(3, .int ((((fX7_dry_L  P k) 6) / 2) + 1)), (2, .int (nI (12 + 7 * k))), (0, .ref (gad Γ c0)), (1, .int (nI k))]) hx hb dX7_dry_63 rfl hl (by decide) rfl (fun ls hl => ?_)
          refine lv_aload_n hx hb dX7_dry_64 rfl (lv_at hl 2 rfl) ?_
          refine lv_iload_n hx hb dX7_dry_65 rfl (lv_at hl 1 rfl) ?_
          refine lv_iconst (v := 4) hx hb dX7_dry_66 (by decide) ?_
          refine lv_iadd hx hb dX7_dry_67 ?_
          refine g_top (show _ = nI ((12 + 7 * k) + 4) from nI_add _ _) ?_
          refine lv_iconst (v := 0) hx hb dX7_dry_68 (by decide) ?_
          refine lv_aload_n hx hb dX7_dry_69 rfl (lv_at hl 2 rfl) ?_
          refine lv_iload_n hx hb dX7_dry_70 rfl (lv_at hl 1 rfl) ?_
          refine lv_iconst (v := 4) hx hb dX7_dry_71 (by decide) ?_
          refine lv_iadd hx hb dX7_dry_72 ?_
          refine g_top (show _ = nI ((12 + 7 * k) + 4) from nI_add _ _) ?_
          refine ga_ald hx hb hK hG hc hC hn (by decide) (j := (12 + 7 * k) + 4) rfl (by omega) dX7_dry_73 ?_
          refine lv_iload_n hx hb dX7_dry_74 rfl (lv_at hl 0 rfl) ?_
          refine lv_isub hx hb dX7_dry_75 ?_
          refine g_callS (As := [.int 0, .int (((fX7_dry_L  P k) ((12 + 7 * k) + 4)) - ((((fX7_dry_L  P k) 6) / 2) + 1))]) (rest := [.int (nI ((12 + 7 * k) + 4)), .ref (gad Γ c0)]) (st1 := [.int (fX7_more_v 0 (((fX7_dry_L  P k) ((12 + 7 * k) + 4)) - ((((fX7_dry_L  P k) 6) / 2) + 1))), .int (nI ((12 + 7 * k) + 4)), .ref (gad Γ c0)]) hF (mX7_more _ R O 0 (((fX7_dry_L  P k) ((12 + 7 * k) + 4)) - ((((fX7_dry_L  P k) 6) / 2) + 1))) (va_cwS 2 hts gX7_dry_X7_more rfl rfl rfl (by decide +kernel) ⟨Nat.le_of_ble_eq_true rfl, Nat.le_of_ble_eq_true rfl⟩) hK hZ hG hS rfl hl.1 (Nat.le_of_ble_eq_true rfl) dX7_dry_76 ⟨Nat.zero_le _, Nat.zero_le _⟩ rfl rfl (fun H locs hG hS => ?_)
          refine ga_ast hx hb hK hG hS hc hC hn (by decide) (j := (12 + 7 * k) + 4) rfl (by omega) dX7_dry_79 (fun H locs hG hS => ?_)
          refine lv_iinc (v := nI (k + 1)) (lv' := [(1, .int (nI (k + 1))), (3, .int ((((fX7_dry_L  P k) 6) / 2) + 1)), (2, .int (nI (12 + 7 * k))), (0, .ref (gad Γ c0))]) hx hb dX7_dry_80 hl (k := 3) rfl (nI_1 _) (by decide) rfl (fun ls hl => ?_)
          refine lv_goto (tgt := 2) hx hb dX7_dry_83 (by decide) ?_
          exact ih_k _ _ _ ⟨g_st (congrArg (va_up M b) (by show _ = fX7_dry_S  (fX7_dry_L  P k) k; unfold fX7_dry_S; rw [if_neg c_3, if_neg c_4, if_neg c_5])) hG, hS, lv_sub hl [3, 0] rfl⟩
      · --F
        refine lv_aload_n hx hb dX7_dry_36 rfl (lv_at hl 1 rfl) ?_
        refine lv_bipush (v := 6) hx hb dX7_dry_37 (by decide) ?_
        refine ga_ald hx hb hK hG hc hC hn (by decide) (j := 6) rfl (by omega) dX7_dry_39 ?_
        refine lv_iconst (v := 4) hx hb dX7_dry_40 (by decide) ?_
        refine lv_idiv hx hb dX7_dry_41 (by decide) ?_
        refine lv_goto (tgt := 63) hx hb dX7_dry_42 (by decide) ?_
        refine lv_istore_n (lv' := [(3, .int (((fX7_dry_L  P k) 6) / 4)), (2, .int (nI (12 + 7 * k))), (0, .ref (gad Γ c0)), (1, .int (nI k))]) hx hb dX7_dry_63 rfl hl (by decide) rfl (fun ls hl => ?_)
        refine lv_aload_n hx hb dX7_dry_64 rfl (lv_at hl 2 rfl) ?_
        refine lv_iload_n hx hb dX7_dry_65 rfl (lv_at hl 1 rfl) ?_
        refine lv_iconst (v := 4) hx hb dX7_dry_66 (by decide) ?_
        refine lv_iadd hx hb dX7_dry_67 ?_
        refine g_top (show _ = nI ((12 + 7 * k) + 4) from nI_add _ _) ?_
        refine lv_iconst (v := 0) hx hb dX7_dry_68 (by decide) ?_
        refine lv_aload_n hx hb dX7_dry_69 rfl (lv_at hl 2 rfl) ?_
        refine lv_iload_n hx hb dX7_dry_70 rfl (lv_at hl 1 rfl) ?_
        refine lv_iconst (v := 4) hx hb dX7_dry_71 (by decide) ?_
        refine lv_iadd hx hb dX7_dry_72 ?_
        refine g_top (show _ = nI ((12 + 7 * k) + 4) from nI_add _ _) ?_
        refine ga_ald hx hb hK hG hc hC hn (by decide) (j := (12 + 7 * k) + 4) rfl (by omega) dX7_dry_73 ?_
        refine lv_iload_n hx hb dX7_dry_74 rfl (lv_at hl 0 rfl) ?_
        refine lv_isub hx hb dX7_dry_75 ?_
        refine g_callS (As := [.int 0, .int (((fX7_dry_L  P k) ((12 + 7 * k) + 4)) - (((fX7_dry_L  P k) 6) / 4))]) (rest := [.int (nI ((12 + 7 * k) + 4)), .ref (gad Γ c0)]) (st1 := [.int (fX7_more_v 0 (((fX7_dry_L  P k) ((12 + 7 * k) + 4)) - (((fX7_dry_L  P k) 6) / 4))), .int (nI ((12 + 7 * k) + 4)), .ref (gad Γ c0)]) hF (mX7_more _ R O 0 (((fX7_dry_L  P k) ((12 + 7 * k) + 4)) - (((fX7_dry_L  P k) 6) / 4))) (va_cwS 2 hts gX7_dry_X7_more rfl rfl rfl (by decide +kernel) ⟨Nat.le_of_ble_eq_true rfl, Nat.le_of_ble_eq_true rfl⟩) hK hZ hG hS rfl hl.1 (Nat.le_of_ble_eq_true rfl) dX7_dry_76 ⟨Nat.zero_le _, Nat.zero_le _⟩ rfl rfl (fun H locs hG hS => ?_)
        refine ga_ast hx hb hK hG hS hc hC hn (by decide) (j := (12 + 7 * k) + 4) rfl (by omega) dX7_dry_79 (fun H locs hG hS => ?_)
        refine lv_iinc (v := nI (k + 1)) (lv' := [(1, .int (nI (k + 1))), (3, .int (((fX7_dry_L  P k) 6) / 4)), (2, .int (nI (12 + 7 * k))), (0, .ref (gad Γ c0))]) hx hb dX7_dry_80 hl (k := 3) rfl (nI_1 _) (by decide) rfl (fun ls hl => ?_)
        refine lv_goto (tgt := 2) hx hb dX7_dry_83 (by decide) ?_
        exact ih_k _ _ _ ⟨g_st (congrArg (va_up M b) (by show _ = fX7_dry_S  (fX7_dry_L  P k) k; unfold fX7_dry_S; rw [if_neg c_3, if_pos c_4])) hG, hS, lv_sub hl [3, 0] rfl⟩
    · --F
      refine lv_aload_n hx hb dX7_dry_20 rfl (lv_at hl 1 rfl) ?_
      refine lv_bipush (v := 6) hx hb dX7_dry_21 (by decide) ?_
      refine ga_ald hx hb hK hG hc hC hn (by decide) (j := 6) rfl (by omega) dX7_dry_23 ?_
      refine lv_iconst (v := 3) hx hb dX7_dry_24 (by decide) ?_
      refine lv_idiv hx hb dX7_dry_25 (by decide) ?_
      refine lv_goto (tgt := 63) hx hb dX7_dry_26 (by decide) ?_
      refine lv_istore_n (lv' := [(3, .int (((fX7_dry_L  P k) 6) / 3)), (2, .int (nI (12 + 7 * k))), (0, .ref (gad Γ c0)), (1, .int (nI k))]) hx hb dX7_dry_63 rfl hl (by decide) rfl (fun ls hl => ?_)
      refine lv_aload_n hx hb dX7_dry_64 rfl (lv_at hl 2 rfl) ?_
      refine lv_iload_n hx hb dX7_dry_65 rfl (lv_at hl 1 rfl) ?_
      refine lv_iconst (v := 4) hx hb dX7_dry_66 (by decide) ?_
      refine lv_iadd hx hb dX7_dry_67 ?_
      refine g_top (show _ = nI ((12 + 7 * k) + 4) from nI_add _ _) ?_
      refine lv_iconst (v := 0) hx hb dX7_dry_68 (by decide) ?_
      refine lv_aload_n hx hb dX7_dry_69 rfl (lv_at hl 2 rfl) ?_
      refine lv_iload_n hx hb dX7_dry_70 rfl (lv_at hl 1 rfl) ?_
      refine lv_iconst (v := 4) hx hb dX7_dry_71 (by decide) ?_
      refine lv_iadd hx hb dX7_dry_72 ?_
      refine g_top (show _ = nI ((12 + 7 * k) + 4) from nI_add _ _) ?_
      refine ga_ald hx hb hK hG hc hC hn (by decide) (j := (12 + 7 * k) + 4) rfl (by omega) dX7_dry_73 ?_
      refine lv_iload_n hx hb dX7_dry_74 rfl (lv_at hl 0 rfl) ?_
      refine lv_isub hx hb dX7_dry_75 ?_
      refine g_callS (As := [.int 0, .int (((fX7_dry_L  P k) ((12 + 7 * k) + 4)) - (((fX7_dry_L  P k) 6) / 3))]) (rest := [.int (nI ((12 + 7 * k) + 4)), .ref (gad Γ c0)]) (st1 := [.int (fX7_more_v 0 (((fX7_dry_L  P k) ((12 + 7 * k) + 4)) - (((fX7_dry_L  P k) 6) / 3))), .int (nI ((12 + 7 * k) + 4)), .ref (gad Γ c0)]) hF (mX7_more _ R O 0 (((fX7_dry_L  P k) ((12 + 7 * k) + 4)) - (((fX7_dry_L  P k) 6) / 3))) (va_cwS 2 hts gX7_dry_X7_more rfl rfl rfl (by decide +kernel) ⟨Nat.le_of_ble_eq_true rfl, Nat.le_of_ble_eq_true rfl⟩) hK hZ hG hS rfl hl.1 (Nat.le_of_ble_eq_true rfl) dX7_dry_76 ⟨Nat.zero_le _, Nat.zero_le _⟩ rfl rfl (fun H locs hG hS => ?_)
      refine ga_ast hx hb hK hG hS hc hC hn (by decide) (j := (12 + 7 * k) + 4) rfl (by omega) dX7_dry_79 (fun H locs hG hS => ?_)
      refine lv_iinc (v := nI (k + 1)) (lv' := [(1, .int (nI (k + 1))), (3, .int (((fX7_dry_L  P k) 6) / 3)), (2, .int (nI (12 + 7 * k))), (0, .ref (gad Γ c0))]) hx hb dX7_dry_80 hl (k := 3) rfl (nI_1 _) (by decide) rfl (fun ls hl => ?_)
      refine lv_goto (tgt := 2) hx hb dX7_dry_83 (by decide) ?_
      exact ih_k _ _ _ ⟨g_st (congrArg (va_up M b) (by show _ = fX7_dry_S  (fX7_dry_L  P k) k; unfold fX7_dry_S; rw [if_pos c_3])) hG, hS, lv_sub hl [3, 0] rfl⟩

def fX7_raise_S  (Pk : Nat → Int32) (k : Nat) : Nat → Int32 := upd Pk ((12 + 7 * k) + 3) (fX7_less_v 999 ((Pk ((12 + 7 * k) + 3)) + (((((Pk 5) * (Pk ((12 + 7 * k) + 1))) * (3 - (Pk (12 + 7 * k)))) * (10 - (Pk ((12 + 7 * k) + 4)))) / 10)))
def fX7_raise_L  (P : Nat → Int32) : Nat → Nat → Int32
  | 0 => P
  | k + 1 => fX7_raise_S  (fX7_raise_L  P k) k
theorem fX7_raise_S0 (P : Nat → Int32) (k j : Nat) (h : j < 12) : fX7_raise_S P k j = P j := by
  unfold fX7_raise_S
  (repeat' split) <;> (repeat rw [upd_nw _ _ (by omega)])
theorem fX7_raise_L0 (P : Nat → Int32) (j : Nat) (h : j < 12) : ∀ k, fX7_raise_L P k j = P j
  | 0 => rfl
  | k + 1 => (fX7_raise_S0 _ k j h).trans (fX7_raise_L0 P j h k)
def fX7_raise_P (P : Nat → Int32) : Nat → Int32 := fX7_raise_L  P ((P 0).toNatClampNeg)
set_option maxHeartbeats 4000000 in
set_option maxRecDepth 100000 in
theorem mX7_raise {l : Launch} {Γ : gX} (M : Nat → Nat → Int32) (R : Nat → Nat → Option Nat) (O : Int64) {c0 b : Nat} (hc : c0 ∈ gcs Γ) (hC : gC c0 = (9, b, 0)) (hn : gLen c0 = 131) (P : Nat → Int32) (h10 : (P 0).toNatClampNeg ≤ 10) : gMet l Γ yX7_raise wsX7_raise 1 21 [.ref (gad Γ c0)] (va_up M b P) R O none (va_up M b (fX7_raise_P P)) R O := by
  refine g_start (cc := cX7_raise) (maxL := 4) (ret := none) (by decide) rfl (Nat.le_of_ble_eq_true rfl) ?_
  intro p e s m below meth c ls hx hb hml hrt hts hown hlocks hname hK hZ hG hS hl
  have hl : lv_has ls 4 [(0, .ref (gad Γ c0))] := hl
  have hown : s.vm.findClass RX7 = some m.cls := hown
  have hF : CallFix p m c cX7_raise 4 s _ wsX7_raise RX7 := ⟨hx, hb, hml, hown, hts⟩
  refine lv_iconst (v := 0) hx hb dX7_raise_0 (by decide) ?_
  refine lv_istore_n (lv' := [(1, .int 0), (0, .ref (gad Γ c0))]) hx hb dX7_raise_1 rfl hl (by decide) rfl (fun ls hl => ?_)
  refine g_loop (N := (P 0).toNatClampNeg) (fun k H locs ls => GH Γ (va_up M b (fX7_raise_L  P k)) R O H ∧ va_S (gA Γ) s.heap H locs ∧ lv_has ls 4 [(0, .ref (gad Γ c0)), (1, .int (nI k))]) ?_ ?_ 0 (Nat.zero_le _) _ _ _ ⟨hG, hS, lv_sub hl [1, 0] rfl⟩
  · rintro H locs ls ⟨hG, hS, hl⟩
    refine lv_iload_n hx hb dX7_raise_2 rfl (lv_at hl 1 rfl) ?_
    refine lv_aload_n hx hb dX7_raise_3 rfl (lv_at hl 0 rfl) ?_
    refine lv_iconst (v := 0) hx hb dX7_raise_4 (by decide) ?_
    refine ga_ald hx hb hK hG hc hC hn (by decide) (j := 0) rfl (by omega) dX7_raise_5 ?_
    refine lv_icmp_ge (tgt := 66) hx hb dX7_raise_6 (by decide) (fun c_1 => ?_) (fun c_1 => absurd (by rw [fX7_raise_L0 _ 0 (by decide)]; exact cl_le _) c_1)
    exact g_vret hx hb hrt hlocks hS hG (congrArg (va_up M b) (by unfold fX7_raise_P; rfl)) rfl dX7_raise_66
  · rintro k hk_k ih_k H locs ls ⟨hG, hS, hl⟩
    refine lv_iload_n hx hb dX7_raise_2 rfl (lv_at hl 1 rfl) ?_
    refine lv_aload_n hx hb dX7_raise_3 rfl (lv_at hl 0 rfl) ?_
    refine lv_iconst (v := 0) hx hb dX7_raise_4 (by decide) ?_
    refine ga_ald hx hb hK hG hc hC hn (by decide) (j := 0) rfl (by omega) dX7_raise_5 ?_
    refine lv_icmp_ge (tgt := 66) hx hb dX7_raise_6 (by decide) (fun c_2 => absurd c_2 (by rw [fX7_raise_L0 _ 0 (by decide)]; exact cl_ge hk_k)) (fun c_2 => ?_)
    refine lv_iload_n hx hb dX7_raise_9 rfl (lv_at hl 1 rfl) ?_
    refine g_callS (As := [.int (nI k)]) (rest := []) (st1 := [.int (nI (12 + 7 * k))]) hF (mX7_segmentAt _ R O k rfl) (va_cwS 1 hts gX7_raise_X7_segmentAt rfl rfl rfl (by decide +kernel) ⟨Nat.le_of_ble_eq_true rfl, Nat.le_of_ble_eq_true rfl⟩) hK hZ hG hS rfl hl.1 (Nat.le_of_ble_eq_true rfl) dX7_raise_10 ⟨Nat.zero_le _, Nat.zero_le _⟩ rfl rfl (fun H locs hG hS => ?_)
    refine lv_istore_n (lv' := [(2, .int (nI (12 + 7 * k))), (0, .ref (gad Γ c0)), (1, .int (nI k))]) hx hb dX7_raise_13 rfl hl (by decide) rfl (fun ls hl => ?_)
    refine lv_aload_n hx hb dX7_raise_14 rfl (lv_at hl 1 rfl) ?_
    refine lv_iconst (v := 5) hx hb dX7_raise_15 (by decide) ?_
    refine ga_ald hx hb hK hG hc hC hn (by decide) (j := 5) rfl (by omega) dX7_raise_16 ?_
    refine lv_aload_n hx hb dX7_raise_17 rfl (lv_at hl 1 rfl) ?_
    refine lv_iload_n hx hb dX7_raise_18 rfl (lv_at hl 0 rfl) ?_
    refine lv_iconst (v := 1) hx hb dX7_raise_19 (by decide) ?_
    refine lv_iadd hx hb dX7_raise_20 ?_
    refine g_top (show _ = nI ((12 + 7 * k) + 1) from nI_add _ _) ?_
    refine ga_ald hx hb hK hG hc hC hn (by decide) (j := (12 + 7 * k) + 1) rfl (by omega) dX7_raise_21 ?_
    refine lv_imul hx hb dX7_raise_22 ?_
    refine lv_iconst (v := 3) hx hb dX7_raise_23 (by decide) ?_
    refine lv_aload_n hx hb dX7_raise_24 rfl (lv_at hl 1 rfl) ?_
    refine lv_iload_n hx hb dX7_raise_25 rfl (lv_at hl 0 rfl) ?_
    refine ga_ald hx hb hK hG hc hC hn (by decide) (j := 12 + 7 * k) rfl (by omega) dX7_raise_26 ?_
    refine lv_isub hx hb dX7_raise_27 ?_
    refine lv_imul hx hb dX7_raise_28 ?_
    refine lv_bipush (v := 10) hx hb dX7_raise_29 (by decide) ?_
    refine lv_aload_n hx hb dX7_raise_31 rfl (lv_at hl 1 rfl) ?_
    refine lv_iload_n hx hb dX7_raise_32 rfl (lv_at hl 0 rfl) ?_
    refine lv_iconst (v := 4) hx hb dX7_raise_33 (by decide) ?_
    refine lv_iadd hx hb dX7_raise_34 ?_
    refine g_top (show _ = nI ((12 + 7 * k) + 4) from nI_add _ _) ?_
    refine ga_ald hx hb hK hG hc hC hn (by decide) (j := (12 + 7 * k) + 4) rfl (by omega) dX7_raise_35 ?_
    refine lv_isub hx hb dX7_raise_36 ?_
    refine lv_imul hx hb dX7_raise_37 ?_
    refine lv_bipush (v := 10) hx hb dX7_raise_38 (by decide) ?_
    refine lv_idiv hx hb dX7_raise_40 (by decide) ?_
    refine lv_istore_n (lv' := [(3, .int ((((((fX7_raise_L  P k) 5) * ((fX7_raise_L  P k) ((12 + 7 * k) + 1))) * (3 - ((fX7_raise_L  P k) (12 + 7 * k)))) * (10 - ((fX7_raise_L  P k) ((12 + 7 * k) + 4)))) / 10)), (2, .int (nI (12 + 7 * k))), (0, .ref (gad Γ c0)), (1, .int (nI k))]) hx hb dX7_raise_41 rfl hl (by decide) rfl (fun ls hl => ?_)
    refine lv_aload_n hx hb dX7_raise_42 rfl (lv_at hl 2 rfl) ?_
    refine lv_iload_n hx hb dX7_raise_43 rfl (lv_at hl 1 rfl) ?_
    refine lv_iconst (v := 3) hx hb dX7_raise_44 (by decide) ?_
    refine lv_iadd hx hb dX7_raise_45 ?_
    refine g_top (show _ = nI ((12 + 7 * k) + 3) from nI_add _ _) ?_
    refine lv_sipush (v := 999) hx hb dX7_raise_46 (by decide) ?_
    refine lv_aload_n hx hb dX7_raise_49 rfl (lv_at hl 2 rfl) ?_
    refine lv_iload_n hx hb dX7_raise_50 rfl (lv_at hl 1 rfl) ?_
    refine lv_iconst (v := 3) hx hb dX7_raise_51 (by decide) ?_
    refine lv_iadd hx hb dX7_raise_52 ?_
    refine g_top (show _ = nI ((12 + 7 * k) + 3) from nI_add _ _) ?_
    refine ga_ald hx hb hK hG hc hC hn (by decide) (j := (12 + 7 * k) + 3) rfl (by omega) dX7_raise_53 ?_
    refine lv_iload_n hx hb dX7_raise_54 rfl (lv_at hl 0 rfl) ?_
    refine lv_iadd hx hb dX7_raise_55 ?_
    refine g_callS (As := [.int 999, .int (((fX7_raise_L  P k) ((12 + 7 * k) + 3)) + ((((((fX7_raise_L  P k) 5) * ((fX7_raise_L  P k) ((12 + 7 * k) + 1))) * (3 - ((fX7_raise_L  P k) (12 + 7 * k)))) * (10 - ((fX7_raise_L  P k) ((12 + 7 * k) + 4)))) / 10))]) (rest := [.int (nI ((12 + 7 * k) + 3)), .ref (gad Γ c0)]) (st1 := [.int (fX7_less_v 999 (((fX7_raise_L  P k) ((12 + 7 * k) + 3)) + ((((((fX7_raise_L  P k) 5) * ((fX7_raise_L  P k) ((12 + 7 * k) + 1))) * (3 - ((fX7_raise_L  P k) (12 + 7 * k)))) * (10 - ((fX7_raise_L  P k) ((12 + 7 * k) + 4)))) / 10))), .int (nI ((12 + 7 * k) + 3)), .ref (gad Γ c0)]) hF (mX7_less _ R O 999 (((fX7_raise_L  P k) ((12 + 7 * k) + 3)) + ((((((fX7_raise_L  P k) 5) * ((fX7_raise_L  P k) ((12 + 7 * k) + 1))) * (3 - ((fX7_raise_L  P k) (12 + 7 * k)))) * (10 - ((fX7_raise_L  P k) ((12 + 7 * k) + 4)))) / 10))) (va_cwS 2 hts gX7_raise_X7_less rfl rfl rfl (by decide +kernel) ⟨Nat.le_of_ble_eq_true rfl, Nat.le_of_ble_eq_true rfl⟩) hK hZ hG hS rfl hl.1 (Nat.le_of_ble_eq_true rfl) dX7_raise_56 ⟨Nat.zero_le _, Nat.zero_le _⟩ rfl rfl (fun H locs hG hS => ?_)
    refine ga_ast hx hb hK hG hS hc hC hn (by decide) (j := (12 + 7 * k) + 3) rfl (by omega) dX7_raise_59 (fun H locs hG hS => ?_)
    refine lv_iinc (v := nI (k + 1)) (lv' := [(1, .int (nI (k + 1))), (3, .int ((((((fX7_raise_L  P k) 5) * ((fX7_raise_L  P k) ((12 + 7 * k) + 1))) * (3 - ((fX7_raise_L  P k) (12 + 7 * k)))) * (10 - ((fX7_raise_L  P k) ((12 + 7 * k) + 4)))) / 10)), (2, .int (nI (12 + 7 * k))), (0, .ref (gad Γ c0))]) hx hb dX7_raise_60 hl (k := 3) rfl (nI_1 _) (by decide) rfl (fun ls hl => ?_)
    refine lv_goto (tgt := 2) hx hb dX7_raise_63 (by decide) ?_
    exact ih_k _ _ _ ⟨hG, hS, lv_sub hl [3, 0] rfl⟩

