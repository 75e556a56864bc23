/-! THE REFERENCE: what houses get, complaints. Laid by gen/p08.py. -/
theorem w_lt (a b : Int32) : a.toInt64 < b.toInt64 ↔ a < b := by rw [Int64.lt_iff_toInt_lt, Int32.lt_iff_toInt_lt, Int32.toInt_toInt64, Int32.toInt_toInt64]
theorem in_v (a lo hi : Int32) : fX7_in_v a.toInt64 lo.toInt64 hi.toInt64 = if lo ≤ a ∧ a ≤ hi then 1 else 0 := by
  unfold fX7_in_v
  by_cases h1 : a < lo
  · rw [if_pos ((w_lt _ _).mpr h1), if_neg (fun q => i32_le_nlt q.1 h1)]
  · rw [if_neg (fun q => h1 ((w_lt _ _).mp q))]
    by_cases h2 : hi < a
    · rw [if_pos ((w_lt _ _).mpr h2), if_neg (fun q => i32_le_nlt q.2 h2)]
    · rw [if_neg (fun q => h2 ((w_lt _ _).mp q)), if_pos ⟨i32_nlt h1, i32_nlt h2⟩]
theorem isPl_v {P0 : Int32} {n : Nat} (a : Int32) (h : P0 = nI n) (hn : n < 2 ^ 31) : fX7_in_v a.toInt64 0 (P0 - 1).toInt64 = if 0 ≤ a ∧ a < P0 then 1 else 0 := by
  have h1 := in_v a 0 (P0 - 1)
  rw [show (0 : Int32).toInt64 = 0 from rfl] at h1
  rw [h1]
  subst h
  congr 1
  refine propext ⟨fun q => ⟨q.1, ?_⟩, fun q => ⟨q.1, ?_⟩⟩
  · obtain ⟨j, hj, rfl⟩ := nI_of (i32_le_nlt q.1)
    cases n with
    | zero => exact absurd q.2 (i32_lt_nle (by rw [nI_0]; exact Int32.lt_iff_toInt_lt.mpr (by rw [nI_toInt hj]; show (-1 : Int) < _; omega)))
    | succ n =>
      rw [nI_pred] at q
      exact nI_lt (by have := (nI_leI hj (by omega)).mp q.2; omega) hn
  · obtain ⟨j, hj, rfl⟩ := nI_of (i32_le_nlt q.1)
    have := (nI_ltI hj hn).mp q.2
    cases n with
    | zero => omega
    | succ n =>
      rw [nI_pred]
      exact nI_le (by omega) (by omega)
theorem isPl {P0 : Int32} {n : Nat} {a : Int32} (h : P0 = nI n) (hn : n < 2 ^ 31) (hc : ¬ fX7_in_v a.toInt64 0 (P0 - 1).toInt64 = 0) : a = nI a.toNatClampNeg ∧ a.toNatClampNeg < n := by
  rw [isPl_v a h hn] at hc
  by_cases q : 0 ≤ a ∧ a < P0
  · obtain ⟨j, hj, rfl⟩ := ix_of h hn (i32_le_nlt q.1) q.2
    rw [nI_clamp (by omega)]
    exact ⟨rfl, hj⟩
  · rw [if_neg q] at hc
    exact absurd rfl hc
def fX7_dustOf_v (P : Nat → Int32) (a : Int32) : Int32 := if (fX7_isSegment_v P a) = 0 then 0 else P ((12 + 7 * a.toNatClampNeg) + 3)
set_option maxHeartbeats 4000000 in
set_option maxRecDepth 100000 in
theorem mX7_dustOf {l : Launch} {Γ : gX} (M : Nat → Nat → Int32) (R : Nat → Nat → Option Nat) (O : Int64) {c0 b : Nat} (hc : c0 ∈ gcs Γ) (hC : gC c0 = (9, b, 0)) (hn : gLen c0 = 131) (P : Nat → Int32) (a : Int32) (hW : WS P) : gMet l Γ yX7_dustOf wsX7_dustOf 2 46 [.ref (gad Γ c0), .int a] (va_up M b P) R O (some (.int (fX7_dustOf_v P a))) (va_up M b P) R O := by
  refine g_start (cc := cX7_dustOf) (maxL := 2) (ret := (some .int)) (by decide) rfl (Nat.le_of_ble_eq_true rfl) ?_
  intro p e s m below meth c ls hx hb hml hrt hts hown hlocks hname hK hZ hG hS hl
  have hl : lv_has ls 2 [(0, .ref (gad Γ c0)), (1, .int a)] := hl
  have hown : s.vm.findClass RX7 = some m.cls := hown
  have hF : CallFix p m c cX7_dustOf 2 s _ wsX7_dustOf RX7 := ⟨hx, hb, hml, hown, hts⟩
  have w0 := hW.1.2
  have w1 := hW.2.1.2
  have w2 := hW.2.2.1.2
  refine lv_aload_n hx hb dX7_dustOf_0 rfl (lv_at hl 0 rfl) ?_
  refine lv_iload_n hx hb dX7_dustOf_1 rfl (lv_at hl 1 rfl) ?_
  refine g_callS (As := [.ref (gad Γ c0), .int a]) (rest := []) (st1 := [.int (fX7_isSegment_v P a)]) hF (mX7_isSegment M R O hc hC hn P a) (va_cwS 2 hts gX7_dustOf_X7_isSegment rfl rfl rfl (by decide +kernel) ⟨Nat.le_of_ble_eq_true rfl, Nat.le_of_ble_eq_true rfl⟩) hK hZ hG hS rfl hl.1 (Nat.le_of_ble_eq_true rfl) dX7_dustOf_2 ⟨Nat.zero_le _, Nat.zero_le _⟩ rfl rfl (fun H locs hG hS => ?_)
  refine lv_if_eq (tgt := 19) hx hb dX7_dustOf_5 (by decide) (fun c_1 => ?_) (fun c_1 => ?_)
  · --T
    refine lv_iconst (v := 0) hx hb dX7_dustOf_19 (by decide) ?_
    exact g_iret hx hb hrt hlocks hS hG (by unfold fX7_dustOf_v; rw [if_pos c_1]) rfl dX7_dustOf_20
  · --F
    have q_1 := (isPl hW.1.1 (by omega) c_1).2
    refine lv_aload_n hx hb dX7_dustOf_8 rfl (lv_at hl 0 rfl) ?_
    refine lv_iload_n hx hb dX7_dustOf_9 rfl (lv_at hl 1 rfl) ?_
    refine g_callS (As := [.int a]) (rest := [.ref (gad Γ c0)]) (st1 := [.int (nI (12 + 7 * a.toNatClampNeg)), .ref (gad Γ c0)]) hF (mX7_segmentAt _ R O a.toNatClampNeg ((isPl hW.1.1 (by omega) c_1).1)) (va_cwS 1 hts gX7_dustOf_X7_segmentAt rfl rfl rfl (by decide +kernel) ⟨Nat.le_of_ble_eq_true rfl, Nat.le_of_ble_eq_true rfl⟩) hK hZ hG hS rfl hl.1 (Nat.le_of_ble_eq_true rfl) dX7_dustOf_10 ⟨Nat.zero_le _, Nat.zero_le _⟩ rfl rfl (fun H locs hG hS => ?_)
    refine lv_iconst (v := 3) hx hb dX7_dustOf_13 (by decide) ?_
    refine lv_iadd hx hb dX7_dustOf_14 ?_
    refine g_top (show _ = nI ((12 + 7 * a.toNatClampNeg) + 3) from nI_add _ _) ?_
    refine ga_ald hx hb hK hG hc hC hn (by decide) (j := (12 + 7 * a.toNatClampNeg) + 3) rfl (by omega) dX7_dustOf_15 ?_
    refine lv_goto (tgt := 20) hx hb dX7_dustOf_16 (by decide) ?_
    exact g_iret hx hb hrt hlocks hS hG (by unfold fX7_dustOf_v; rw [if_neg c_1]) rfl dX7_dustOf_20

def fX7_gets_v (P : Nat → Int32) (k : Nat) : Int32 := (((2 * (fX7_dustOf_v P (P (82 + 5 * k)))) + (fX7_dustOf_v P ((P (82 + 5 * k)) - 1))) + (fX7_dustOf_v P ((P (82 + 5 * k)) + 1))) / (2 * (1 + (P ((82 + 5 * k) + 1))))
set_option maxHeartbeats 4000000 in
set_option maxRecDepth 100000 in
theorem mX7_gets {l : Launch} {Γ : gX} (M : Nat → Nat → Int32) (R : Nat → Nat → Option Nat) (O : Int64) {c0 b : Nat} (hc : c0 ∈ gcs Γ) (hC : gC c0 = (9, b, 0)) (hn : gLen c0 = 131) (P : Nat → Int32) (k : Nat) {t : Int32} (hkt : t = nI k) (hk : k < 8) (hW : WS P) : gMet l Γ yX7_gets wsX7_gets 3 67 [.ref (gad Γ c0), .int t] (va_up M b P) R O (some (.int (fX7_gets_v P k))) (va_up M b P) R O := by
  subst hkt
  refine g_start (cc := cX7_gets) (maxL := 3) (ret := (some .int)) (by decide) rfl (Nat.le_of_ble_eq_true rfl) ?_
  intro p e s m below meth c ls hx hb hml hrt hts hown hlocks hname hK hZ hG hS hl
  have hl : lv_has ls 3 [(0, .ref (gad Γ c0)), (1, .int (nI k))] := hl
  have hown : s.vm.findClass RX7 = some m.cls := hown
  have hF : CallFix p m c cX7_gets 3 s _ wsX7_gets RX7 := ⟨hx, hb, hml, hown, hts⟩
  have w0 := hW.1.2
  have w1 := hW.2.1.2
  have w2 := hW.2.2.1.2
  refine lv_aload_n hx hb dX7_gets_0 rfl (lv_at hl 0 rfl) ?_
  refine lv_iload_n hx hb dX7_gets_1 rfl (lv_at hl 1 rfl) ?_
  refine g_callS (As := [.int (nI k)]) (rest := [.ref (gad Γ c0)]) (st1 := [.int (nI (82 + 5 * k)), .ref (gad Γ c0)]) hF (mX7_houseAt _ R O k rfl) (va_cwS 1 hts gX7_gets_X7_houseAt rfl rfl rfl (by decide +kernel) ⟨Nat.le_of_ble_eq_true rfl, Nat.le_of_ble_eq_true rfl⟩) hK hZ hG hS rfl hl.1 (Nat.le_of_ble_eq_true rfl) dX7_gets_2 ⟨Nat.zero_le _, Nat.zero_le _⟩ rfl rfl (fun H locs hG hS => ?_)
  refine ga_ald hx hb hK hG hc hC hn (by decide) (j := 82 + 5 * k) rfl (by omega) dX7_gets_5 ?_
  refine lv_istore_n (lv' := [(2, .int (P (82 + 5 * k))), (0, .ref (gad Γ c0)), (1, .int (nI k))]) hx hb dX7_gets_6 rfl hl (by decide) rfl (fun ls hl => ?_)
  refine lv_iconst (v := 2) hx hb dX7_gets_7 (by decide) ?_
  refine lv_aload_n hx hb dX7_gets_8 rfl (lv_at hl 1 rfl) ?_
  refine lv_iload_n hx hb dX7_gets_9 rfl (lv_at hl 0 rfl) ?_
  refine g_callS (As := [.ref (gad Γ c0), .int (P (82 + 5 * k))]) (rest := [.int 2]) (st1 := [.int (fX7_dustOf_v P (P (82 + 5 * k))), .int 2]) hF (mX7_dustOf M R O hc hC hn P (P (82 + 5 * k)) hW) (va_cwS 2 hts gX7_gets_X7_dustOf rfl rfl rfl (by decide +kernel) ⟨Nat.le_of_ble_eq_true rfl, Nat.le_of_ble_eq_true rfl⟩) hK hZ hG hS rfl hl.1 (Nat.le_of_ble_eq_true rfl) dX7_gets_10 ⟨Nat.zero_le _, Nat.zero_le _⟩ rfl rfl (fun H locs hG hS => ?_)
  refine lv_imul hx hb dX7_gets_13 ?_
  refine lv_aload_n hx hb dX7_gets_14 rfl (lv_at hl 1 rfl) ?_
  refine lv_iload_n hx hb dX7_gets_15 rfl (lv_at hl 0 rfl) ?_
  refine lv_iconst (v := 1) hx hb dX7_gets_16 (by decide) ?_
  refine lv_isub hx hb dX7_gets_17 ?_
  refine g_callS (As := [.ref (gad Γ c0), .int ((P (82 + 5 * k)) - 1)]) (rest := [.int (2 * (fX7_dustOf_v P (P (82 + 5 * k))))]) (st1 := [.int (fX7_dustOf_v P ((P (82 + 5 * k)) - 1)), .int (2 * (fX7_dustOf_v P (P (82 + 5 * k))))]) hF (mX7_dustOf M R O hc hC hn P ((P (82 + 5 * k)) - 1) hW) (va_cwS 2 hts gX7_gets_X7_dustOf rfl rfl rfl (by decide +kernel) ⟨Nat.le_of_ble_eq_true rfl, Nat.le_of_ble_eq_true rfl⟩) hK hZ hG hS rfl hl.1 (Nat.le_of_ble_eq_true rfl) dX7_gets_18 ⟨Nat.zero_le _, Nat.zero_le _⟩ rfl rfl (fun H locs hG hS => ?_)
  refine lv_iadd hx hb dX7_gets_21 ?_
  refine lv_aload_n hx hb dX7_gets_22 rfl (lv_at hl 1 rfl) ?_
  refine lv_iload_n hx hb dX7_gets_23 rfl (lv_at hl 0 rfl) ?_
  refine lv_iconst (v := 1) hx hb dX7_gets_24 (by decide) ?_
  refine lv_iadd hx hb dX7_gets_25 ?_
  refine g_callS (As := [.ref (gad Γ c0), .int ((P (82 + 5 * k)) + 1)]) (rest := [.int ((2 * (fX7_dustOf_v P (P (82 + 5 * k)))) + (fX7_dustOf_v P ((P (82 + 5 * k)) - 1)))]) (st1 := [.int (fX7_dustOf_v P ((P (82 + 5 * k)) + 1)), .int ((2 * (fX7_dustOf_v P (P (82 + 5 * k)))) + (fX7_dustOf_v P ((P (82 + 5 * k)) - 1)))]) hF (mX7_dustOf M R O hc hC hn P ((P (82 + 5 * k)) + 1) hW) (va_cwS 2 hts gX7_gets_X7_dustOf rfl rfl rfl (by decide +kernel) ⟨Nat.le_of_ble_eq_true rfl, Nat.le_of_ble_eq_true rfl⟩) hK hZ hG hS rfl hl.1 (Nat.le_of_ble_eq_true rfl) dX7_gets_26 ⟨Nat.zero_le _, Nat.zero_le _⟩ rfl rfl (fun H locs hG hS => ?_)
  refine lv_iadd hx hb dX7_gets_29 ?_
  refine lv_iconst (v := 2) hx hb dX7_gets_30 (by decide) ?_
  refine lv_iconst (v := 1) hx hb dX7_gets_31 (by decide) ?_
  refine lv_aload_n hx hb dX7_gets_32 rfl (lv_at hl 1 rfl) ?_
  refine lv_iload_n hx hb dX7_gets_33 rfl (lv_at hl 2 rfl) ?_
  refine g_callS (As := [.int (nI k)]) (rest := [.ref (gad Γ c0), .int 1, .int 2, .int (((2 * (fX7_dustOf_v P (P (82 + 5 * k)))) + (fX7_dustOf_v P ((P (82 + 5 * k)) - 1))) + (fX7_dustOf_v P ((P (82 + 5 * k)) + 1)))]) (st1 := [.int (nI (82 + 5 * k)), .ref (gad Γ c0), .int 1, .int 2, .int (((2 * (fX7_dustOf_v P (P (82 + 5 * k)))) + (fX7_dustOf_v P ((P (82 + 5 * k)) - 1))) + (fX7_dustOf_v P ((P (82 + 5 * k)) + 1)))]) hF (mX7_houseAt _ R O k rfl) (va_cwS 1 hts gX7_gets_X7_houseAt rfl rfl rfl (by decide +kernel) ⟨Nat.le_of_ble_eq_true rfl, Nat.le_of_ble_eq_true rfl⟩) hK hZ hG hS rfl hl.1 (Nat.le_of_ble_eq_true rfl) dX7_gets_34 ⟨Nat.zero_le _, Nat.zero_le _⟩ rfl rfl (fun H locs hG hS => ?_)
  refine lv_iconst (v := 1) hx hb dX7_gets_37 (by decide) ?_
  refine lv_iadd hx hb dX7_gets_38 ?_
  refine g_top (show _ = nI ((82 + 5 * k) + 1) from nI_add _ _) ?_
  refine ga_ald hx hb hK hG hc hC hn (by decide) (j := (82 + 5 * k) + 1) rfl (by omega) dX7_gets_39 ?_
  refine lv_iadd hx hb dX7_gets_40 ?_
  refine lv_imul hx hb dX7_gets_41 ?_
  refine lv_idiv hx hb dX7_gets_42 (hW.2.2.2.1 k hk).2.2 ?_
  exact g_iret hx hb hrt hlocks hS hG (by unfold fX7_gets_v; rfl) rfl dX7_gets_43

def fX7_complain_P (P : Nat → Int32) (k : Nat) : Nat → Int32 := if (remI ((upd (upd (upd P ((82 + 5 * k) + 3) ((P ((82 + 5 * k) + 3)) + 1)) 10 (((upd P ((82 + 5 * k) + 3) ((P ((82 + 5 * k) + 3)) + 1)) 10) + 1)) ((12 + 7 * ((P (82 + 5 * k)).toNatClampNeg)) + 6) (((upd (upd P ((82 + 5 * k) + 3) ((P ((82 + 5 * k) + 3)) + 1)) 10 (((upd P ((82 + 5 * k) + 3) ((P ((82 + 5 * k) + 3)) + 1)) 10) + 1)) ((12 + 7 * ((P (82 + 5 * k)).toNatClampNeg)) + 6)) + 1)) ((12 + 7 * ((P (82 + 5 * k)).toNatClampNeg)) + 6)) 3) = 0 then upd (upd (upd (upd (upd P ((82 + 5 * k) + 3) ((P ((82 + 5 * k) + 3)) + 1)) 10 (((upd P ((82 + 5 * k) + 3) ((P ((82 + 5 * k) + 3)) + 1)) 10) + 1)) ((12 + 7 * ((P (82 + 5 * k)).toNatClampNeg)) + 6) (((upd (upd P ((82 + 5 * k) + 3) ((P ((82 + 5 * k) + 3)) + 1)) 10 (((upd P ((82 + 5 * k) + 3) ((P ((82 + 5 * k) + 3)) + 1)) 10) + 1)) ((12 + 7 * ((P (82 + 5 * k)).toNatClampNeg)) + 6)) + 1)) ((12 + 7 * ((P (82 + 5 * k)).toNatClampNeg)) + 2) (fX7_less_v 4 (((upd (upd (upd P ((82 + 5 * k) + 3) ((P ((82 + 5 * k) + 3)) + 1)) 10 (((upd P ((82 + 5 * k) + 3) ((P ((82 + 5 * k) + 3)) + 1)) 10) + 1)) ((12 + 7 * ((P (82 + 5 * k)).toNatClampNeg)) + 6) (((upd (upd P ((82 + 5 * k) + 3) ((P ((82 + 5 * k) + 3)) + 1)) 10 (((upd P ((82 + 5 * k) + 3) ((P ((82 + 5 * k) + 3)) + 1)) 10) + 1)) ((12 + 7 * ((P (82 + 5 * k)).toNatClampNeg)) + 6)) + 1)) ((12 + 7 * ((P (82 + 5 * k)).toNatClampNeg)) + 2)) + 1))) ((12 + 7 * ((P (82 + 5 * k)).toNatClampNeg)) + 1) (fX7_less_v ((upd (upd (upd (upd P ((82 + 5 * k) + 3) ((P ((82 + 5 * k) + 3)) + 1)) 10 (((upd P ((82 + 5 * k) + 3) ((P ((82 + 5 * k) + 3)) + 1)) 10) + 1)) ((12 + 7 * ((P (82 + 5 * k)).toNatClampNeg)) + 6) (((upd (upd P ((82 + 5 * k) + 3) ((P ((82 + 5 * k) + 3)) + 1)) 10 (((upd P ((82 + 5 * k) + 3) ((P ((82 + 5 * k) + 3)) + 1)) 10) + 1)) ((12 + 7 * ((P (82 + 5 * k)).toNatClampNeg)) + 6)) + 1)) ((12 + 7 * ((P (82 + 5 * k)).toNatClampNeg)) + 2) (fX7_less_v 4 (((upd (upd (upd P ((82 + 5 * k) + 3) ((P ((82 + 5 * k) + 3)) + 1)) 10 (((upd P ((82 + 5 * k) + 3) ((P ((82 + 5 * k) + 3)) + 1)) 10) + 1)) ((12 + 7 * ((P (82 + 5 * k)).toNatClampNeg)) + 6) (((upd (upd P ((82 + 5 * k) + 3) ((P ((82 + 5 * k) + 3)) + 1)) 10 (((upd P ((82 + 5 * k) + 3) ((P ((82 + 5 * k) + 3)) + 1)) 10) + 1)) ((12 + 7 * ((P (82 + 5 * k)).toNatClampNeg)) + 6)) + 1)) ((12 + 7 * ((P (82 + 5 * k)).toNatClampNeg)) + 2)) + 1))) ((12 + 7 * ((P (82 + 5 * k)).toNatClampNeg)) + 1)) (5 - ((upd (upd (upd (upd P ((82 + 5 * k) + 3) ((P ((82 + 5 * k) + 3)) + 1)) 10 (((upd P ((82 + 5 * k) + 3) ((P ((82 + 5 * k) + 3)) + 1)) 10) + 1)) ((12 + 7 * ((P (82 + 5 * k)).toNatClampNeg)) + 6) (((upd (upd P ((82 + 5 * k) + 3) ((P ((82 + 5 * k) + 3)) + 1)) 10 (((upd P ((82 + 5 * k) + 3) ((P ((82 + 5 * k) + 3)) + 1)) 10) + 1)) ((12 + 7 * ((P (82 + 5 * k)).toNatClampNeg)) + 6)) + 1)) ((12 + 7 * ((P (82 + 5 * k)).toNatClampNeg)) + 2) (fX7_less_v 4 (((upd (upd (upd P ((82 + 5 * k) + 3) ((P ((82 + 5 * k) + 3)) + 1)) 10 (((upd P ((82 + 5 * k) + 3) ((P ((82 + 5 * k) + 3)) + 1)) 10) + 1)) ((12 + 7 * ((P (82 + 5 * k)).toNatClampNeg)) + 6) (((upd (upd P ((82 + 5 * k) + 3) ((P ((82 + 5 * k) + 3)) + 1)) 10 (((upd P ((82 + 5 * k) + 3) ((P ((82 + 5 * k) + 3)) + 1)) 10) + 1)) ((12 + 7 * ((P (82 + 5 * k)).toNatClampNeg)) + 6)) + 1)) ((12 + 7 * ((P (82 + 5 * k)).toNatClampNeg)) + 2)) + 1))) ((12 + 7 * ((P (82 + 5 * k)).toNatClampNeg)) + 2)))) else upd (upd (upd P ((82 + 5 * k) + 3) ((P ((82 + 5 * k) + 3)) + 1)) 10 (((upd P ((82 + 5 * k) + 3) ((P ((82 + 5 * k) + 3)) + 1)) 10) + 1)) ((12 + 7 * ((P (82 + 5 * k)).toNatClampNeg)) + 6) (((upd (upd P ((82 + 5 * k) + 3) ((P ((82 + 5 * k) + 3)) + 1)) 10 (((upd P ((82 + 5 * k) + 3) ((P ((82 + 5 * k) + 3)) + 1)) 10) + 1)) ((12 + 7 * ((P (82 + 5 * k)).toNatClampNeg)) + 6)) + 1)
set_option maxHeartbeats 4000000 in
set_option maxRecDepth 100000 in
theorem mX7_complain {l : Launch} {Γ : gX} (M : Nat → Nat → Int32) (R : Nat → Nat → Option Nat) (O : Int64) {c0 b : Nat} (hc : c0 ∈ gcs Γ) (hC : gC c0 = (9, b, 0)) (hn : gLen c0 = 131) (P : Nat → Int32) (k : Nat) {t : Int32} (hkt : t = nI k) (hk : k < 8) (hW : WS P) : gMet l Γ yX7_complain wsX7_complain 1 21 [.ref (gad Γ c0), .int t] (va_up M b P) R O none (va_up M b (fX7_complain_P P k)) R O := by
  subst hkt
  refine g_start (cc := cX7_complain) (maxL := 3) (ret := none) (by decide) rfl (Nat.le_of_ble_eq_true rfl) ?_
  intro p e s m below meth c ls hx hb hml hrt hts hown hlocks hname hK hZ hG hS hl
  have hl : lv_has ls 3 [(0, .ref (gad Γ c0)), (1, .int (nI k))] := hl
  have hown : s.vm.findClass RX7 = some m.cls := hown
  have hF : CallFix p m c cX7_complain 3 s _ wsX7_complain RX7 := ⟨hx, hb, hml, hown, hts⟩
  have w0 := hW.1.2
  have w1 := hW.2.1.2
  have w2 := hW.2.2.1.2
  have q_1 := (hW.2.2.2.1 k hk).2.1
  refine lv_aload_n hx hb dX7_complain_0 rfl (lv_at hl 0 rfl) ?_
  refine lv_iload_n hx hb dX7_complain_1 rfl (lv_at hl 1 rfl) ?_
  refine g_callS (As := [.int (nI k)]) (rest := [.ref (gad Γ c0)]) (st1 := [.int (nI (82 + 5 * k)), .ref (gad Γ c0)]) hF (mX7_houseAt _ R O k rfl) (va_cwS 1 hts gX7_complain_X7_houseAt rfl rfl rfl (by decide +kernel) ⟨Nat.le_of_ble_eq_true rfl, Nat.le_of_ble_eq_true rfl⟩) hK hZ hG hS rfl hl.1 (Nat.le_of_ble_eq_true rfl) dX7_complain_2 ⟨Nat.zero_le _, Nat.zero_le _⟩ rfl rfl (fun H locs hG hS => ?_)
  refine ga_ald hx hb hK hG hc hC hn (by decide) (j := 82 + 5 * k) rfl (by omega) dX7_complain_5 ?_
  refine g_callS (As := [.int (P (82 + 5 * k))]) (rest := []) (st1 := [.int (nI (12 + 7 * ((P (82 + 5 * k)).toNatClampNeg)))]) hF (mX7_segmentAt _ R O ((P (82 + 5 * k)).toNatClampNeg) ((hW.2.2.2.1 k hk).1)) (va_cwS 1 hts gX7_complain_X7_segmentAt rfl rfl rfl (by decide +kernel) ⟨Nat.le_of_ble_eq_true rfl, Nat.le_of_ble_eq_true rfl⟩) hK hZ hG hS rfl hl.1 (Nat.le_of_ble_eq_true rfl) dX7_complain_6 ⟨Nat.zero_le _, Nat.zero_le _⟩ rfl rfl (fun H locs hG hS => ?_)
  refine lv_istore_n (lv' := [(2, .int (nI (12 + 7 * ((P (82 + 5 * k)).toNatClampNeg)))), (0, .ref (gad Γ c0)), (1, .int (nI k))]) hx hb dX7_complain_9 rfl hl (by decide) rfl (fun ls hl => ?_)
  refine lv_aload_n hx hb dX7_complain_10 rfl (lv_at hl 1 rfl) ?_
  refine lv_iload_n hx hb dX7_complain_11 rfl (lv_at hl 2 rfl) ?_
  refine g_callS (As := [.int (nI k)]) (rest := [.ref (gad Γ c0)]) (st1 := [.int (nI (82 + 5 * k)), .ref (gad Γ c0)]) hF (mX7_houseAt _ R O k rfl) (va_cwS 1 hts gX7_complain_X7_houseAt rfl rfl rfl (by decide +kernel) ⟨Nat.le_of_ble_eq_true rfl, Nat.le_of_ble_eq_true rfl⟩) hK hZ hG hS rfl hl.1 (Nat.le_of_ble_eq_true rfl) dX7_complain_12 ⟨Nat.zero_le _, Nat.zero_le _⟩ rfl rfl (fun H locs hG hS => ?_)
  refine lv_iconst (v := 3) hx hb dX7_complain_15 (by decide) ?_
  refine lv_iadd hx hb dX7_complain_16 ?_
  refine g_top (show _ = nI ((82 + 5 * k) + 3) from nI_add _ _) ?_
  refine lv_dup2_11 hx hb dX7_complain_17 rfl rfl ?_
  refine ga_ald hx hb hK hG hc hC hn (by decide) (j := (82 + 5 * k) + 3) rfl (by omega) dX7_complain_18 ?_
  refine lv_iconst (v := 1) hx hb dX7_complain_19 (by decide) ?_
  refine lv_iadd hx hb dX7_complain_20 ?_
  refine ga_ast hx hb hK hG hS hc hC hn (by decide) (j := (82 + 5 * k) + 3) rfl (by omega) dX7_complain_21 (fun H locs hG hS => ?_)
  refine lv_aload_n hx hb dX7_complain_22 rfl (lv_at hl 1 rfl) ?_
  refine lv_bipush (v := 10) hx hb dX7_complain_23 (by decide) ?_
  refine lv_dup2_11 hx hb dX7_complain_25 rfl rfl ?_
  refine ga_ald hx hb hK hG hc hC hn (by decide) (j := 10) rfl (by omega) dX7_complain_26 ?_
  refine lv_iconst (v := 1) hx hb dX7_complain_27 (by decide) ?_
  refine lv_iadd hx hb dX7_complain_28 ?_
  refine ga_ast hx hb hK hG hS hc hC hn (by decide) (j := 10) rfl (by omega) dX7_complain_29 (fun H locs hG hS => ?_)
  refine lv_aload_n hx hb dX7_complain_30 rfl (lv_at hl 1 rfl) ?_
  refine lv_iload_n hx hb dX7_complain_31 rfl (lv_at hl 0 rfl) ?_
  refine lv_bipush (v := 6) hx hb dX7_complain_32 (by decide) ?_
  refine lv_iadd hx hb dX7_complain_34 ?_
  refine g_top (show _ = nI ((12 + 7 * ((P (82 + 5 * k)).toNatClampNeg)) + 6) from nI_add _ _) ?_
  refine lv_dup2_11 hx hb dX7_complain_35 rfl rfl ?_
  refine ga_ald hx hb hK hG hc hC hn (by decide) (j := (12 + 7 * ((P (82 + 5 * k)).toNatClampNeg)) + 6) rfl (by omega) dX7_complain_36 ?_
  refine lv_iconst (v := 1) hx hb dX7_complain_37 (by decide) ?_
  refine lv_iadd hx hb dX7_complain_38 ?_
  refine ga_ast hx hb hK hG hS hc hC hn (by decide) (j := (12 + 7 * ((P (82 + 5 * k)).toNatClampNeg)) + 6) rfl (by omega) dX7_complain_39 (fun H locs hG hS => ?_)
  refine lv_aload_n hx hb dX7_complain_40 rfl (lv_at hl 1 rfl) ?_
  refine lv_iload_n hx hb dX7_complain_41 rfl (lv_at hl 0 rfl) ?_
  refine lv_bipush (v := 6) hx hb dX7_complain_42 (by decide) ?_
  refine lv_iadd hx hb dX7_complain_44 ?_
  refine g_top (show _ = nI ((12 + 7 * ((P (82 + 5 * k)).toNatClampNeg)) + 6) from nI_add _ _) ?_
  refine ga_ald hx hb hK hG hc hC hn (by decide) (j := (12 + 7 * ((P (82 + 5 * k)).toNatClampNeg)) + 6) rfl (by omega) dX7_complain_45 ?_
  refine lv_iconst (v := 3) hx hb dX7_complain_46 (by decide) ?_
  refine lv_irem hx hb dX7_complain_47 (by decide) ?_
  refine lv_if_ne (tgt := 87) hx hb dX7_complain_48 (by decide) (fun c_1 => ?_) (fun c_1 => ?_)
  · --T
    exact g_vret hx hb hrt hlocks hS hG (congrArg (va_up M b) (by unfold fX7_complain_P; rw [if_neg c_1])) rfl dX7_complain_87
  · --F
    refine lv_aload_n hx hb dX7_complain_51 rfl (lv_at hl 1 rfl) ?_
    refine lv_iload_n hx hb dX7_complain_52 rfl (lv_at hl 0 rfl) ?_
    refine lv_iconst (v := 2) hx hb dX7_complain_53 (by decide) ?_
    refine lv_iadd hx hb dX7_complain_54 ?_
    refine g_top (show _ = nI ((12 + 7 * ((P (82 + 5 * k)).toNatClampNeg)) + 2) from nI_add _ _) ?_
    refine lv_iconst (v := 4) hx hb dX7_complain_55 (by decide) ?_
    refine lv_aload_n hx hb dX7_complain_56 rfl (lv_at hl 1 rfl) ?_
    refine lv_iload_n hx hb dX7_complain_57 rfl (lv_at hl 0 rfl) ?_
    refine lv_iconst (v := 2) hx hb dX7_complain_58 (by decide) ?_
    refine lv_iadd hx hb dX7_complain_59 ?_
    refine g_top (show _ = nI ((12 + 7 * ((P (82 + 5 * k)).toNatClampNeg)) + 2) from nI_add _ _) ?_
    refine ga_ald hx hb hK hG hc hC hn (by decide) (j := (12 + 7 * ((P (82 + 5 * k)).toNatClampNeg)) + 2) rfl (by omega) dX7_complain_60 ?_
    refine lv_iconst (v := 1) hx hb dX7_complain_61 (by decide) ?_
    refine lv_iadd hx hb dX7_complain_62 ?_
    refine g_callS (As := [.int 4, .int (((upd (upd (upd P ((82 + 5 * k) + 3) ((P ((82 + 5 * k) + 3)) + 1)) 10 (((upd P ((82 + 5 * k) + 3) ((P ((82 + 5 * k) + 3)) + 1)) 10) + 1)) ((12 + 7 * ((P (82 + 5 * k)).toNatClampNeg)) + 6) (((upd (upd P ((82 + 5 * k) + 3) ((P ((82 + 5 * k) + 3)) + 1)) 10 (((upd P ((82 + 5 * k) + 3) ((P ((82 + 5 * k) + 3)) + 1)) 10) + 1)) ((12 + 7 * ((P (82 + 5 * k)).toNatClampNeg)) + 6)) + 1)) ((12 + 7 * ((P (82 + 5 * k)).toNatClampNeg)) + 2)) + 1)]) (rest := [.int (nI ((12 + 7 * ((P (82 + 5 * k)).toNatClampNeg)) + 2)), .ref (gad Γ c0)]) (st1 := [.int (fX7_less_v 4 (((upd (upd (upd P ((82 + 5 * k) + 3) ((P ((82 + 5 * k) + 3)) + 1)) 10 (((upd P ((82 + 5 * k) + 3) ((P ((82 + 5 * k) + 3)) + 1)) 10) + 1)) ((12 + 7 * ((P (82 + 5 * k)).toNatClampNeg)) + 6) (((upd (upd P ((82 + 5 * k) + 3) ((P ((82 + 5 * k) + 3)) + 1)) 10 (((upd P ((82 + 5 * k) + 3) ((P ((82 + 5 * k) + 3)) + 1)) 10) + 1)) ((12 + 7 * ((P (82 + 5 * k)).toNatClampNeg)) + 6)) + 1)) ((12 + 7 * ((P (82 + 5 * k)).toNatClampNeg)) + 2)) + 1)), .int (nI ((12 + 7 * ((P (82 + 5 * k)).toNatClampNeg)) + 2)), .ref (gad Γ c0)]) hF (mX7_less _ R O 4 (((upd (upd (upd P ((82 + 5 * k) + 3) ((P ((82 + 5 * k) + 3)) + 1)) 10 (((upd P ((82 + 5 * k) + 3) ((P ((82 + 5 * k) + 3)) + 1)) 10) + 1)) ((12 + 7 * ((P (82 + 5 * k)).toNatClampNeg)) + 6) (((upd (upd P ((82 + 5 * k) + 3) ((P ((82 + 5 * k) + 3)) + 1)) 10 (((upd P ((82 + 5 * k) + 3) ((P ((82 + 5 * k) + 3)) + 1)) 10) + 1)) ((12 + 7 * ((P (82 + 5 * k)).toNatClampNeg)) + 6)) + 1)) ((12 + 7 * ((P (82 + 5 * k)).toNatClampNeg)) + 2)) + 1)) (va_cwS 2 hts gX7_complain_X7_less rfl rfl rfl (by decide +kernel) ⟨Nat.le_of_ble_eq_true rfl, Nat.le_of_ble_eq_true rfl⟩) hK hZ hG hS rfl hl.1 (Nat.le_of_ble_eq_true rfl) dX7_complain_63 ⟨Nat.zero_le _, Nat.zero_le _⟩ rfl rfl (fun H locs hG hS => ?_)
    refine ga_ast hx hb hK hG hS hc hC hn (by decide) (j := (12 + 7 * ((P (82 + 5 * k)).toNatClampNeg)) + 2) rfl (by omega) dX7_complain_66 (fun H locs hG hS => ?_)
    refine lv_aload_n hx hb dX7_complain_67 rfl (lv_at hl 1 rfl) ?_
    refine lv_iload_n hx hb dX7_complain_68 rfl (lv_at hl 0 rfl) ?_
    refine lv_iconst (v := 1) hx hb dX7_complain_69 (by decide) ?_
    refine lv_iadd hx hb dX7_complain_70 ?_
    refine g_top (show _ = nI ((12 + 7 * ((P (82 + 5 * k)).toNatClampNeg)) + 1) from nI_add _ _) ?_
    refine lv_aload_n hx hb dX7_complain_71 rfl (lv_at hl 1 rfl) ?_
    refine lv_iload_n hx hb dX7_complain_72 rfl (lv_at hl 0 rfl) ?_
    refine lv_iconst (v := 1) hx hb dX7_complain_73 (by decide) ?_
    refine lv_iadd hx hb dX7_complain_74 ?_
    refine g_top (show _ = nI ((12 + 7 * ((P (82 + 5 * k)).toNatClampNeg)) + 1) from nI_add _ _) ?_
    refine ga_ald hx hb hK hG hc hC hn (by decide) (j := (12 + 7 * ((P (82 + 5 * k)).toNatClampNeg)) + 1) rfl (by omega) dX7_complain_75 ?_
    refine lv_iconst (v := 5) hx hb dX7_complain_76 (by decide) ?_
    refine lv_aload_n hx hb dX7_complain_77 rfl (lv_at hl 1 rfl) ?_
    refine lv_iload_n hx hb dX7_complain_78 rfl (lv_at hl 0 rfl) ?_
    refine lv_iconst (v := 2) hx hb dX7_complain_79 (by decide) ?_
    refine lv_iadd hx hb dX7_complain_80 ?_
    refine g_top (show _ = nI ((12 + 7 * ((P (82 + 5 * k)).toNatClampNeg)) + 2) from nI_add _ _) ?_
    refine ga_ald hx hb hK hG hc hC hn (by decide) (j := (12 + 7 * ((P (82 + 5 * k)).toNatClampNeg)) + 2) rfl (by omega) dX7_complain_81 ?_
    refine lv_isub hx hb dX7_complain_82 ?_
    refine g_callS (As := [.int ((upd (upd (upd (upd P ((82 + 5 * k) + 3) ((P ((82 + 5 * k) + 3)) + 1)) 10 (((upd P ((82 + 5 * k) + 3) ((P ((82 + 5 * k) + 3)) + 1)) 10) + 1)) ((12 + 7 * ((P (82 + 5 * k)).toNatClampNeg)) + 6) (((upd (upd P ((82 + 5 * k) + 3) ((P ((82 + 5 * k) + 3)) + 1)) 10 (((upd P ((82 + 5 * k) + 3) ((P ((82 + 5 * k) + 3)) + 1)) 10) + 1)) ((12 + 7 * ((P (82 + 5 * k)).toNatClampNeg)) + 6)) + 1)) ((12 + 7 * ((P (82 + 5 * k)).toNatClampNeg)) + 2) (fX7_less_v 4 (((upd (upd (upd P ((82 + 5 * k) + 3) ((P ((82 + 5 * k) + 3)) + 1)) 10 (((upd P ((82 + 5 * k) + 3) ((P ((82 + 5 * k) + 3)) + 1)) 10) + 1)) ((12 + 7 * ((P (82 + 5 * k)).toNatClampNeg)) + 6) (((upd (upd P ((82 + 5 * k) + 3) ((P ((82 + 5 * k) + 3)) + 1)) 10 (((upd P ((82 + 5 * k) + 3) ((P ((82 + 5 * k) + 3)) + 1)) 10) + 1)) ((12 + 7 * ((P (82 + 5 * k)).toNatClampNeg)) + 6)) + 1)) ((12 + 7 * ((P (82 + 5 * k)).toNatClampNeg)) + 2)) + 1))) ((12 + 7 * ((P (82 + 5 * k)).toNatClampNeg)) + 1)), .int (5 - ((upd (upd (upd (upd P ((82 + 5 * k) + 3) ((P ((82 + 5 * k) + 3)) + 1)) 10 (((upd P ((82 + 5 * k) + 3) ((P ((82 + 5 * k) + 3)) + 1)) 10) + 1)) ((12 + 7 * ((P (82 + 5 * k)).toNatClampNeg)) + 6) (((upd (upd P ((82 + 5 * k) + 3) ((P ((82 + 5 * k) + 3)) + 1)) 10 (((upd P ((82 + 5 * k) + 3) ((P ((82 + 5 * k) + 3)) + 1)) 10) + 1)) ((12 + 7 * ((P (82 + 5 * k)).toNatClampNeg)) + 6)) + 1)) ((12 + 7 * ((P (82 + 5 * k)).toNatClampNeg)) + 2) (fX7_less_v 4 (((upd (upd (upd P ((82 + 5 * k) + 3) ((P ((82 + 5 * k) + 3)) + 1)) 10 (((upd P ((82 + 5 * k) + 3) ((P ((82 + 5 * k) + 3)) + 1)) 10) + 1)) ((12 + 7 * ((P (82 + 5 * k)).toNatClampNeg)) + 6) (((upd (upd P ((82 + 5 * k) + 3) ((P ((82 + 5 * k) + 3)) + 1)) 10 (((upd P ((82 + 5 * k) + 3) ((P ((82 + 5 * k) + 3)) + 1)) 10) + 1)) ((12 + 7 * ((P (82 + 5 * k)).toNatClampNeg)) + 6)) + 1)) ((12 + 7 * ((P (82 + 5 * k)).toNatClampNeg)) + 2)) + 1))) ((12 + 7 * ((P (82 + 5 * k)).toNatClampNeg)) + 2)))]) (rest := [.int (nI ((12 + 7 * ((P (82 + 5 * k)).toNatClampNeg)) + 1)), .ref (gad Γ c0)]) (st1 := [.int (fX7_less_v ((upd (upd (upd (upd P ((82 + 5 * k) + 3) ((P ((82 + 5 * k) + 3)) + 1)) 10 (((upd P ((82 + 5 * k) + 3) ((P ((82 + 5 * k) + 3)) + 1)) 10) + 1)) ((12 + 7 * ((P (82 + 5 * k)).toNatClampNeg)) + 6) (((upd (upd P ((82 + 5 * k) + 3) ((P ((82 + 5 * k) + 3)) + 1)) 10 (((upd P ((82 + 5 * k) + 3) ((P ((82 + 5 * k) + 3)) + 1)) 10) + 1)) ((12 + 7 * ((P (82 + 5 * k)).toNatClampNeg)) + 6)) + 1)) ((12 + 7 * ((P (82 + 5 * k)).toNatClampNeg)) + 2) (fX7_less_v 4 (((upd (upd (upd P ((82 + 5 * k) + 3) ((P ((82 + 5 * k) + 3)) + 1)) 10 (((upd P ((82 + 5 * k) + 3) ((P ((82 + 5 * k) + 3)) + 1)) 10) + 1)) ((12 + 7 * ((P (82 + 5 * k)).toNatClampNeg)) + 6) (((upd (upd P ((82 + 5 * k) + 3) ((P ((82 + 5 * k) + 3)) + 1)) 10 (((upd P ((82 + 5 * k) + 3) ((P ((82 + 5 * k) + 3)) + 1)) 10) + 1)) ((12 + 7 * ((P (82 + 5 * k)).toNatClampNeg)) + 6)) + 1)) ((12 + 7 * ((P (82 + 5 * k)).toNatClampNeg)) + 2)) + 1))) ((12 + 7 * ((P (82 + 5 * k)).toNatClampNeg)) + 1)) (5 - ((upd (upd (upd (upd P ((82 + 5 * k) + 3) ((P ((82 + 5 * k) + 3)) + 1)) 10 (((upd P ((82 + 5 * k) + 3) ((P ((82 + 5 * k) + 3)) + 1)) 10) + 1)) ((12 + 7 * ((P (82 + 5 * k)).toNatClampNeg)) + 6) (((upd (upd P ((82 + 5 * k) + 3) ((P ((82 + 5 * k) + 3)) + 1)) 10 (((upd P ((82 + 5 * k) + 3) ((P ((82 + 5 * k) + 3)) + 1)) 10) + 1)) ((12 + 7 * ((P (82 + 5 * k)).toNatClampNeg)) + 6)) + 1)) ((12 + 7 * ((P (82 + 5 * k)).toNatClampNeg)) + 2) (fX7_less_v 4 (((upd (upd (upd P ((82 + 5 * k) + 3) ((P ((82 + 5 * k) + 3)) + 1)) 10 (((upd P ((82 + 5 * k) + 3) ((P ((82 + 5 * k) + 3)) + 1)) 10) + 1)) ((12 + 7 * ((P (82 + 5 * k)).toNatClampNeg)) + 6) (((upd (upd P ((82 + 5 * k) + 3) ((P ((82 + 5 * k) + 3)) + 1)) 10 (((upd P ((82 + 5 * k) + 3) ((P ((82 + 5 * k) + 3)) + 1)) 10) + 1)) ((12 + 7 * ((P (82 + 5 * k)).toNatClampNeg)) + 6)) + 1)) ((12 + 7 * ((P (82 + 5 * k)).toNatClampNeg)) + 2)) + 1))) ((12 + 7 * ((P (82 + 5 * k)).toNatClampNeg)) + 2)))), .int (nI ((12 + 7 * ((P (82 + 5 * k)).toNatClampNeg)) + 1)), .ref (gad Γ c0)]) hF (mX7_less _ R O ((upd (upd (upd (upd P ((82 + 5 * k) + 3) ((P ((82 + 5 * k) + 3)) + 1)) 10 (((upd P ((82 + 5 * k) + 3) ((P ((82 + 5 * k) + 3)) + 1)) 10) + 1)) ((12 + 7 * ((P (82 + 5 * k)).toNatClampNeg)) + 6) (((upd (upd P ((82 + 5 * k) + 3) ((P ((82 + 5 * k) + 3)) + 1)) 10 (((upd P ((82 + 5 * k) + 3) ((P ((82 + 5 * k) + 3)) + 1)) 10) + 1)) ((12 + 7 * ((P (82 + 5 * k)).toNatClampNeg)) + 6)) + 1)) ((12 + 7 * ((P (82 + 5 * k)).toNatClampNeg)) + 2) (fX7_less_v 4 (((upd (upd (upd P ((82 + 5 * k) + 3) ((P ((82 + 5 * k) + 3)) + 1)) 10 (((upd P ((82 + 5 * k) + 3) ((P ((82 + 5 * k) + 3)) + 1)) 10) + 1)) ((12 + 7 * ((P (82 + 5 * k)).toNatClampNeg)) + 6) (((upd (upd P ((82 + 5 * k) + 3) ((P ((82 + 5 * k) + 3)) + 1)) 10 (((upd P ((82 + 5 * k) + 3) ((P ((82 + 5 * k) + 3)) + 1)) 10) + 1)) ((12 + 7 * ((P (82 + 5 * k)).toNatClampNeg)) + 6)) + 1)) ((12 + 7 * ((P (82 + 5 * k)).toNatClampNeg)) + 2)) + 1))) ((12 + 7 * ((P (82 + 5 * k)).toNatClampNeg)) + 1)) (5 - ((upd (upd (upd (upd P ((82 + 5 * k) + 3) ((P ((82 + 5 * k) + 3)) + 1)) 10 (((upd P ((82 + 5 * k) + 3) ((P ((82 + 5 * k) + 3)) + 1)) 10) + 1)) ((12 + 7 * ((P (82 + 5 * k)).toNatClampNeg)) + 6) (((upd (upd P ((82 + 5 * k) + 3) ((P ((82 + 5 * k) + 3)) + 1)) 10 (((upd P ((82 + 5 * k) + 3) ((P ((82 + 5 * k) + 3)) + 1)) 10) + 1)) ((12 + 7 * ((P (82 + 5 * k)).toNatClampNeg)) + 6)) + 1)) ((12 + 7 * ((P (82 + 5 * k)).toNatClampNeg)) + 2) (fX7_less_v 4 (((upd (upd (upd P ((82 + 5 * k) + 3) ((P ((82 + 5 * k) + 3)) + 1)) 10 (((upd P ((82 + 5 * k) + 3) ((P ((82 + 5 * k) + 3)) + 1)) 10) + 1)) ((12 + 7 * ((P (82 + 5 * k)).toNatClampNeg)) + 6) (((upd (upd P ((82 + 5 * k) + 3) ((P ((82 + 5 * k) + 3)) + 1)) 10 (((upd P ((82 + 5 * k) + 3) ((P ((82 + 5 * k) + 3)) + 1)) 10) + 1)) ((12 + 7 * ((P (82 + 5 * k)).toNatClampNeg)) + 6)) + 1)) ((12 + 7 * ((P (82 + 5 * k)).toNatClampNeg)) + 2)) + 1))) ((12 + 7 * ((P (82 + 5 * k)).toNatClampNeg)) + 2)))) (va_cwS 2 hts gX7_complain_X7_less rfl rfl rfl (by decide +kernel) ⟨Nat.le_of_ble_eq_true rfl, Nat.le_of_ble_eq_true rfl⟩) hK hZ hG hS rfl hl.1 (Nat.le_of_ble_eq_true rfl) dX7_complain_83 ⟨Nat.zero_le _, Nat.zero_le _⟩ rfl rfl (fun H locs hG hS => ?_)
    refine ga_ast hx hb hK hG hS hc hC hn (by decide) (j := (12 + 7 * ((P (82 + 5 * k)).toNatClampNeg)) + 1) rfl (by omega) dX7_complain_86 (fun H locs hG hS => ?_)
    exact g_vret hx hb hrt hlocks hS hG (congrArg (va_up M b) (by unfold fX7_complain_P; rw [if_pos c_1])) rfl dX7_complain_87

