/-! THE REFERENCE: runScript. Laid by gen/p13.py. -/
def fX7_dos (V : Nat → Int32) (h a d : Int32) : Nat → Int32 := fX7_does_V V V V V V V V V h a d
def fX7_dov (V : Nat → Int32) (h a d : Int32) : Int32 := fX7_does_v V V V V V V V V h a d
theorem WS_does {V : Nat → Int32} (hV : WS V) (h a d : Int32) : WS (fX7_dos V h a d) := by
  have v0 := hV.1.2
  have v1 := hV.2.1.2
  have v2 := hV.2.2.1.2
  unfold fX7_dos fX7_does_V
  split
  · (repeat' split) <;> first | exact hV | exact fX7_doh_WS hV _
  · split
    · split
      · exact hV
      · rename_i cw
        split
        · exact hV
        · rename_i cs
          have b1 := (isPl hV.2.2.1.1 (by omega) cw).2
          have b2 := (isPl hV.1.1 (by omega) cs).2
          have hd := WS_drive hV (k := a.toNatClampNeg) (s := d) (by omega) (isPl hV.1.1 (by omega) cs).1 (by omega)
          (repeat' split) <;> first | exact hV | exact hd
    · split
      · split
        · exact hV
        · rename_i cw
          have b1 := (isPl hV.2.2.1.1 (by omega) cw).2
          have hd := WS_spray (k := a.toNatClampNeg) (a := d) (by omega) hV
          (repeat' split) <;> first | exact hV | exact hd
      · split
        · split
          · exact hV
          · rename_i cw
            have b1 := (isPl hV.2.2.1.1 (by omega) cw).2
            have hd := WS_fill hV (k := a.toNatClampNeg) (by omega)
            (repeat' split) <;> first | exact hV | exact hd
        · split
          · split
            · exact hV
            · rename_i cw
              have b1 := (isPl hV.1.1 (by omega) cw).2
              have hd := WS.up (j := 12 + 7 * a.toNatClampNeg + 1) (v := d) (by unfold kw; omega) hV
              (repeat' split) <;> first | exact hV | exact hd
          · split
            · split
              · exact hV
              · rename_i cw
                have b1 := (isPl hV.1.1 (by omega) cw).2
                have hd := WS.up (j := 12 + 7 * a.toNatClampNeg) (v := d) (by unfold kw; omega) hV
                (repeat' split) <;> first | exact hV | exact hd
            · have hd := WS.up (j := 5) (v := d) (by unfold kw; omega) hV
              (repeat' split) <;> first | exact hV | exact hd
def fX7_all (z0 : Int64) : Nat → Int64
  | 0 => z0
  | k + 1 => fX7_all z0 k / 10000
def fX7_left (z0 s : Int64) : Nat → Int64
  | 0 => s
  | k + 1 => remL (fX7_left z0 s k) (fX7_all z0 (k + 1))
def fX7_grp (z0 s : Int64) (k : Nat) : Int32 := (fX7_left z0 s k / fX7_all z0 (k + 1)).toInt32
def fX7_z0 (a : Int32) : Int64 := if a = 1 then 10000 else if a = 2 then 100000000 else if a = 3 then 1000000000000 else 10000000000000000
set_option maxHeartbeats 4000000 in
set_option maxRecDepth 100000 in
theorem mX7_runScript_n1 {l : Launch} {Γ : gX} (M : Nat → Nat → Int32) (R : Nat → Nat → Option Nat) (O : Int64) (hL : LM Γ R) (A T D N V I K B : Nat → Int32) (a : Int32) (z0 sc : Int64) (hz0 : z0 = fX7_z0 a) (hN : WS N) (hp : fX7_in_v a.toInt64 1 4 = 0) : gMet l Γ yX7_runScript wsX7_runScript 1 25 [.ref (gad Γ 483), .int a, .long sc] (mS M A T D N V I K B) R O (some (.int 0)) (mS M (upd A 0 1) T D N V I K B) R O := by
  refine g_start (cc := cX7_runScript) (maxL := 10) (ret := (some .int)) (by decide) rfl (Nat.le_of_ble_eq_true rfl) ?_
  intro p e s m below meth c ls hx hb hml hrt hts hown hlocks hname hK hZ hG hS hl
  have hl : lv_has ls 10 [(0, .ref (gad Γ 483)), (1, .int a), (2, .long sc)] := hl
  have hown : s.vm.findClass RX7 = some m.cls := hown
  have hF : CallFix p m c cX7_runScript 10 s _ wsX7_runScript RX7 := ⟨hx, hb, hml, hown, hts⟩
  have k_1 : (Cond.constantLong RX7 205 (10000000000000000)).before _ s = true := hts _ (by decide +kernel)
  have k_2 : (Cond.constantLong RX7 153 (4)).before _ s = true := hts _ (by decide +kernel)
  have k_3 : (Cond.constantLong RX7 203 (1000000000000)).before _ s = true := hts _ (by decide +kernel)
  have k_4 : (Cond.constantLong RX7 201 (100000000)).before _ s = true := hts _ (by decide +kernel)
  have k_5 : (Cond.constantLong RX7 199 (10000)).before _ s = true := hts _ (by decide +kernel)
  refine lv_iload_n hx hb dX7_runScript_0 rfl (lv_at hl 1 rfl) ?_
  refine lv_iconst (v := 1) hx hb dX7_runScript_1 (by decide) ?_
  refine lv_icmp_ne (tgt := 11) hx hb dX7_runScript_2 (by decide) (fun c_1 => ?_) (fun c_1 => ?_)
  · --T
    refine lv_iload_n hx hb dX7_runScript_11 rfl (lv_at hl 1 rfl) ?_
    refine lv_iconst (v := 2) hx hb dX7_runScript_12 (by decide) ?_
    refine lv_icmp_ne (tgt := 22) hx hb dX7_runScript_13 (by decide) (fun c_2 => ?_) (fun c_2 => ?_)
    · --T
      refine lv_iload_n hx hb dX7_runScript_22 rfl (lv_at hl 1 rfl) ?_
      refine lv_iconst (v := 3) hx hb dX7_runScript_23 (by decide) ?_
      refine lv_icmp_ne (tgt := 33) hx hb dX7_runScript_24 (by decide) (fun c_3 => ?_) (fun c_3 => ?_)
      · --T
        refine lv_ldc2 hx hb hown k_1 dX7_runScript_33 ?_
        refine W.eq (g2 := F0 m 36 ls [.long z0]) (by rw [hz0]; unfold fX7_z0; rw [if_neg c_1, if_neg c_2, if_neg c_3]) ?_
        refine lv_lstore (lv' := [(4, .long z0), (0, .ref (gad Γ 483)), (1, .int a), (2, .long sc)]) hx hb dX7_runScript_36 hl (by decide) rfl (fun ls hl => ?_)
        refine lv_aload_n hx hb dX7_runScript_38 rfl (lv_at hl 1 rfl) ?_
        refine lv_iload_n hx hb dX7_runScript_39 rfl (lv_at hl 2 rfl) ?_
        refine lv_i2l hx hb dX7_runScript_40 rfl ?_
        refine lv_lconst (v := 1) hx hb dX7_runScript_41 (by decide) ?_
        refine lv_ldc2 hx hb hown k_2 dX7_runScript_42 ?_
        refine g_callS (As := [.long a.toInt64, .long 1, .long 4]) (rest := [.ref (gad Γ 483)]) (st1 := [.int (fX7_in_v a.toInt64 1 4), .ref (gad Γ 483)]) hF (mX7_in _ R O a.toInt64 1 4) (va_cwS 3 hts gX7_runScript_X7_in rfl rfl rfl (by decide +kernel) ⟨Nat.le_of_ble_eq_true rfl, Nat.le_of_ble_eq_true rfl⟩) hK hZ hG hS rfl hl.1 (Nat.le_of_ble_eq_true rfl) dX7_runScript_45 ⟨Nat.zero_le _, Nat.zero_le _⟩ rfl rfl (fun H locs hG hS => ?_)
        refine lv_if_eq (tgt := 67) hx hb dX7_runScript_48 (by decide) (fun c_4 => ?_) (fun c_4 => absurd hp c_4)
        refine lv_iconst (v := 1) hx hb dX7_runScript_67 (by decide) ?_
        refine g_callV (As := [.int 1]) (rest := []) (st1 := [.int 1]) hF (mX7_refused_l M R O hL A T D N V I K B 1 1 (by decide)) (cwV 1 hts gX7_runScript_X7_refused rfl rfl rfl (by decide +kernel) ⟨Nat.le_of_ble_eq_true rfl, Nat.le_of_ble_eq_true rfl⟩) hK hZ hG hS (hL.1 483 (by decide) (by decide)) (show gC 483 = (7, 24, 0) from rfl) (by decide) rfl rfl hl.1 (Nat.le_of_ble_eq_true rfl) dX7_runScript_68 ⟨Nat.zero_le _, Nat.zero_le _⟩ rfl rfl (fun H locs hG hS => ?_)
        refine lv_if_eq (tgt := 76) hx hb dX7_runScript_71 (by decide) (fun c_5 => absurd c_5 (by decide)) (fun c_5 => ?_)
        refine lv_iconst (v := 0) hx hb dX7_runScript_74 (by decide) ?_
        exact g_iret hx hb hrt hlocks hS hG rfl rfl dX7_runScript_75
      · --F
        refine lv_ldc2 hx hb hown k_3 dX7_runScript_27 ?_
        refine lv_goto (tgt := 36) hx hb dX7_runScript_30 (by decide) ?_
        refine W.eq (g2 := F0 m 36 ls [.long z0]) (by rw [hz0]; unfold fX7_z0; rw [if_neg c_1, if_neg c_2, if_pos c_3]) ?_
        refine lv_lstore (lv' := [(4, .long z0), (0, .ref (gad Γ 483)), (1, .int a), (2, .long sc)]) hx hb dX7_runScript_36 hl (by decide) rfl (fun ls hl => ?_)
        refine lv_aload_n hx hb dX7_runScript_38 rfl (lv_at hl 1 rfl) ?_
        refine lv_iload_n hx hb dX7_runScript_39 rfl (lv_at hl 2 rfl) ?_
        refine lv_i2l hx hb dX7_runScript_40 rfl ?_
        refine lv_lconst (v := 1) hx hb dX7_runScript_41 (by decide) ?_
        refine lv_ldc2 hx hb hown k_2 dX7_runScript_42 ?_
        refine g_callS (As := [.long a.toInt64, .long 1, .long 4]) (rest := [.ref (gad Γ 483)]) (st1 := [.int (fX7_in_v a.toInt64 1 4), .ref (gad Γ 483)]) hF (mX7_in _ R O a.toInt64 1 4) (va_cwS 3 hts gX7_runScript_X7_in rfl rfl rfl (by decide +kernel) ⟨Nat.le_of_ble_eq_true rfl, Nat.le_of_ble_eq_true rfl⟩) hK hZ hG hS rfl hl.1 (Nat.le_of_ble_eq_true rfl) dX7_runScript_45 ⟨Nat.zero_le _, Nat.zero_le _⟩ rfl rfl (fun H locs hG hS => ?_)
        refine lv_if_eq (tgt := 67) hx hb dX7_runScript_48 (by decide) (fun c_6 => ?_) (fun c_6 => absurd hp c_6)
        refine lv_iconst (v := 1) hx hb dX7_runScript_67 (by decide) ?_
        refine g_callV (As := [.int 1]) (rest := []) (st1 := [.int 1]) hF (mX7_refused_l M R O hL A T D N V I K B 1 1 (by decide)) (cwV 1 hts gX7_runScript_X7_refused rfl rfl rfl (by decide +kernel) ⟨Nat.le_of_ble_eq_true rfl, Nat.le_of_ble_eq_true rfl⟩) hK hZ hG hS (hL.1 483 (by decide) (by decide)) (show gC 483 = (7, 24, 0) from rfl) (by decide) rfl rfl hl.1 (Nat.le_of_ble_eq_true rfl) dX7_runScript_68 ⟨Nat.zero_le _, Nat.zero_le _⟩ rfl rfl (fun H locs hG hS => ?_)
        refine lv_if_eq (tgt := 76) hx hb dX7_runScript_71 (by decide) (fun c_7 => absurd c_7 (by decide)) (fun c_7 => ?_)
        refine lv_iconst (v := 0) hx hb dX7_runScript_74 (by decide) ?_
        exact g_iret hx hb hrt hlocks hS hG rfl rfl dX7_runScript_75
    · --F
      refine lv_ldc2 hx hb hown k_4 dX7_runScript_16 ?_
      refine lv_goto (tgt := 36) hx hb dX7_runScript_19 (by decide) ?_
      refine W.eq (g2 := F0 m 36 ls [.long z0]) (by rw [hz0]; unfold fX7_z0; rw [if_neg c_1, if_pos c_2]) ?_
      refine lv_lstore (lv' := [(4, .long z0), (0, .ref (gad Γ 483)), (1, .int a), (2, .long sc)]) hx hb dX7_runScript_36 hl (by decide) rfl (fun ls hl => ?_)
      refine lv_aload_n hx hb dX7_runScript_38 rfl (lv_at hl 1 rfl) ?_
      refine lv_iload_n hx hb dX7_runScript_39 rfl (lv_at hl 2 rfl) ?_
      refine lv_i2l hx hb dX7_runScript_40 rfl ?_
      refine lv_lconst (v := 1) hx hb dX7_runScript_41 (by decide) ?_
      refine lv_ldc2 hx hb hown k_2 dX7_runScript_42 ?_
      refine g_callS (As := [.long a.toInt64, .long 1, .long 4]) (rest := [.ref (gad Γ 483)]) (st1 := [.int (fX7_in_v a.toInt64 1 4), .ref (gad Γ 483)]) hF (mX7_in _ R O a.toInt64 1 4) (va_cwS 3 hts gX7_runScript_X7_in rfl rfl rfl (by decide +kernel) ⟨Nat.le_of_ble_eq_true rfl, Nat.le_of_ble_eq_true rfl⟩) hK hZ hG hS rfl hl.1 (Nat.le_of_ble_eq_true rfl) dX7_runScript_45 ⟨Nat.zero_le _, Nat.zero_le _⟩ rfl rfl (fun H locs hG hS => ?_)
      refine lv_if_eq (tgt := 67) hx hb dX7_runScript_48 (by decide) (fun c_8 => ?_) (fun c_8 => absurd hp c_8)
      refine lv_iconst (v := 1) hx hb dX7_runScript_67 (by decide) ?_
      refine g_callV (As := [.int 1]) (rest := []) (st1 := [.int 1]) hF (mX7_refused_l M R O hL A T D N V I K B 1 1 (by decide)) (cwV 1 hts gX7_runScript_X7_refused rfl rfl rfl (by decide +kernel) ⟨Nat.le_of_ble_eq_true rfl, Nat.le_of_ble_eq_true rfl⟩) hK hZ hG hS (hL.1 483 (by decide) (by decide)) (show gC 483 = (7, 24, 0) from rfl) (by decide) rfl rfl hl.1 (Nat.le_of_ble_eq_true rfl) dX7_runScript_68 ⟨Nat.zero_le _, Nat.zero_le _⟩ rfl rfl (fun H locs hG hS => ?_)
      refine lv_if_eq (tgt := 76) hx hb dX7_runScript_71 (by decide) (fun c_9 => absurd c_9 (by decide)) (fun c_9 => ?_)
      refine lv_iconst (v := 0) hx hb dX7_runScript_74 (by decide) ?_
      exact g_iret hx hb hrt hlocks hS hG rfl rfl dX7_runScript_75
  · --F
    refine lv_ldc2 hx hb hown k_5 dX7_runScript_5 ?_
    refine lv_goto (tgt := 36) hx hb dX7_runScript_8 (by decide) ?_
    refine W.eq (g2 := F0 m 36 ls [.long z0]) (by rw [hz0]; unfold fX7_z0; rw [if_pos c_1]) ?_
    refine lv_lstore (lv' := [(4, .long z0), (0, .ref (gad Γ 483)), (1, .int a), (2, .long sc)]) hx hb dX7_runScript_36 hl (by decide) rfl (fun ls hl => ?_)
    refine lv_aload_n hx hb dX7_runScript_38 rfl (lv_at hl 1 rfl) ?_
    refine lv_iload_n hx hb dX7_runScript_39 rfl (lv_at hl 2 rfl) ?_
    refine lv_i2l hx hb dX7_runScript_40 rfl ?_
    refine lv_lconst (v := 1) hx hb dX7_runScript_41 (by decide) ?_
    refine lv_ldc2 hx hb hown k_2 dX7_runScript_42 ?_
    refine g_callS (As := [.long a.toInt64, .long 1, .long 4]) (rest := [.ref (gad Γ 483)]) (st1 := [.int (fX7_in_v a.toInt64 1 4), .ref (gad Γ 483)]) hF (mX7_in _ R O a.toInt64 1 4) (va_cwS 3 hts gX7_runScript_X7_in rfl rfl rfl (by decide +kernel) ⟨Nat.le_of_ble_eq_true rfl, Nat.le_of_ble_eq_true rfl⟩) hK hZ hG hS rfl hl.1 (Nat.le_of_ble_eq_true rfl) dX7_runScript_45 ⟨Nat.zero_le _, Nat.zero_le _⟩ rfl rfl (fun H locs hG hS => ?_)
    refine lv_if_eq (tgt := 67) hx hb dX7_runScript_48 (by decide) (fun c_10 => ?_) (fun c_10 => absurd hp c_10)
    refine lv_iconst (v := 1) hx hb dX7_runScript_67 (by decide) ?_
    refine g_callV (As := [.int 1]) (rest := []) (st1 := [.int 1]) hF (mX7_refused_l M R O hL A T D N V I K B 1 1 (by decide)) (cwV 1 hts gX7_runScript_X7_refused rfl rfl rfl (by decide +kernel) ⟨Nat.le_of_ble_eq_true rfl, Nat.le_of_ble_eq_true rfl⟩) hK hZ hG hS (hL.1 483 (by decide) (by decide)) (show gC 483 = (7, 24, 0) from rfl) (by decide) rfl rfl hl.1 (Nat.le_of_ble_eq_true rfl) dX7_runScript_68 ⟨Nat.zero_le _, Nat.zero_le _⟩ rfl rfl (fun H locs hG hS => ?_)
    refine lv_if_eq (tgt := 76) hx hb dX7_runScript_71 (by decide) (fun c_11 => absurd c_11 (by decide)) (fun c_11 => ?_)
    refine lv_iconst (v := 0) hx hb dX7_runScript_74 (by decide) ?_
    exact g_iret hx hb hrt hlocks hS hG rfl rfl dX7_runScript_75

set_option maxHeartbeats 4000000 in
set_option maxRecDepth 100000 in
theorem mX7_runScript_n2 {l : Launch} {Γ : gX} (M : Nat → Nat → Int32) (R : Nat → Nat → Option Nat) (O : Int64) (hL : LM Γ R) (A T D N V I K B : Nat → Int32) (a : Int32) (z0 sc : Int64) (hz0 : z0 = fX7_z0 a) (hN : WS N) (hp : ¬ fX7_in_v a.toInt64 1 4 = 0) (hq : fX7_in_v sc 0 (z0 - 1) = 0) : gMet l Γ yX7_runScript wsX7_runScript 1 25 [.ref (gad Γ 483), .int a, .long sc] (mS M A T D N V I K B) R O (some (.int 0)) (mS M (upd A 0 1) T D N V I K B) R O := by
  refine g_start (cc := cX7_runScript) (maxL := 10) (ret := (some .int)) (by decide) rfl (Nat.le_of_ble_eq_true rfl) ?_
  intro p e s m below meth c ls hx hb hml hrt hts hown hlocks hname hK hZ hG hS hl
  have hl : lv_has ls 10 [(0, .ref (gad Γ 483)), (1, .int a), (2, .long sc)] := hl
  have hown : s.vm.findClass RX7 = some m.cls := hown
  have hF : CallFix p m c cX7_runScript 10 s _ wsX7_runScript RX7 := ⟨hx, hb, hml, hown, hts⟩
  have k_1 : (Cond.constantLong RX7 205 (10000000000000000)).before _ s = true := hts _ (by decide +kernel)
  have k_2 : (Cond.constantLong RX7 153 (4)).before _ s = true := hts _ (by decide +kernel)
  have k_3 : (Cond.constantLong RX7 203 (1000000000000)).before _ s = true := hts _ (by decide +kernel)
  have k_4 : (Cond.constantLong RX7 201 (100000000)).before _ s = true := hts _ (by decide +kernel)
  have k_5 : (Cond.constantLong RX7 199 (10000)).before _ s = true := hts _ (by decide +kernel)
  refine lv_iload_n hx hb dX7_runScript_0 rfl (lv_at hl 1 rfl) ?_
  refine lv_iconst (v := 1) hx hb dX7_runScript_1 (by decide) ?_
  refine lv_icmp_ne (tgt := 11) hx hb dX7_runScript_2 (by decide) (fun c_1 => ?_) (fun c_1 => ?_)
  · --T
    refine lv_iload_n hx hb dX7_runScript_11 rfl (lv_at hl 1 rfl) ?_
    refine lv_iconst (v := 2) hx hb dX7_runScript_12 (by decide) ?_
    refine lv_icmp_ne (tgt := 22) hx hb dX7_runScript_13 (by decide) (fun c_2 => ?_) (fun c_2 => ?_)
    · --T
      refine lv_iload_n hx hb dX7_runScript_22 rfl (lv_at hl 1 rfl) ?_
      refine lv_iconst (v := 3) hx hb dX7_runScript_23 (by decide) ?_
      refine lv_icmp_ne (tgt := 33) hx hb dX7_runScript_24 (by decide) (fun c_3 => ?_) (fun c_3 => ?_)
      · --T
        refine lv_ldc2 hx hb hown k_1 dX7_runScript_33 ?_
        refine W.eq (g2 := F0 m 36 ls [.long z0]) (by rw [hz0]; unfold fX7_z0; rw [if_neg c_1, if_neg c_2, if_neg c_3]) ?_
        refine lv_lstore (lv' := [(4, .long z0), (0, .ref (gad Γ 483)), (1, .int a), (2, .long sc)]) hx hb dX7_runScript_36 hl (by decide) rfl (fun ls hl => ?_)
        refine lv_aload_n hx hb dX7_runScript_38 rfl (lv_at hl 1 rfl) ?_
        refine lv_iload_n hx hb dX7_runScript_39 rfl (lv_at hl 2 rfl) ?_
        refine lv_i2l hx hb dX7_runScript_40 rfl ?_
        refine lv_lconst (v := 1) hx hb dX7_runScript_41 (by decide) ?_
        refine lv_ldc2 hx hb hown k_2 dX7_runScript_42 ?_
        refine g_callS (As := [.long a.toInt64, .long 1, .long 4]) (rest := [.ref (gad Γ 483)]) (st1 := [.int (fX7_in_v a.toInt64 1 4), .ref (gad Γ 483)]) hF (mX7_in _ R O a.toInt64 1 4) (va_cwS 3 hts gX7_runScript_X7_in rfl rfl rfl (by decide +kernel) ⟨Nat.le_of_ble_eq_true rfl, Nat.le_of_ble_eq_true rfl⟩) hK hZ hG hS rfl hl.1 (Nat.le_of_ble_eq_true rfl) dX7_runScript_45 ⟨Nat.zero_le _, Nat.zero_le _⟩ rfl rfl (fun H locs hG hS => ?_)
        refine lv_if_eq (tgt := 67) hx hb dX7_runScript_48 (by decide) (fun c_4 => absurd c_4 hp) (fun c_4 => ?_)
        refine lv_lload_n hx hb dX7_runScript_51 rfl (lv_at hl 3 rfl) ?_
        refine lv_lconst (v := 0) hx hb dX7_runScript_52 (by decide) ?_
        refine lv_lload hx hb dX7_runScript_53 (lv_at hl 0 rfl) ?_
        refine lv_lconst (v := 1) hx hb dX7_runScript_55 (by decide) ?_
        refine lv_lsub hx hb dX7_runScript_56 ?_
        refine g_callS (As := [.long sc, .long 0, .long (z0 - 1)]) (rest := [.ref (gad Γ 483)]) (st1 := [.int (fX7_in_v sc 0 (z0 - 1)), .ref (gad Γ 483)]) hF (mX7_in _ R O sc 0 (z0 - 1)) (va_cwS 3 hts gX7_runScript_X7_in rfl rfl rfl (by decide +kernel) ⟨Nat.le_of_ble_eq_true rfl, Nat.le_of_ble_eq_true rfl⟩) hK hZ hG hS rfl hl.1 (Nat.le_of_ble_eq_true rfl) dX7_runScript_57 ⟨Nat.zero_le _, Nat.zero_le _⟩ rfl rfl (fun H locs hG hS => ?_)
        refine lv_if_eq (tgt := 67) hx hb dX7_runScript_60 (by decide) (fun c_5 => ?_) (fun c_5 => absurd hq c_5)
        refine lv_iconst (v := 1) hx hb dX7_runScript_67 (by decide) ?_
        refine g_callV (As := [.int 1]) (rest := []) (st1 := [.int 1]) hF (mX7_refused_l M R O hL A T D N V I K B 1 1 (by decide)) (cwV 1 hts gX7_runScript_X7_refused rfl rfl rfl (by decide +kernel) ⟨Nat.le_of_ble_eq_true rfl, Nat.le_of_ble_eq_true rfl⟩) hK hZ hG hS (hL.1 483 (by decide) (by decide)) (show gC 483 = (7, 24, 0) from rfl) (by decide) rfl rfl hl.1 (Nat.le_of_ble_eq_true rfl) dX7_runScript_68 ⟨Nat.zero_le _, Nat.zero_le _⟩ rfl rfl (fun H locs hG hS => ?_)
        refine lv_if_eq (tgt := 76) hx hb dX7_runScript_71 (by decide) (fun c_6 => absurd c_6 (by decide)) (fun c_6 => ?_)
        refine lv_iconst (v := 0) hx hb dX7_runScript_74 (by decide) ?_
        exact g_iret hx hb hrt hlocks hS hG rfl rfl dX7_runScript_75
      · --F
        refine lv_ldc2 hx hb hown k_3 dX7_runScript_27 ?_
        refine lv_goto (tgt := 36) hx hb dX7_runScript_30 (by decide) ?_
        refine W.eq (g2 := F0 m 36 ls [.long z0]) (by rw [hz0]; unfold fX7_z0; rw [if_neg c_1, if_neg c_2, if_pos c_3]) ?_
        refine lv_lstore (lv' := [(4, .long z0), (0, .ref (gad Γ 483)), (1, .int a), (2, .long sc)]) hx hb dX7_runScript_36 hl (by decide) rfl (fun ls hl => ?_)
        refine lv_aload_n hx hb dX7_runScript_38 rfl (lv_at hl 1 rfl) ?_
        refine lv_iload_n hx hb dX7_runScript_39 rfl (lv_at hl 2 rfl) ?_
        refine lv_i2l hx hb dX7_runScript_40 rfl ?_
        refine lv_lconst (v := 1) hx hb dX7_runScript_41 (by decide) ?_
        refine lv_ldc2 hx hb hown k_2 dX7_runScript_42 ?_
        refine g_callS (As := [.long a.toInt64, .long 1, .long 4]) (rest := [.ref (gad Γ 483)]) (st1 := [.int (fX7_in_v a.toInt64 1 4), .ref (gad Γ 483)]) hF (mX7_in _ R O a.toInt64 1 4) (va_cwS 3 hts gX7_runScript_X7_in rfl rfl rfl (by decide +kernel) ⟨Nat.le_of_ble_eq_true rfl, Nat.le_of_ble_eq_true rfl⟩) hK hZ hG hS rfl hl.1 (Nat.le_of_ble_eq_true rfl) dX7_runScript_45 ⟨Nat.zero_le _, Nat.zero_le _⟩ rfl rfl (fun H locs hG hS => ?_)
        refine lv_if_eq (tgt := 67) hx hb dX7_runScript_48 (by decide) (fun c_7 => absurd c_7 hp) (fun c_7 => ?_)
        refine lv_lload_n hx hb dX7_runScript_51 rfl (lv_at hl 3 rfl) ?_
        refine lv_lconst (v := 0) hx hb dX7_runScript_52 (by decide) ?_
        refine lv_lload hx hb dX7_runScript_53 (lv_at hl 0 rfl) ?_
        refine lv_lconst (v := 1) hx hb dX7_runScript_55 (by decide) ?_
        refine lv_lsub hx hb dX7_runScript_56 ?_
        refine g_callS (As := [.long sc, .long 0, .long (z0 - 1)]) (rest := [.ref (gad Γ 483)]) (st1 := [.int (fX7_in_v sc 0 (z0 - 1)), .ref (gad Γ 483)]) hF (mX7_in _ R O sc 0 (z0 - 1)) (va_cwS 3 hts gX7_runScript_X7_in rfl rfl rfl (by decide +kernel) ⟨Nat.le_of_ble_eq_true rfl, Nat.le_of_ble_eq_true rfl⟩) hK hZ hG hS rfl hl.1 (Nat.le_of_ble_eq_true rfl) dX7_runScript_57 ⟨Nat.zero_le _, Nat.zero_le _⟩ rfl rfl (fun H locs hG hS => ?_)
        refine lv_if_eq (tgt := 67) hx hb dX7_runScript_60 (by decide) (fun c_8 => ?_) (fun c_8 => absurd hq c_8)
        refine lv_iconst (v := 1) hx hb dX7_runScript_67 (by decide) ?_
        refine g_callV (As := [.int 1]) (rest := []) (st1 := [.int 1]) hF (mX7_refused_l M R O hL A T D N V I K B 1 1 (by decide)) (cwV 1 hts gX7_runScript_X7_refused rfl rfl rfl (by decide +kernel) ⟨Nat.le_of_ble_eq_true rfl, Nat.le_of_ble_eq_true rfl⟩) hK hZ hG hS (hL.1 483 (by decide) (by decide)) (show gC 483 = (7, 24, 0) from rfl) (by decide) rfl rfl hl.1 (Nat.le_of_ble_eq_true rfl) dX7_runScript_68 ⟨Nat.zero_le _, Nat.zero_le _⟩ rfl rfl (fun H locs hG hS => ?_)
        refine lv_if_eq (tgt := 76) hx hb dX7_runScript_71 (by decide) (fun c_9 => absurd c_9 (by decide)) (fun c_9 => ?_)
        refine lv_iconst (v := 0) hx hb dX7_runScript_74 (by decide) ?_
        exact g_iret hx hb hrt hlocks hS hG rfl rfl dX7_runScript_75
    · --F
      refine lv_ldc2 hx hb hown k_4 dX7_runScript_16 ?_
      refine lv_goto (tgt := 36) hx hb dX7_runScript_19 (by decide) ?_
      refine W.eq (g2 := F0 m 36 ls [.long z0]) (by rw [hz0]; unfold fX7_z0; rw [if_neg c_1, if_pos c_2]) ?_
      refine lv_lstore (lv' := [(4, .long z0), (0, .ref (gad Γ 483)), (1, .int a), (2, .long sc)]) hx hb dX7_runScript_36 hl (by decide) rfl (fun ls hl => ?_)
      refine lv_aload_n hx hb dX7_runScript_38 rfl (lv_at hl 1 rfl) ?_
      refine lv_iload_n hx hb dX7_runScript_39 rfl (lv_at hl 2 rfl) ?_
      refine lv_i2l hx hb dX7_runScript_40 rfl ?_
      refine lv_lconst (v := 1) hx hb dX7_runScript_41 (by decide) ?_
      refine lv_ldc2 hx hb hown k_2 dX7_runScript_42 ?_
      refine g_callS (As := [.long a.toInt64, .long 1, .long 4]) (rest := [.ref (gad Γ 483)]) (st1 := [.int (fX7_in_v a.toInt64 1 4), .ref (gad Γ 483)]) hF (mX7_in _ R O a.toInt64 1 4) (va_cwS 3 hts gX7_runScript_X7_in rfl rfl rfl (by decide +kernel) ⟨Nat.le_of_ble_eq_true rfl, Nat.le_of_ble_eq_true rfl⟩) hK hZ hG hS rfl hl.1 (Nat.le_of_ble_eq_true rfl) dX7_runScript_45 ⟨Nat.zero_le _, Nat.zero_le _⟩ rfl rfl (fun H locs hG hS => ?_)
      refine lv_if_eq (tgt := 67) hx hb dX7_runScript_48 (by decide) (fun c_10 => absurd c_10 hp) (fun c_10 => ?_)
      refine lv_lload_n hx hb dX7_runScript_51 rfl (lv_at hl 3 rfl) ?_
      refine lv_lconst (v := 0) hx hb dX7_runScript_52 (by decide) ?_
      refine lv_lload hx hb dX7_runScript_53 (lv_at hl 0 rfl) ?_
      refine lv_lconst (v := 1) hx hb dX7_runScript_55 (by decide) ?_
      refine lv_lsub hx hb dX7_runScript_56 ?_
      refine g_callS (As := [.long sc, .long 0, .long (z0 - 1)]) (rest := [.ref (gad Γ 483)]) (st1 := [.int (fX7_in_v sc 0 (z0 - 1)), .ref (gad Γ 483)]) hF (mX7_in _ R O sc 0 (z0 - 1)) (va_cwS 3 hts gX7_runScript_X7_in rfl rfl rfl (by decide +kernel) ⟨Nat.le_of_ble_eq_true rfl, Nat.le_of_ble_eq_true rfl⟩) hK hZ hG hS rfl hl.1 (Nat.le_of_ble_eq_true rfl) dX7_runScript_57 ⟨Nat.zero_le _, Nat.zero_le _⟩ rfl rfl (fun H locs hG hS => ?_)
      refine lv_if_eq (tgt := 67) hx hb dX7_runScript_60 (by decide) (fun c_11 => ?_) (fun c_11 => absurd hq c_11)
      refine lv_iconst (v := 1) hx hb dX7_runScript_67 (by decide) ?_
      refine g_callV (As := [.int 1]) (rest := []) (st1 := [.int 1]) hF (mX7_refused_l M R O hL A T D N V I K B 1 1 (by decide)) (cwV 1 hts gX7_runScript_X7_refused rfl rfl rfl (by decide +kernel) ⟨Nat.le_of_ble_eq_true rfl, Nat.le_of_ble_eq_true rfl⟩) hK hZ hG hS (hL.1 483 (by decide) (by decide)) (show gC 483 = (7, 24, 0) from rfl) (by decide) rfl rfl hl.1 (Nat.le_of_ble_eq_true rfl) dX7_runScript_68 ⟨Nat.zero_le _, Nat.zero_le _⟩ rfl rfl (fun H locs hG hS => ?_)
      refine lv_if_eq (tgt := 76) hx hb dX7_runScript_71 (by decide) (fun c_12 => absurd c_12 (by decide)) (fun c_12 => ?_)
      refine lv_iconst (v := 0) hx hb dX7_runScript_74 (by decide) ?_
      exact g_iret hx hb hrt hlocks hS hG rfl rfl dX7_runScript_75
  · --F
    refine lv_ldc2 hx hb hown k_5 dX7_runScript_5 ?_
    refine lv_goto (tgt := 36) hx hb dX7_runScript_8 (by decide) ?_
    refine W.eq (g2 := F0 m 36 ls [.long z0]) (by rw [hz0]; unfold fX7_z0; rw [if_pos c_1]) ?_
    refine lv_lstore (lv' := [(4, .long z0), (0, .ref (gad Γ 483)), (1, .int a), (2, .long sc)]) hx hb dX7_runScript_36 hl (by decide) rfl (fun ls hl => ?_)
    refine lv_aload_n hx hb dX7_runScript_38 rfl (lv_at hl 1 rfl) ?_
    refine lv_iload_n hx hb dX7_runScript_39 rfl (lv_at hl 2 rfl) ?_
    refine lv_i2l hx hb dX7_runScript_40 rfl ?_
    refine lv_lconst (v := 1) hx hb dX7_runScript_41 (by decide) ?_
    refine lv_ldc2 hx hb hown k_2 dX7_runScript_42 ?_
    refine g_callS (As := [.long a.toInt64, .long 1, .long 4]) (rest := [.ref (gad Γ 483)]) (st1 := [.int (fX7_in_v a.toInt64 1 4), .ref (gad Γ 483)]) hF (mX7_in _ R O a.toInt64 1 4) (va_cwS 3 hts gX7_runScript_X7_in rfl rfl rfl (by decide +kernel) ⟨Nat.le_of_ble_eq_true rfl, Nat.le_of_ble_eq_true rfl⟩) hK hZ hG hS rfl hl.1 (Nat.le_of_ble_eq_true rfl) dX7_runScript_45 ⟨Nat.zero_le _, Nat.zero_le _⟩ rfl rfl (fun H locs hG hS => ?_)
    refine lv_if_eq (tgt := 67) hx hb dX7_runScript_48 (by decide) (fun c_13 => absurd c_13 hp) (fun c_13 => ?_)
    refine lv_lload_n hx hb dX7_runScript_51 rfl (lv_at hl 3 rfl) ?_
    refine lv_lconst (v := 0) hx hb dX7_runScript_52 (by decide) ?_
    refine lv_lload hx hb dX7_runScript_53 (lv_at hl 0 rfl) ?_
    refine lv_lconst (v := 1) hx hb dX7_runScript_55 (by decide) ?_
    refine lv_lsub hx hb dX7_runScript_56 ?_
    refine g_callS (As := [.long sc, .long 0, .long (z0 - 1)]) (rest := [.ref (gad Γ 483)]) (st1 := [.int (fX7_in_v sc 0 (z0 - 1)), .ref (gad Γ 483)]) hF (mX7_in _ R O sc 0 (z0 - 1)) (va_cwS 3 hts gX7_runScript_X7_in rfl rfl rfl (by decide +kernel) ⟨Nat.le_of_ble_eq_true rfl, Nat.le_of_ble_eq_true rfl⟩) hK hZ hG hS rfl hl.1 (Nat.le_of_ble_eq_true rfl) dX7_runScript_57 ⟨Nat.zero_le _, Nat.zero_le _⟩ rfl rfl (fun H locs hG hS => ?_)
    refine lv_if_eq (tgt := 67) hx hb dX7_runScript_60 (by decide) (fun c_14 => ?_) (fun c_14 => absurd hq c_14)
    refine lv_iconst (v := 1) hx hb dX7_runScript_67 (by decide) ?_
    refine g_callV (As := [.int 1]) (rest := []) (st1 := [.int 1]) hF (mX7_refused_l M R O hL A T D N V I K B 1 1 (by decide)) (cwV 1 hts gX7_runScript_X7_refused rfl rfl rfl (by decide +kernel) ⟨Nat.le_of_ble_eq_true rfl, Nat.le_of_ble_eq_true rfl⟩) hK hZ hG hS (hL.1 483 (by decide) (by decide)) (show gC 483 = (7, 24, 0) from rfl) (by decide) rfl rfl hl.1 (Nat.le_of_ble_eq_true rfl) dX7_runScript_68 ⟨Nat.zero_le _, Nat.zero_le _⟩ rfl rfl (fun H locs hG hS => ?_)
    refine lv_if_eq (tgt := 76) hx hb dX7_runScript_71 (by decide) (fun c_15 => absurd c_15 (by decide)) (fun c_15 => ?_)
    refine lv_iconst (v := 0) hx hb dX7_runScript_74 (by decide) ?_
    exact g_iret hx hb hrt hlocks hS hG rfl rfl dX7_runScript_75

def fX7_run_S (z0 sc : Int64) (Pk : Nat → Int32) (k : Nat) : Nat → Int32 := fX7_dos Pk ((fX7_grp z0 sc k) / 1000) (remI ((fX7_grp z0 sc k) / 100) 10) (remI (fX7_grp z0 sc k) 100)
def fX7_run_L (z0 sc : Int64) (P : Nat → Int32) : Nat → Nat → Int32
  | 0 => P
  | k + 1 => fX7_run_S z0 sc (fX7_run_L z0 sc P k) k
def fX7_run_C (z0 sc : Int64) (Pk : Nat → Int32) (k : Nat) : Prop := (fX7_dov Pk ((fX7_grp z0 sc k) / 1000) (remI ((fX7_grp z0 sc k) / 100) 10) (remI (fX7_grp z0 sc k) 100)) = 0
theorem fX7_run_WS {P : Nat → Int32} (z0 sc : Int64) (hW : WS P) : ∀ k, WS (fX7_run_L z0 sc P k)
  | 0 => hW
  | k + 1 => by
    have h := fX7_run_WS z0 sc hW k
    show WS (fX7_run_S z0 sc (fX7_run_L z0 sc P k) k)
    unfold fX7_run_S
    exact WS_does h _ _ _
set_option maxHeartbeats 4000000 in
set_option maxRecDepth 100000 in
theorem mX7_runScript_y {l : Launch} {Γ : gX} (M : Nat → Nat → Int32) (R : Nat → Nat → Option Nat) (O : Int64) (hL : LM Γ R) (A T D N V I K B : Nat → Int32) (a : Int32) (z0 sc : Int64) (hz0 : z0 = fX7_z0 a) (hN : WS N) (hz : ∀ k, k < a.toNatClampNeg → fX7_all z0 (k + 1) ≠ 0) (hp : ¬ fX7_in_v a.toInt64 1 4 = 0) (hq : ¬ fX7_in_v sc 0 (z0 - 1) = 0) (kx : Nat) (hxN : kx ≤ a.toNatClampNeg) (hno : ∀ j, j < kx → ¬ fX7_run_C z0 sc (fX7_run_L z0 sc (fX7_copyPage_P N V 0 0) j) j) (hyes : kx < a.toNatClampNeg → fX7_run_C z0 sc (fX7_run_L z0 sc (fX7_copyPage_P N V 0 0) kx) kx) : gMet l Γ yX7_runScript wsX7_runScript 6 137 [.ref (gad Γ 483), .int a, .long sc] (mS M A T D N V I K B) R O (some (.int (if kx < a.toNatClampNeg then nI kx else -9))) (mS M (upd A 0 0) T D N (fX7_run_L z0 sc (fX7_copyPage_P N V 0 0) (if kx < a.toNatClampNeg then kx + 1 else a.toNatClampNeg)) I K B) R O := by
  refine g_start (cc := cX7_runScript) (maxL := 10) (ret := (some .int)) (by decide) rfl (Nat.le_of_ble_eq_true rfl) ?_
  intro p e s m below meth c ls hx hb hml hrt hts hown hlocks hname hK hZ hG hS hl
  have hl : lv_has ls 10 [(0, .ref (gad Γ 483)), (1, .int a), (2, .long sc)] := hl
  have hown : s.vm.findClass RX7 = some m.cls := hown
  have hF : CallFix p m c cX7_runScript 10 s _ wsX7_runScript RX7 := ⟨hx, hb, hml, hown, hts⟩
  have k_1 : (Cond.constantLong RX7 205 (10000000000000000)).before _ s = true := hts _ (by decide +kernel)
  have k_2 : (Cond.constantLong RX7 153 (4)).before _ s = true := hts _ (by decide +kernel)
  have k_3 : (Cond.fieldLink RX7 16 "RoadDustModel" "now" "[I").before _ s = true := hts _ (by decide +kernel)
  have in_X7 : ∀ w ∈ wsX70, w ∈ wsX7_runScript := by decide +kernel
  have k_5 : (Cond.fieldLink RX7 19 "RoadDustModel" "trial" "[I").before _ s = true := hts _ (by decide +kernel)
  have k_6 : (Cond.constantLong RX7 199 (10000)).before _ s = true := hts _ (by decide +kernel)
  have k_7 : (Cond.constantLong RX7 203 (1000000000000)).before _ s = true := hts _ (by decide +kernel)
  have k_8 : (Cond.constantLong RX7 201 (100000000)).before _ s = true := hts _ (by decide +kernel)
  refine lv_iload_n hx hb dX7_runScript_0 rfl (lv_at hl 1 rfl) ?_
  refine lv_iconst (v := 1) hx hb dX7_runScript_1 (by decide) ?_
  refine lv_icmp_ne (tgt := 11) hx hb dX7_runScript_2 (by decide) (fun c_1 => ?_) (fun c_1 => ?_)
  · --T
    refine lv_iload_n hx hb dX7_runScript_11 rfl (lv_at hl 1 rfl) ?_
    refine lv_iconst (v := 2) hx hb dX7_runScript_12 (by decide) ?_
    refine lv_icmp_ne (tgt := 22) hx hb dX7_runScript_13 (by decide) (fun c_2 => ?_) (fun c_2 => ?_)
    · --T
      refine lv_iload_n hx hb dX7_runScript_22 rfl (lv_at hl 1 rfl) ?_
      refine lv_iconst (v := 3) hx hb dX7_runScript_23 (by decide) ?_
      refine lv_icmp_ne (tgt := 33) hx hb dX7_runScript_24 (by decide) (fun c_3 => ?_) (fun c_3 => ?_)
      · --T
        refine lv_ldc2 hx hb hown k_1 dX7_runScript_33 ?_
        refine W.eq (g2 := F0 m 36 ls [.long z0]) (by rw [hz0]; unfold fX7_z0; rw [if_neg c_1, if_neg c_2, if_neg c_3]) ?_
        refine lv_lstore (lv' := [(4, .long z0), (0, .ref (gad Γ 483)), (1, .int a), (2, .long sc)]) hx hb dX7_runScript_36 hl (by decide) rfl (fun ls hl => ?_)
        refine lv_aload_n hx hb dX7_runScript_38 rfl (lv_at hl 1 rfl) ?_
        refine lv_iload_n hx hb dX7_runScript_39 rfl (lv_at hl 2 rfl) ?_
        refine lv_i2l hx hb dX7_runScript_40 rfl ?_
        refine lv_lconst (v := 1) hx hb dX7_runScript_41 (by decide) ?_
        refine lv_ldc2 hx hb hown k_2 dX7_runScript_42 ?_
        refine g_callS (As := [.long a.toInt64, .long 1, .long 4]) (rest := [.ref (gad Γ 483)]) (st1 := [.int (fX7_in_v a.toInt64 1 4), .ref (gad Γ 483)]) hF (mX7_in _ R O a.toInt64 1 4) (va_cwS 3 hts gX7_runScript_X7_in rfl rfl rfl (by decide +kernel) ⟨Nat.le_of_ble_eq_true rfl, Nat.le_of_ble_eq_true rfl⟩) hK hZ hG hS rfl hl.1 (Nat.le_of_ble_eq_true rfl) dX7_runScript_45 ⟨Nat.zero_le _, Nat.zero_le _⟩ rfl rfl (fun H locs hG hS => ?_)
        refine lv_if_eq (tgt := 67) hx hb dX7_runScript_48 (by decide) (fun c_4 => absurd c_4 hp) (fun c_4 => ?_)
        refine lv_lload_n hx hb dX7_runScript_51 rfl (lv_at hl 3 rfl) ?_
        refine lv_lconst (v := 0) hx hb dX7_runScript_52 (by decide) ?_
        refine lv_lload hx hb dX7_runScript_53 (lv_at hl 0 rfl) ?_
        refine lv_lconst (v := 1) hx hb dX7_runScript_55 (by decide) ?_
        refine lv_lsub hx hb dX7_runScript_56 ?_
        refine g_callS (As := [.long sc, .long 0, .long (z0 - 1)]) (rest := [.ref (gad Γ 483)]) (st1 := [.int (fX7_in_v sc 0 (z0 - 1)), .ref (gad Γ 483)]) hF (mX7_in _ R O sc 0 (z0 - 1)) (va_cwS 3 hts gX7_runScript_X7_in rfl rfl rfl (by decide +kernel) ⟨Nat.le_of_ble_eq_true rfl, Nat.le_of_ble_eq_true rfl⟩) hK hZ hG hS rfl hl.1 (Nat.le_of_ble_eq_true rfl) dX7_runScript_57 ⟨Nat.zero_le _, Nat.zero_le _⟩ rfl rfl (fun H locs hG hS => ?_)
        refine lv_if_eq (tgt := 67) hx hb dX7_runScript_60 (by decide) (fun c_5 => absurd c_5 hq) (fun c_5 => ?_)
        refine lv_iconst (v := 0) hx hb dX7_runScript_63 (by decide) ?_
        refine lv_goto (tgt := 68) hx hb dX7_runScript_64 (by decide) ?_
        refine g_callV (As := [.int 0]) (rest := []) (st1 := [.int 0]) hF (mX7_refused_l M R O hL A T D N V I K B 0 0 (by decide)) (cwV 1 hts gX7_runScript_X7_refused rfl rfl rfl (by decide +kernel) ⟨Nat.le_of_ble_eq_true rfl, Nat.le_of_ble_eq_true rfl⟩) hK hZ hG hS (hL.1 483 (by decide) (by decide)) (show gC 483 = (7, 24, 0) from rfl) (by decide) rfl rfl hl.1 (Nat.le_of_ble_eq_true rfl) dX7_runScript_68 ⟨Nat.zero_le _, Nat.zero_le _⟩ rfl rfl (fun H locs hG hS => ?_)
        refine lv_if_eq (tgt := 76) hx hb dX7_runScript_71 (by decide) (fun c_6 => ?_) (fun c_6 => absurd (by decide) c_6)
        refine lv_aload_n hx hb dX7_runScript_76 rfl (lv_at hl 1 rfl) ?_
        refine gM_getr hx hb hts in_X7 hown hK hL hG 5 (by decide) rfl hL.2.2.2.1 k_3 (fun _ h => h) dX7_runScript_77 ?_
        refine lv_iconst (v := 0) hx hb dX7_runScript_80 (by decide) ?_
        refine lv_aload_n hx hb dX7_runScript_81 rfl (lv_at hl 1 rfl) ?_
        refine gM_getr hx hb hts in_X7 hown hK hL hG 6 (by decide) rfl hL.2.2.2.2.1 k_5 (fun _ h => h) dX7_runScript_82 ?_
        refine lv_iconst (v := 0) hx hb dX7_runScript_85 (by decide) ?_
        refine g_callS (As := [.ref (gad Γ 486), .int 0, .ref (gad Γ 487), .int 0]) (rest := []) (st1 := []) hF (mX7_copyPage_q (mS M (upd A 0 0) T D N V I K B) R O (hL.1 486 (by decide) (by decide)) (show gC 486 = (9, 27, 0) from rfl) (show gLen 486 = 131 from rfl) (hL.1 487 (by decide) (by decide)) (show gC 487 = (9, 28, 0) from rfl) (show gLen 487 = 131 from rfl) (by decide) 0 0 rfl rfl (by omega) (by omega) (by decide) (by decide) V _ (mS_b27 _ _ _ _ _ _ _ _ _)) (va_cwS 4 hts gX7_runScript_X7_copyPage rfl rfl rfl (by decide +kernel) ⟨Nat.le_of_ble_eq_true rfl, Nat.le_of_ble_eq_true rfl⟩) hK hZ (g_st (show _ = va_up (mS M (upd A 0 0) T D N V I K B) 28 V from (mS_u28 _ _ _ _ _ _ _ _ _ _).symm) hG) hS rfl hl.1 (Nat.le_of_ble_eq_true rfl) dX7_runScript_86 ⟨Nat.zero_le _, Nat.zero_le _⟩ rfl rfl (fun H locs hG hS => ?_)
        replace hG : GH Γ (mS M (upd A 0 0) T D N (fX7_copyPage_P N V 0 0) I K B) R O H := g_st (mS_u28 _ _ _ _ _ _ _ _ _ _) hG
        refine lv_lload_n hx hb dX7_runScript_89 rfl (lv_at hl 3 rfl) ?_
        refine lv_lstore (lv' := [(6, .long sc), (4, .long z0), (0, .ref (gad Γ 483)), (1, .int a), (2, .long sc)]) hx hb dX7_runScript_90 hl (by decide) rfl (fun ls hl => ?_)
        refine lv_iconst (v := 0) hx hb dX7_runScript_92 (by decide) ?_
        refine lv_istore (lv' := [(8, .int 0), (6, .long sc), (4, .long z0), (0, .ref (gad Γ 483)), (1, .int a), (2, .long sc)]) hx hb dX7_runScript_93 hl (by decide) rfl (fun ls hl => ?_)
        refine g_loop (N := a.toNatClampNeg) (fun k H locs ls => k ≤ kx ∧ GH Γ (mS M (upd A 0 0) T D N (fX7_run_L z0 sc (fX7_copyPage_P N V 0 0) k) I K B) R O H ∧ va_S (gA Γ) s.heap H locs ∧ lv_has ls 10 [(0, .ref (gad Γ 483)), (1, .int a), (4, .long (fX7_all z0 k)), (6, .long (fX7_left z0 sc k)), (8, .int (nI k))]) ?_ ?_ 0 (Nat.zero_le _) _ _ _ ⟨Nat.zero_le _, hG, hS, lv_sub hl [3, 4, 2, 1, 0] rfl⟩
        · rintro H locs ls ⟨hle_x, hG, hS, hl⟩
          have ex : kx = a.toNatClampNeg := Nat.le_antisymm hxN hle_x
          refine lv_iload hx hb dX7_runScript_95 (lv_at hl 4 rfl) ?_
          refine lv_iload_n hx hb dX7_runScript_97 rfl (lv_at hl 1 rfl) ?_
          refine lv_icmp_ge (tgt := 159) hx hb dX7_runScript_98 (by decide) (fun c_7 => ?_) (fun c_7 => absurd (cl_le _) c_7)
          refine lv_bipush (v := (-9)) hx hb dX7_runScript_159 (by decide) ?_
          exact g_iret hx hb hrt hlocks hS hG (by rw [if_neg (by omega)]) (mS_c rfl rfl rfl rfl (by rw [if_neg (by omega)]) rfl rfl rfl) dX7_runScript_161
        · rintro k hk_k ih_k H locs ls ⟨hle_k, hG, hS, hl⟩
          refine lv_iload hx hb dX7_runScript_95 (lv_at hl 4 rfl) ?_
          refine lv_iload_n hx hb dX7_runScript_97 rfl (lv_at hl 1 rfl) ?_
          refine lv_icmp_ge (tgt := 159) hx hb dX7_runScript_98 (by decide) (fun c_8 => absurd c_8 (cl_ge hk_k)) (fun c_8 => ?_)
          refine lv_lload hx hb dX7_runScript_101 (lv_at hl 2 rfl) ?_
          refine lv_ldc2 hx hb hown k_6 dX7_runScript_103 ?_
          refine lv_ldiv hx hb dX7_runScript_106 (by decide) ?_
          refine lv_lstore (lv' := [(4, .long ((fX7_all z0 k) / 10000)), (0, .ref (gad Γ 483)), (1, .int a), (6, .long (fX7_left z0 sc k)), (8, .int (nI k))]) hx hb dX7_runScript_107 hl (by decide) rfl (fun ls hl => ?_)
          refine lv_lload hx hb dX7_runScript_109 (lv_at hl 3 rfl) ?_
          refine lv_lload hx hb dX7_runScript_111 (lv_at hl 0 rfl) ?_
          refine lv_ldiv hx hb dX7_runScript_113 (hz k hk_k) ?_
          refine lv_l2i hx hb dX7_runScript_114 rfl ?_
          refine lv_istore (lv' := [(9, .int (fX7_grp z0 sc k)), (4, .long ((fX7_all z0 k) / 10000)), (0, .ref (gad Γ 483)), (1, .int a), (6, .long (fX7_left z0 sc k)), (8, .int (nI k))]) hx hb dX7_runScript_115 hl (by decide) rfl (fun ls hl => ?_)
          refine lv_lload hx hb dX7_runScript_117 (lv_at hl 4 rfl) ?_
          refine lv_lload hx hb dX7_runScript_119 (lv_at hl 1 rfl) ?_
          refine lv_lrem hx hb dX7_runScript_121 (hz k hk_k) ?_
          refine lv_lstore (lv' := [(6, .long (remL (fX7_left z0 sc k) ((fX7_all z0 k) / 10000))), (9, .int (fX7_grp z0 sc k)), (4, .long ((fX7_all z0 k) / 10000)), (0, .ref (gad Γ 483)), (1, .int a), (8, .int (nI k))]) hx hb dX7_runScript_122 hl (by decide) rfl (fun ls hl => ?_)
          refine lv_aload_n hx hb dX7_runScript_124 rfl (lv_at hl 3 rfl) ?_
          refine lv_iload hx hb dX7_runScript_125 (lv_at hl 1 rfl) ?_
          refine lv_sipush (v := 1000) hx hb dX7_runScript_127 (by decide) ?_
          refine lv_idiv hx hb dX7_runScript_130 (by decide) ?_
          refine lv_iload hx hb dX7_runScript_131 (lv_at hl 1 rfl) ?_
          refine lv_bipush (v := 100) hx hb dX7_runScript_133 (by decide) ?_
          refine lv_idiv hx hb dX7_runScript_135 (by decide) ?_
          refine lv_bipush (v := 10) hx hb dX7_runScript_136 (by decide) ?_
          refine lv_irem hx hb dX7_runScript_138 (by decide) ?_
          refine lv_iload hx hb dX7_runScript_139 (lv_at hl 1 rfl) ?_
          refine lv_bipush (v := 100) hx hb dX7_runScript_141 (by decide) ?_
          refine lv_irem hx hb dX7_runScript_143 (by decide) ?_
          refine g_callV (As := [.int ((fX7_grp z0 sc k) / 1000), .int (remI ((fX7_grp z0 sc k) / 100) 10), .int (remI (fX7_grp z0 sc k) 100)]) (rest := []) (st1 := [.int (fX7_dov (fX7_run_L z0 sc (fX7_copyPage_P N V 0 0) k) ((fX7_grp z0 sc k) / 1000) (remI ((fX7_grp z0 sc k) / 100) 10) (remI (fX7_grp z0 sc k) 100))]) hF (mX7_does M R O hL (upd A 0 0) T D N (fX7_run_L z0 sc (fX7_copyPage_P N V 0 0) k) I K B ((fX7_grp z0 sc k) / 1000) (remI ((fX7_grp z0 sc k) / 100) 10) (remI (fX7_grp z0 sc k) 100) (fX7_run_WS z0 sc (WS_cp hN) k)) (cwV 3 hts gX7_runScript_X7_does rfl rfl rfl (by decide +kernel) ⟨Nat.le_of_ble_eq_true rfl, Nat.le_of_ble_eq_true rfl⟩) hK hZ hG hS (hL.1 483 (by decide) (by decide)) (show gC 483 = (7, 24, 0) from rfl) (by decide) rfl rfl hl.1 (Nat.le_of_ble_eq_true rfl) dX7_runScript_144 ⟨Nat.zero_le _, Nat.zero_le _⟩ rfl rfl (fun H locs hG hS => ?_)
          replace hG : GH Γ (mS M (upd A 0 0) T D N (fX7_dos (fX7_run_L z0 sc (fX7_copyPage_P N V 0 0) k) ((fX7_grp z0 sc k) / 1000) (remI ((fX7_grp z0 sc k) / 100) 10) (remI (fX7_grp z0 sc k) 100)) I K B) R O H := hG
          refine lv_if_ne (tgt := 153) hx hb dX7_runScript_147 (by decide) (fun c_9 => ?_) (fun c_9 => ?_)
          · --T
            refine lv_iinc (v := nI (k + 1)) (lv' := [(8, .int (nI (k + 1))), (6, .long (remL (fX7_left z0 sc k) ((fX7_all z0 k) / 10000))), (9, .int (fX7_grp z0 sc k)), (4, .long ((fX7_all z0 k) / 10000)), (0, .ref (gad Γ 483)), (1, .int a)]) hx hb dX7_runScript_153 hl (k := 5) rfl (nI_1 _) (by decide) rfl (fun ls hl => ?_)
            refine lv_goto (tgt := 95) hx hb dX7_runScript_156 (by decide) ?_
            exact ih_k _ _ _ ⟨Nat.lt_of_le_of_ne hle_k (fun e => by subst e; exact absurd (hyes hk_k) c_9), hG, hS, lv_sub hl [4, 5, 3, 1, 0] rfl⟩
          · --F
            have ex : k = kx := Nat.le_antisymm hle_k (Nat.le_of_not_lt (fun q => hno _ q c_9))
            subst ex
            refine lv_iload hx hb dX7_runScript_150 (lv_at hl 5 rfl) ?_
            exact g_iret hx hb hrt hlocks hS hG (by rw [if_pos hk_k]) (mS_c rfl rfl rfl rfl (by rw [if_pos hk_k] <;> rfl) rfl rfl rfl) dX7_runScript_152
      · --F
        refine lv_ldc2 hx hb hown k_7 dX7_runScript_27 ?_
        refine lv_goto (tgt := 36) hx hb dX7_runScript_30 (by decide) ?_
        refine W.eq (g2 := F0 m 36 ls [.long z0]) (by rw [hz0]; unfold fX7_z0; rw [if_neg c_1, if_neg c_2, if_pos c_3]) ?_
        refine lv_lstore (lv' := [(4, .long z0), (0, .ref (gad Γ 483)), (1, .int a), (2, .long sc)]) hx hb dX7_runScript_36 hl (by decide) rfl (fun ls hl => ?_)
        refine lv_aload_n hx hb dX7_runScript_38 rfl (lv_at hl 1 rfl) ?_
        refine lv_iload_n hx hb dX7_runScript_39 rfl (lv_at hl 2 rfl) ?_
        refine lv_i2l hx hb dX7_runScript_40 rfl ?_
        refine lv_lconst (v := 1) hx hb dX7_runScript_41 (by decide) ?_
        refine lv_ldc2 hx hb hown k_2 dX7_runScript_42 ?_
        refine g_callS (As := [.long a.toInt64, .long 1, .long 4]) (rest := [.ref (gad Γ 483)]) (st1 := [.int (fX7_in_v a.toInt64 1 4), .ref (gad Γ 483)]) hF (mX7_in _ R O a.toInt64 1 4) (va_cwS 3 hts gX7_runScript_X7_in rfl rfl rfl (by decide +kernel) ⟨Nat.le_of_ble_eq_true rfl, Nat.le_of_ble_eq_true rfl⟩) hK hZ hG hS rfl hl.1 (Nat.le_of_ble_eq_true rfl) dX7_runScript_45 ⟨Nat.zero_le _, Nat.zero_le _⟩ rfl rfl (fun H locs hG hS => ?_)
        refine lv_if_eq (tgt := 67) hx hb dX7_runScript_48 (by decide) (fun c_10 => absurd c_10 hp) (fun c_10 => ?_)
        refine lv_lload_n hx hb dX7_runScript_51 rfl (lv_at hl 3 rfl) ?_
        refine lv_lconst (v := 0) hx hb dX7_runScript_52 (by decide) ?_
        refine lv_lload hx hb dX7_runScript_53 (lv_at hl 0 rfl) ?_
        refine lv_lconst (v := 1) hx hb dX7_runScript_55 (by decide) ?_
        refine lv_lsub hx hb dX7_runScript_56 ?_
        refine g_callS (As := [.long sc, .long 0, .long (z0 - 1)]) (rest := [.ref (gad Γ 483)]) (st1 := [.int (fX7_in_v sc 0 (z0 - 1)), .ref (gad Γ 483)]) hF (mX7_in _ R O sc 0 (z0 - 1)) (va_cwS 3 hts gX7_runScript_X7_in rfl rfl rfl (by decide +kernel) ⟨Nat.le_of_ble_eq_true rfl, Nat.le_of_ble_eq_true rfl⟩) hK hZ hG hS rfl hl.1 (Nat.le_of_ble_eq_true rfl) dX7_runScript_57 ⟨Nat.zero_le _, Nat.zero_le _⟩ rfl rfl (fun H locs hG hS => ?_)
        refine lv_if_eq (tgt := 67) hx hb dX7_runScript_60 (by decide) (fun c_11 => absurd c_11 hq) (fun c_11 => ?_)
        refine lv_iconst (v := 0) hx hb dX7_runScript_63 (by decide) ?_
        refine lv_goto (tgt := 68) hx hb dX7_runScript_64 (by decide) ?_
        refine g_callV (As := [.int 0]) (rest := []) (st1 := [.int 0]) hF (mX7_refused_l M R O hL A T D N V I K B 0 0 (by decide)) (cwV 1 hts gX7_runScript_X7_refused rfl rfl rfl (by decide +kernel) ⟨Nat.le_of_ble_eq_true rfl, Nat.le_of_ble_eq_true rfl⟩) hK hZ hG hS (hL.1 483 (by decide) (by decide)) (show gC 483 = (7, 24, 0) from rfl) (by decide) rfl rfl hl.1 (Nat.le_of_ble_eq_true rfl) dX7_runScript_68 ⟨Nat.zero_le _, Nat.zero_le _⟩ rfl rfl (fun H locs hG hS => ?_)
        refine lv_if_eq (tgt := 76) hx hb dX7_runScript_71 (by decide) (fun c_12 => ?_) (fun c_12 => absurd (by decide) c_12)
        refine lv_aload_n hx hb dX7_runScript_76 rfl (lv_at hl 1 rfl) ?_
        refine gM_getr hx hb hts in_X7 hown hK hL hG 5 (by decide) rfl hL.2.2.2.1 k_3 (fun _ h => h) dX7_runScript_77 ?_
        refine lv_iconst (v := 0) hx hb dX7_runScript_80 (by decide) ?_
        refine lv_aload_n hx hb dX7_runScript_81 rfl (lv_at hl 1 rfl) ?_
        refine gM_getr hx hb hts in_X7 hown hK hL hG 6 (by decide) rfl hL.2.2.2.2.1 k_5 (fun _ h => h) dX7_runScript_82 ?_
        refine lv_iconst (v := 0) hx hb dX7_runScript_85 (by decide) ?_
        refine g_callS (As := [.ref (gad Γ 486), .int 0, .ref (gad Γ 487), .int 0]) (rest := []) (st1 := []) hF (mX7_copyPage_q (mS M (upd A 0 0) T D N V I K B) R O (hL.1 486 (by decide) (by decide)) (show gC 486 = (9, 27, 0) from rfl) (show gLen 486 = 131 from rfl) (hL.1 487 (by decide) (by decide)) (show gC 487 = (9, 28, 0) from rfl) (show gLen 487 = 131 from rfl) (by decide) 0 0 rfl rfl (by omega) (by omega) (by decide) (by decide) V _ (mS_b27 _ _ _ _ _ _ _ _ _)) (va_cwS 4 hts gX7_runScript_X7_copyPage rfl rfl rfl (by decide +kernel) ⟨Nat.le_of_ble_eq_true rfl, Nat.le_of_ble_eq_true rfl⟩) hK hZ (g_st (show _ = va_up (mS M (upd A 0 0) T D N V I K B) 28 V from (mS_u28 _ _ _ _ _ _ _ _ _ _).symm) hG) hS rfl hl.1 (Nat.le_of_ble_eq_true rfl) dX7_runScript_86 ⟨Nat.zero_le _, Nat.zero_le _⟩ rfl rfl (fun H locs hG hS => ?_)
        replace hG : GH Γ (mS M (upd A 0 0) T D N (fX7_copyPage_P N V 0 0) I K B) R O H := g_st (mS_u28 _ _ _ _ _ _ _ _ _ _) hG
        refine lv_lload_n hx hb dX7_runScript_89 rfl (lv_at hl 3 rfl) ?_
        refine lv_lstore (lv' := [(6, .long sc), (4, .long z0), (0, .ref (gad Γ 483)), (1, .int a), (2, .long sc)]) hx hb dX7_runScript_90 hl (by decide) rfl (fun ls hl => ?_)
        refine lv_iconst (v := 0) hx hb dX7_runScript_92 (by decide) ?_
        refine lv_istore (lv' := [(8, .int 0), (6, .long sc), (4, .long z0), (0, .ref (gad Γ 483)), (1, .int a), (2, .long sc)]) hx hb dX7_runScript_93 hl (by decide) rfl (fun ls hl => ?_)
        refine g_loop (N := a.toNatClampNeg) (fun k H locs ls => k ≤ kx ∧ GH Γ (mS M (upd A 0 0) T D N (fX7_run_L z0 sc (fX7_copyPage_P N V 0 0) k) I K B) R O H ∧ va_S (gA Γ) s.heap H locs ∧ lv_has ls 10 [(0, .ref (gad Γ 483)), (1, .int a), (4, .long (fX7_all z0 k)), (6, .long (fX7_left z0 sc k)), (8, .int (nI k))]) ?_ ?_ 0 (Nat.zero_le _) _ _ _ ⟨Nat.zero_le _, hG, hS, lv_sub hl [3, 4, 2, 1, 0] rfl⟩
        · rintro H locs ls ⟨hle_x, hG, hS, hl⟩
          have ex : kx = a.toNatClampNeg := Nat.le_antisymm hxN hle_x
          refine lv_iload hx hb dX7_runScript_95 (lv_at hl 4 rfl) ?_
          refine lv_iload_n hx hb dX7_runScript_97 rfl (lv_at hl 1 rfl) ?_
          refine lv_icmp_ge (tgt := 159) hx hb dX7_runScript_98 (by decide) (fun c_13 => ?_) (fun c_13 => absurd (cl_le _) c_13)
          refine lv_bipush (v := (-9)) hx hb dX7_runScript_159 (by decide) ?_
          exact g_iret hx hb hrt hlocks hS hG (by rw [if_neg (by omega)]) (mS_c rfl rfl rfl rfl (by rw [if_neg (by omega)]) rfl rfl rfl) dX7_runScript_161
        · rintro k hk_k ih_k H locs ls ⟨hle_k, hG, hS, hl⟩
          refine lv_iload hx hb dX7_runScript_95 (lv_at hl 4 rfl) ?_
          refine lv_iload_n hx hb dX7_runScript_97 rfl (lv_at hl 1 rfl) ?_
          refine lv_icmp_ge (tgt := 159) hx hb dX7_runScript_98 (by decide) (fun c_14 => absurd c_14 (cl_ge hk_k)) (fun c_14 => ?_)
          refine lv_lload hx hb dX7_runScript_101 (lv_at hl 2 rfl) ?_
          refine lv_ldc2 hx hb hown k_6 dX7_runScript_103 ?_
          refine lv_ldiv hx hb dX7_runScript_106 (by decide) ?_
          refine lv_lstore (lv' := [(4, .long ((fX7_all z0 k) / 10000)), (0, .ref (gad Γ 483)), (1, .int a), (6, .long (fX7_left z0 sc k)), (8, .int (nI k))]) hx hb dX7_runScript_107 hl (by decide) rfl (fun ls hl => ?_)
          refine lv_lload hx hb dX7_runScript_109 (lv_at hl 3 rfl) ?_
          refine lv_lload hx hb dX7_runScript_111 (lv_at hl 0 rfl) ?_
          refine lv_ldiv hx hb dX7_runScript_113 (hz k hk_k) ?_
          refine lv_l2i hx hb dX7_runScript_114 rfl ?_
          refine lv_istore (lv' := [(9, .int (fX7_grp z0 sc k)), (4, .long ((fX7_all z0 k) / 10000)), (0, .ref (gad Γ 483)), (1, .int a), (6, .long (fX7_left z0 sc k)), (8, .int (nI k))]) hx hb dX7_runScript_115 hl (by decide) rfl (fun ls hl => ?_)
          refine lv_lload hx hb dX7_runScript_117 (lv_at hl 4 rfl) ?_
          refine lv_lload hx hb dX7_runScript_119 (lv_at hl 1 rfl) ?_
          refine lv_lrem hx hb dX7_runScript_121 (hz k hk_k) ?_
          refine lv_lstore (lv' := [(6, .long (remL (fX7_left z0 sc k) ((fX7_all z0 k) / 10000))), (9, .int (fX7_grp z0 sc k)), (4, .long ((fX7_all z0 k) / 10000)), (0, .ref (gad Γ 483)), (1, .int a), (8, .int (nI k))]) hx hb dX7_runScript_122 hl (by decide) rfl (fun ls hl => ?_)
          refine lv_aload_n hx hb dX7_runScript_124 rfl (lv_at hl 3 rfl) ?_
          refine lv_iload hx hb dX7_runScript_125 (lv_at hl 1 rfl) ?_
          refine lv_sipush (v := 1000) hx hb dX7_runScript_127 (by decide) ?_
          refine lv_idiv hx hb dX7_runScript_130 (by decide) ?_
          refine lv_iload hx hb dX7_runScript_131 (lv_at hl 1 rfl) ?_
          refine lv_bipush (v := 100) hx hb dX7_runScript_133 (by decide) ?_
          refine lv_idiv hx hb dX7_runScript_135 (by decide) ?_
          refine lv_bipush (v := 10) hx hb dX7_runScript_136 (by decide) ?_
          refine lv_irem hx hb dX7_runScript_138 (by decide) ?_
          refine lv_iload hx hb dX7_runScript_139 (lv_at hl 1 rfl) ?_
          refine lv_bipush (v := 100) hx hb dX7_runScript_141 (by decide) ?_
          refine lv_irem hx hb dX7_runScript_143 (by decide) ?_
          refine g_callV (As := [.int ((fX7_grp z0 sc k) / 1000), .int (remI ((fX7_grp z0 sc k) / 100) 10), .int (remI (fX7_grp z0 sc k) 100)]) (rest := []) (st1 := [.int (fX7_dov (fX7_run_L z0 sc (fX7_copyPage_P N V 0 0) k) ((fX7_grp z0 sc k) / 1000) (remI ((fX7_grp z0 sc k) / 100) 10) (remI (fX7_grp z0 sc k) 100))]) hF (mX7_does M R O hL (upd A 0 0) T D N (fX7_run_L z0 sc (fX7_copyPage_P N V 0 0) k) I K B ((fX7_grp z0 sc k) / 1000) (remI ((fX7_grp z0 sc k) / 100) 10) (remI (fX7_grp z0 sc k) 100) (fX7_run_WS z0 sc (WS_cp hN) k)) (cwV 3 hts gX7_runScript_X7_does rfl rfl rfl (by decide +kernel) ⟨Nat.le_of_ble_eq_true rfl, Nat.le_of_ble_eq_true rfl⟩) hK hZ hG hS (hL.1 483 (by decide) (by decide)) (show gC 483 = (7, 24, 0) from rfl) (by decide) rfl rfl hl.1 (Nat.le_of_ble_eq_true rfl) dX7_runScript_144 ⟨Nat.zero_le _, Nat.zero_le _⟩ rfl rfl (fun H locs hG hS => ?_)
          replace hG : GH Γ (mS M (upd A 0 0) T D N (fX7_dos (fX7_run_L z0 sc (fX7_copyPage_P N V 0 0) k) ((fX7_grp z0 sc k) / 1000) (remI ((fX7_grp z0 sc k) / 100) 10) (remI (fX7_grp z0 sc k) 100)) I K B) R O H := hG
          refine lv_if_ne (tgt := 153) hx hb dX7_runScript_147 (by decide) (fun c_15 => ?_) (fun c_15 => ?_)
          · --T
            refine lv_iinc (v := nI (k + 1)) (lv' := [(8, .int (nI (k + 1))), (6, .long (remL (fX7_left z0 sc k) ((fX7_all z0 k) / 10000))), (9, .int (fX7_grp z0 sc k)), (4, .long ((fX7_all z0 k) / 10000)), (0, .ref (gad Γ 483)), (1, .int a)]) hx hb dX7_runScript_153 hl (k := 5) rfl (nI_1 _) (by decide) rfl (fun ls hl => ?_)
            refine lv_goto (tgt := 95) hx hb dX7_runScript_156 (by decide) ?_
            exact ih_k _ _ _ ⟨Nat.lt_of_le_of_ne hle_k (fun e => by subst e; exact absurd (hyes hk_k) c_15), hG, hS, lv_sub hl [4, 5, 3, 1, 0] rfl⟩
          · --F
            have ex : k = kx := Nat.le_antisymm hle_k (Nat.le_of_not_lt (fun q => hno _ q c_15))
            subst ex
            refine lv_iload hx hb dX7_runScript_150 (lv_at hl 5 rfl) ?_
            exact g_iret hx hb hrt hlocks hS hG (by rw [if_pos hk_k]) (mS_c rfl rfl rfl rfl (by rw [if_pos hk_k] <;> rfl) rfl rfl rfl) dX7_runScript_152
    · --F
      refine lv_ldc2 hx hb hown k_8 dX7_runScript_16 ?_
      refine lv_goto (tgt := 36) hx hb dX7_runScript_19 (by decide) ?_
      refine W.eq (g2 := F0 m 36 ls [.long z0]) (by rw [hz0]; unfold fX7_z0; rw [if_neg c_1, if_pos c_2]) ?_
      refine lv_lstore (lv' := [(4, .long z0), (0, .ref (gad Γ 483)), (1, .int a), (2, .long sc)]) hx hb dX7_runScript_36 hl (by decide) rfl (fun ls hl => ?_)
      refine lv_aload_n hx hb dX7_runScript_38 rfl (lv_at hl 1 rfl) ?_
      refine lv_iload_n hx hb dX7_runScript_39 rfl (lv_at hl 2 rfl) ?_
      refine lv_i2l hx hb dX7_runScript_40 rfl ?_
      refine lv_lconst (v := 1) hx hb dX7_runScript_41 (by decide) ?_
      refine lv_ldc2 hx hb hown k_2 dX7_runScript_42 ?_
      refine g_callS (As := [.long a.toInt64, .long 1, .long 4]) (rest := [.ref (gad Γ 483)]) (st1 := [.int (fX7_in_v a.toInt64 1 4), .ref (gad Γ 483)]) hF (mX7_in _ R O a.toInt64 1 4) (va_cwS 3 hts gX7_runScript_X7_in rfl rfl rfl (by decide +kernel) ⟨Nat.le_of_ble_eq_true rfl, Nat.le_of_ble_eq_true rfl⟩) hK hZ hG hS rfl hl.1 (Nat.le_of_ble_eq_true rfl) dX7_runScript_45 ⟨Nat.zero_le _, Nat.zero_le _⟩ rfl rfl (fun H locs hG hS => ?_)
      refine lv_if_eq (tgt := 67) hx hb dX7_runScript_48 (by decide) (fun c_16 => absurd c_16 hp) (fun c_16 => ?_)
      refine lv_lload_n hx hb dX7_runScript_51 rfl (lv_at hl 3 rfl) ?_
      refine lv_lconst (v := 0) hx hb dX7_runScript_52 (by decide) ?_
      refine lv_lload hx hb dX7_runScript_53 (lv_at hl 0 rfl) ?_
      refine lv_lconst (v := 1) hx hb dX7_runScript_55 (by decide) ?_
      refine lv_lsub hx hb dX7_runScript_56 ?_
      refine g_callS (As := [.long sc, .long 0, .long (z0 - 1)]) (rest := [.ref (gad Γ 483)]) (st1 := [.int (fX7_in_v sc 0 (z0 - 1)), .ref (gad Γ 483)]) hF (mX7_in _ R O sc 0 (z0 - 1)) (va_cwS 3 hts gX7_runScript_X7_in rfl rfl rfl (by decide +kernel) ⟨Nat.le_of_ble_eq_true rfl, Nat.le_of_ble_eq_true rfl⟩) hK hZ hG hS rfl hl.1 (Nat.le_of_ble_eq_true rfl) dX7_runScript_57 ⟨Nat.zero_le _, Nat.zero_le _⟩ rfl rfl (fun H locs hG hS => ?_)
      refine lv_if_eq (tgt := 67) hx hb dX7_runScript_60 (by decide) (fun c_17 => absurd c_17 hq) (fun c_17 => ?_)
      refine lv_iconst (v := 0) hx hb dX7_runScript_63 (by decide) ?_
      refine lv_goto (tgt := 68) hx hb dX7_runScript_64 (by decide) ?_
      refine g_callV (As := [.int 0]) (rest := []) (st1 := [.int 0]) hF (mX7_refused_l M R O hL A T D N V I K B 0 0 (by decide)) (cwV 1 hts gX7_runScript_X7_refused rfl rfl rfl (by decide +kernel) ⟨Nat.le_of_ble_eq_true rfl, Nat.le_of_ble_eq_true rfl⟩) hK hZ hG hS (hL.1 483 (by decide) (by decide)) (show gC 483 = (7, 24, 0) from rfl) (by decide) rfl rfl hl.1 (Nat.le_of_ble_eq_true rfl) dX7_runScript_68 ⟨Nat.zero_le _, Nat.zero_le _⟩ rfl rfl (fun H locs hG hS => ?_)
      refine lv_if_eq (tgt := 76) hx hb dX7_runScript_71 (by decide) (fun c_18 => ?_) (fun c_18 => absurd (by decide) c_18)
      refine lv_aload_n hx hb dX7_runScript_76 rfl (lv_at hl 1 rfl) ?_
      refine gM_getr hx hb hts in_X7 hown hK hL hG 5 (by decide) rfl hL.2.2.2.1 k_3 (fun _ h => h) dX7_runScript_77 ?_
      refine lv_iconst (v := 0) hx hb dX7_runScript_80 (by decide) ?_
      refine lv_aload_n hx hb dX7_runScript_81 rfl (lv_at hl 1 rfl) ?_
      refine gM_getr hx hb hts in_X7 hown hK hL hG 6 (by decide) rfl hL.2.2.2.2.1 k_5 (fun _ h => h) dX7_runScript_82 ?_
      refine lv_iconst (v := 0) hx hb dX7_runScript_85 (by decide) ?_
      refine g_callS (As := [.ref (gad Γ 486), .int 0, .ref (gad Γ 487), .int 0]) (rest := []) (st1 := []) hF (mX7_copyPage_q (mS M (upd A 0 0) T D N V I K B) R O (hL.1 486 (by decide) (by decide)) (show gC 486 = (9, 27, 0) from rfl) (show gLen 486 = 131 from rfl) (hL.1 487 (by decide) (by decide)) (show gC 487 = (9, 28, 0) from rfl) (show gLen 487 = 131 from rfl) (by decide) 0 0 rfl rfl (by omega) (by omega) (by decide) (by decide) V _ (mS_b27 _ _ _ _ _ _ _ _ _)) (va_cwS 4 hts gX7_runScript_X7_copyPage rfl rfl rfl (by decide +kernel) ⟨Nat.le_of_ble_eq_true rfl, Nat.le_of_ble_eq_true rfl⟩) hK hZ (g_st (show _ = va_up (mS M (upd A 0 0) T D N V I K B) 28 V from (mS_u28 _ _ _ _ _ _ _ _ _ _).symm) hG) hS rfl hl.1 (Nat.le_of_ble_eq_true rfl) dX7_runScript_86 ⟨Nat.zero_le _, Nat.zero_le _⟩ rfl rfl (fun H locs hG hS => ?_)
      replace hG : GH Γ (mS M (upd A 0 0) T D N (fX7_copyPage_P N V 0 0) I K B) R O H := g_st (mS_u28 _ _ _ _ _ _ _ _ _ _) hG
      refine lv_lload_n hx hb dX7_runScript_89 rfl (lv_at hl 3 rfl) ?_
      refine lv_lstore (lv' := [(6, .long sc), (4, .long z0), (0, .ref (gad Γ 483)), (1, .int a), (2, .long sc)]) hx hb dX7_runScript_90 hl (by decide) rfl (fun ls hl => ?_)
      refine lv_iconst (v := 0) hx hb dX7_runScript_92 (by decide) ?_
      refine lv_istore (lv' := [(8, .int 0), (6, .long sc), (4, .long z0), (0, .ref (gad Γ 483)), (1, .int a), (2, .long sc)]) hx hb dX7_runScript_93 hl (by decide) rfl (fun ls hl => ?_)
      refine g_loop (N := a.toNatClampNeg) (fun k H locs ls => k ≤ kx ∧ GH Γ (mS M (upd A 0 0) T D N (fX7_run_L z0 sc (fX7_copyPage_P N V 0 0) k) I K B) R O H ∧ va_S (gA Γ) s.heap H locs ∧ lv_has ls 10 [(0, .ref (gad Γ 483)), (1, .int a), (4, .long (fX7_all z0 k)), (6, .long (fX7_left z0 sc k)), (8, .int (nI k))]) ?_ ?_ 0 (Nat.zero_le _) _ _ _ ⟨Nat.zero_le _, hG, hS, lv_sub hl [3, 4, 2, 1, 0] rfl⟩
      · rintro H locs ls ⟨hle_x, hG, hS, hl⟩
        have ex : kx = a.toNatClampNeg := Nat.le_antisymm hxN hle_x
        refine lv_iload hx hb dX7_runScript_95 (lv_at hl 4 rfl) ?_
        refine lv_iload_n hx hb dX7_runScript_97 rfl (lv_at hl 1 rfl) ?_
        refine lv_icmp_ge (tgt := 159) hx hb dX7_runScript_98 (by decide) (fun c_19 => ?_) (fun c_19 => absurd (cl_le _) c_19)
        refine lv_bipush (v := (-9)) hx hb dX7_runScript_159 (by decide) ?_
        exact g_iret hx hb hrt hlocks hS hG (by rw [if_neg (by omega)]) (mS_c rfl rfl rfl rfl (by rw [if_neg (by omega)]) rfl rfl rfl) dX7_runScript_161
      · rintro k hk_k ih_k H locs ls ⟨hle_k, hG, hS, hl⟩
        refine lv_iload hx hb dX7_runScript_95 (lv_at hl 4 rfl) ?_
        refine lv_iload_n hx hb dX7_runScript_97 rfl (lv_at hl 1 rfl) ?_
        refine lv_icmp_ge (tgt := 159) hx hb dX7_runScript_98 (by decide) (fun c_20 => absurd c_20 (cl_ge hk_k)) (fun c_20 => ?_)
        refine lv_lload hx hb dX7_runScript_101 (lv_at hl 2 rfl) ?_
        refine lv_ldc2 hx hb hown k_6 dX7_runScript_103 ?_
        refine lv_ldiv hx hb dX7_runScript_106 (by decide) ?_
        refine lv_lstore (lv' := [(4, .long ((fX7_all z0 k) / 10000)), (0, .ref (gad Γ 483)), (1, .int a), (6, .long (fX7_left z0 sc k)), (8, .int (nI k))]) hx hb dX7_runScript_107 hl (by decide) rfl (fun ls hl => ?_)
        refine lv_lload hx hb dX7_runScript_109 (lv_at hl 3 rfl) ?_
        refine lv_lload hx hb dX7_runScript_111 (lv_at hl 0 rfl) ?_
        refine lv_ldiv hx hb dX7_runScript_113 (hz k hk_k) ?_
        refine lv_l2i hx hb dX7_runScript_114 rfl ?_
        refine lv_istore (lv' := [(9, .int (fX7_grp z0 sc k)), (4, .long ((fX7_all z0 k) / 10000)), (0, .ref (gad Γ 483)), (1, .int a), (6, .long (fX7_left z0 sc k)), (8, .int (nI k))]) hx hb dX7_runScript_115 hl (by decide) rfl (fun ls hl => ?_)
        refine lv_lload hx hb dX7_runScript_117 (lv_at hl 4 rfl) ?_
        refine lv_lload hx hb dX7_runScript_119 (lv_at hl 1 rfl) ?_
        refine lv_lrem hx hb dX7_runScript_121 (hz k hk_k) ?_
        refine lv_lstore (lv' := [(6, .long (remL (fX7_left z0 sc k) ((fX7_all z0 k) / 10000))), (9, .int (fX7_grp z0 sc k)), (4, .long ((fX7_all z0 k) / 10000)), (0, .ref (gad Γ 483)), (1, .int a), (8, .int (nI k))]) hx hb dX7_runScript_122 hl (by decide) rfl (fun ls hl => ?_)
        refine lv_aload_n hx hb dX7_runScript_124 rfl (lv_at hl 3 rfl) ?_
        refine lv_iload hx hb dX7_runScript_125 (lv_at hl 1 rfl) ?_
        refine lv_sipush (v := 1000) hx hb dX7_runScript_127 (by decide) ?_
        refine lv_idiv hx hb dX7_runScript_130 (by decide) ?_
        refine lv_iload hx hb dX7_runScript_131 (lv_at hl 1 rfl) ?_
        refine lv_bipush (v := 100) hx hb dX7_runScript_133 (by decide) ?_
        refine lv_idiv hx hb dX7_runScript_135 (by decide) ?_
        refine lv_bipush (v := 10) hx hb dX7_runScript_136 (by decide) ?_
        refine lv_irem hx hb dX7_runScript_138 (by decide) ?_
        refine lv_iload hx hb dX7_runScript_139 (lv_at hl 1 rfl) ?_
        refine lv_bipush (v := 100) hx hb dX7_runScript_141 (by decide) ?_
        refine lv_irem hx hb dX7_runScript_143 (by decide) ?_
        refine g_callV (As := [.int ((fX7_grp z0 sc k) / 1000), .int (remI ((fX7_grp z0 sc k) / 100) 10), .int (remI (fX7_grp z0 sc k) 100)]) (rest := []) (st1 := [.int (fX7_dov (fX7_run_L z0 sc (fX7_copyPage_P N V 0 0) k) ((fX7_grp z0 sc k) / 1000) (remI ((fX7_grp z0 sc k) / 100) 10) (remI (fX7_grp z0 sc k) 100))]) hF (mX7_does M R O hL (upd A 0 0) T D N (fX7_run_L z0 sc (fX7_copyPage_P N V 0 0) k) I K B ((fX7_grp z0 sc k) / 1000) (remI ((fX7_grp z0 sc k) / 100) 10) (remI (fX7_grp z0 sc k) 100) (fX7_run_WS z0 sc (WS_cp hN) k)) (cwV 3 hts gX7_runScript_X7_does rfl rfl rfl (by decide +kernel) ⟨Nat.le_of_ble_eq_true rfl, Nat.le_of_ble_eq_true rfl⟩) hK hZ hG hS (hL.1 483 (by decide) (by decide)) (show gC 483 = (7, 24, 0) from rfl) (by decide) rfl rfl hl.1 (Nat.le_of_ble_eq_true rfl) dX7_runScript_144 ⟨Nat.zero_le _, Nat.zero_le _⟩ rfl rfl (fun H locs hG hS => ?_)
        replace hG : GH Γ (mS M (upd A 0 0) T D N (fX7_dos (fX7_run_L z0 sc (fX7_copyPage_P N V 0 0) k) ((fX7_grp z0 sc k) / 1000) (remI ((fX7_grp z0 sc k) / 100) 10) (remI (fX7_grp z0 sc k) 100)) I K B) R O H := hG
        refine lv_if_ne (tgt := 153) hx hb dX7_runScript_147 (by decide) (fun c_21 => ?_) (fun c_21 => ?_)
        · --T
          refine lv_iinc (v := nI (k + 1)) (lv' := [(8, .int (nI (k + 1))), (6, .long (remL (fX7_left z0 sc k) ((fX7_all z0 k) / 10000))), (9, .int (fX7_grp z0 sc k)), (4, .long ((fX7_all z0 k) / 10000)), (0, .ref (gad Γ 483)), (1, .int a)]) hx hb dX7_runScript_153 hl (k := 5) rfl (nI_1 _) (by decide) rfl (fun ls hl => ?_)
          refine lv_goto (tgt := 95) hx hb dX7_runScript_156 (by decide) ?_
          exact ih_k _ _ _ ⟨Nat.lt_of_le_of_ne hle_k (fun e => by subst e; exact absurd (hyes hk_k) c_21), hG, hS, lv_sub hl [4, 5, 3, 1, 0] rfl⟩
        · --F
          have ex : k = kx := Nat.le_antisymm hle_k (Nat.le_of_not_lt (fun q => hno _ q c_21))
          subst ex
          refine lv_iload hx hb dX7_runScript_150 (lv_at hl 5 rfl) ?_
          exact g_iret hx hb hrt hlocks hS hG (by rw [if_pos hk_k]) (mS_c rfl rfl rfl rfl (by rw [if_pos hk_k] <;> rfl) rfl rfl rfl) dX7_runScript_152
  · --F
    refine lv_ldc2 hx hb hown k_6 dX7_runScript_5 ?_
    refine lv_goto (tgt := 36) hx hb dX7_runScript_8 (by decide) ?_
    refine W.eq (g2 := F0 m 36 ls [.long z0]) (by rw [hz0]; unfold fX7_z0; rw [if_pos c_1]) ?_
    refine lv_lstore (lv' := [(4, .long z0), (0, .ref (gad Γ 483)), (1, .int a), (2, .long sc)]) hx hb dX7_runScript_36 hl (by decide) rfl (fun ls hl => ?_)
    refine lv_aload_n hx hb dX7_runScript_38 rfl (lv_at hl 1 rfl) ?_
    refine lv_iload_n hx hb dX7_runScript_39 rfl (lv_at hl 2 rfl) ?_
    refine lv_i2l hx hb dX7_runScript_40 rfl ?_
    refine lv_lconst (v := 1) hx hb dX7_runScript_41 (by decide) ?_
    refine lv_ldc2 hx hb hown k_2 dX7_runScript_42 ?_
    refine g_callS (As := [.long a.toInt64, .long 1, .long 4]) (rest := [.ref (gad Γ 483)]) (st1 := [.int (fX7_in_v a.toInt64 1 4), .ref (gad Γ 483)]) hF (mX7_in _ R O a.toInt64 1 4) (va_cwS 3 hts gX7_runScript_X7_in rfl rfl rfl (by decide +kernel) ⟨Nat.le_of_ble_eq_true rfl, Nat.le_of_ble_eq_true rfl⟩) hK hZ hG hS rfl hl.1 (Nat.le_of_ble_eq_true rfl) dX7_runScript_45 ⟨Nat.zero_le _, Nat.zero_le _⟩ rfl rfl (fun H locs hG hS => ?_)
    refine lv_if_eq (tgt := 67) hx hb dX7_runScript_48 (by decide) (fun c_22 => absurd c_22 hp) (fun c_22 => ?_)
    refine lv_lload_n hx hb dX7_runScript_51 rfl (lv_at hl 3 rfl) ?_
    refine lv_lconst (v := 0) hx hb dX7_runScript_52 (by decide) ?_
    refine lv_lload hx hb dX7_runScript_53 (lv_at hl 0 rfl) ?_
    refine lv_lconst (v := 1) hx hb dX7_runScript_55 (by decide) ?_
    refine lv_lsub hx hb dX7_runScript_56 ?_
    refine g_callS (As := [.long sc, .long 0, .long (z0 - 1)]) (rest := [.ref (gad Γ 483)]) (st1 := [.int (fX7_in_v sc 0 (z0 - 1)), .ref (gad Γ 483)]) hF (mX7_in _ R O sc 0 (z0 - 1)) (va_cwS 3 hts gX7_runScript_X7_in rfl rfl rfl (by decide +kernel) ⟨Nat.le_of_ble_eq_true rfl, Nat.le_of_ble_eq_true rfl⟩) hK hZ hG hS rfl hl.1 (Nat.le_of_ble_eq_true rfl) dX7_runScript_57 ⟨Nat.zero_le _, Nat.zero_le _⟩ rfl rfl (fun H locs hG hS => ?_)
    refine lv_if_eq (tgt := 67) hx hb dX7_runScript_60 (by decide) (fun c_23 => absurd c_23 hq) (fun c_23 => ?_)
    refine lv_iconst (v := 0) hx hb dX7_runScript_63 (by decide) ?_
    refine lv_goto (tgt := 68) hx hb dX7_runScript_64 (by decide) ?_
    refine g_callV (As := [.int 0]) (rest := []) (st1 := [.int 0]) hF (mX7_refused_l M R O hL A T D N V I K B 0 0 (by decide)) (cwV 1 hts gX7_runScript_X7_refused rfl rfl rfl (by decide +kernel) ⟨Nat.le_of_ble_eq_true rfl, Nat.le_of_ble_eq_true rfl⟩) hK hZ hG hS (hL.1 483 (by decide) (by decide)) (show gC 483 = (7, 24, 0) from rfl) (by decide) rfl rfl hl.1 (Nat.le_of_ble_eq_true rfl) dX7_runScript_68 ⟨Nat.zero_le _, Nat.zero_le _⟩ rfl rfl (fun H locs hG hS => ?_)
    refine lv_if_eq (tgt := 76) hx hb dX7_runScript_71 (by decide) (fun c_24 => ?_) (fun c_24 => absurd (by decide) c_24)
    refine lv_aload_n hx hb dX7_runScript_76 rfl (lv_at hl 1 rfl) ?_
    refine gM_getr hx hb hts in_X7 hown hK hL hG 5 (by decide) rfl hL.2.2.2.1 k_3 (fun _ h => h) dX7_runScript_77 ?_
    refine lv_iconst (v := 0) hx hb dX7_runScript_80 (by decide) ?_
    refine lv_aload_n hx hb dX7_runScript_81 rfl (lv_at hl 1 rfl) ?_
    refine gM_getr hx hb hts in_X7 hown hK hL hG 6 (by decide) rfl hL.2.2.2.2.1 k_5 (fun _ h => h) dX7_runScript_82 ?_
    refine lv_iconst (v := 0) hx hb dX7_runScript_85 (by decide) ?_
    refine g_callS (As := [.ref (gad Γ 486), .int 0, .ref (gad Γ 487), .int 0]) (rest := []) (st1 := []) hF (mX7_copyPage_q (mS M (upd A 0 0) T D N V I K B) R O (hL.1 486 (by decide) (by decide)) (show gC 486 = (9, 27, 0) from rfl) (show gLen 486 = 131 from rfl) (hL.1 487 (by decide) (by decide)) (show gC 487 = (9, 28, 0) from rfl) (show gLen 487 = 131 from rfl) (by decide) 0 0 rfl rfl (by omega) (by omega) (by decide) (by decide) V _ (mS_b27 _ _ _ _ _ _ _ _ _)) (va_cwS 4 hts gX7_runScript_X7_copyPage rfl rfl rfl (by decide +kernel) ⟨Nat.le_of_ble_eq_true rfl, Nat.le_of_ble_eq_true rfl⟩) hK hZ (g_st (show _ = va_up (mS M (upd A 0 0) T D N V I K B) 28 V from (mS_u28 _ _ _ _ _ _ _ _ _ _).symm) hG) hS rfl hl.1 (Nat.le_of_ble_eq_true rfl) dX7_runScript_86 ⟨Nat.zero_le _, Nat.zero_le _⟩ rfl rfl (fun H locs hG hS => ?_)
    replace hG : GH Γ (mS M (upd A 0 0) T D N (fX7_copyPage_P N V 0 0) I K B) R O H := g_st (mS_u28 _ _ _ _ _ _ _ _ _ _) hG
    refine lv_lload_n hx hb dX7_runScript_89 rfl (lv_at hl 3 rfl) ?_
    refine lv_lstore (lv' := [(6, .long sc), (4, .long z0), (0, .ref (gad Γ 483)), (1, .int a), (2, .long sc)]) hx hb dX7_runScript_90 hl (by decide) rfl (fun ls hl => ?_)
    refine lv_iconst (v := 0) hx hb dX7_runScript_92 (by decide) ?_
    refine lv_istore (lv' := [(8, .int 0), (6, .long sc), (4, .long z0), (0, .ref (gad Γ 483)), (1, .int a), (2, .long sc)]) hx hb dX7_runScript_93 hl (by decide) rfl (fun ls hl => ?_)
    refine g_loop (N := a.toNatClampNeg) (fun k H locs ls => k ≤ kx ∧ GH Γ (mS M (upd A 0 0) T D N (fX7_run_L z0 sc (fX7_copyPage_P N V 0 0) k) I K B) R O H ∧ va_S (gA Γ) s.heap H locs ∧ lv_has ls 10 [(0, .ref (gad Γ 483)), (1, .int a), (4, .long (fX7_all z0 k)), (6, .long (fX7_left z0 sc k)), (8, .int (nI k))]) ?_ ?_ 0 (Nat.zero_le _) _ _ _ ⟨Nat.zero_le _, hG, hS, lv_sub hl [3, 4, 2, 1, 0] rfl⟩
    · rintro H locs ls ⟨hle_x, hG, hS, hl⟩
      have ex : kx = a.toNatClampNeg := Nat.le_antisymm hxN hle_x
      refine lv_iload hx hb dX7_runScript_95 (lv_at hl 4 rfl) ?_
      refine lv_iload_n hx hb dX7_runScript_97 rfl (lv_at hl 1 rfl) ?_
      refine lv_icmp_ge (tgt := 159) hx hb dX7_runScript_98 (by decide) (fun c_25 => ?_) (fun c_25 => absurd (cl_le _) c_25)
      refine lv_bipush (v := (-9)) hx hb dX7_runScript_159 (by decide) ?_
      exact g_iret hx hb hrt hlocks hS hG (by rw [if_neg (by omega)]) (mS_c rfl rfl rfl rfl (by rw [if_neg (by omega)]) rfl rfl rfl) dX7_runScript_161
    · rintro k hk_k ih_k H locs ls ⟨hle_k, hG, hS, hl⟩
      refine lv_iload hx hb dX7_runScript_95 (lv_at hl 4 rfl) ?_
      refine lv_iload_n hx hb dX7_runScript_97 rfl (lv_at hl 1 rfl) ?_
      refine lv_icmp_ge (tgt := 159) hx hb dX7_runScript_98 (by decide) (fun c_26 => absurd c_26 (cl_ge hk_k)) (fun c_26 => ?_)
      refine lv_lload hx hb dX7_runScript_101 (lv_at hl 2 rfl) ?_
      refine lv_ldc2 hx hb hown k_6 dX7_runScript_103 ?_
      refine lv_ldiv hx hb dX7_runScript_106 (by decide) ?_
      refine lv_lstore (lv' := [(4, .long ((fX7_all z0 k) / 10000)), (0, .ref (gad Γ 483)), (1, .int a), (6, .long (fX7_left z0 sc k)), (8, .int (nI k))]) hx hb dX7_runScript_107 hl (by decide) rfl (fun ls hl => ?_)
      refine lv_lload hx hb dX7_runScript_109 (lv_at hl 3 rfl) ?_
      refine lv_lload hx hb dX7_runScript_111 (lv_at hl 0 rfl) ?_
      refine lv_ldiv hx hb dX7_runScript_113 (hz k hk_k) ?_
      refine lv_l2i hx hb dX7_runScript_114 rfl ?_
      refine lv_istore (lv' := [(9, .int (fX7_grp z0 sc k)), (4, .long ((fX7_all z0 k) / 10000)), (0, .ref (gad Γ 483)), (1, .int a), (6, .long (fX7_left z0 sc k)), (8, .int (nI k))]) hx hb dX7_runScript_115 hl (by decide) rfl (fun ls hl => ?_)
      refine lv_lload hx hb dX7_runScript_117 (lv_at hl 4 rfl) ?_
      refine lv_lload hx hb dX7_runScript_119 (lv_at hl 1 rfl) ?_
      refine lv_lrem hx hb dX7_runScript_121 (hz k hk_k) ?_
      refine lv_lstore (lv' := [(6, .long (remL (fX7_left z0 sc k) ((fX7_all z0 k) / 10000))), (9, .int (fX7_grp z0 sc k)), (4, .long ((fX7_all z0 k) / 10000)), (0, .ref (gad Γ 483)), (1, .int a), (8, .int (nI k))]) hx hb dX7_runScript_122 hl (by decide) rfl (fun ls hl => ?_)
      refine lv_aload_n hx hb dX7_runScript_124 rfl (lv_at hl 3 rfl) ?_
      refine lv_iload hx hb dX7_runScript_125 (lv_at hl 1 rfl) ?_
      refine lv_sipush (v := 1000) hx hb dX7_runScript_127 (by decide) ?_
      refine lv_idiv hx hb dX7_runScript_130 (by decide) ?_
      refine lv_iload hx hb dX7_runScript_131 (lv_at hl 1 rfl) ?_
      refine lv_bipush (v := 100) hx hb dX7_runScript_133 (by decide) ?_
      refine lv_idiv hx hb dX7_runScript_135 (by decide) ?_
      refine lv_bipush (v := 10) hx hb dX7_runScript_136 (by decide) ?_
      refine lv_irem hx hb dX7_runScript_138 (by decide) ?_
      refine lv_iload hx hb dX7_runScript_139 (lv_at hl 1 rfl) ?_
      refine lv_bipush (v := 100) hx hb dX7_runScript_141 (by decide) ?_
      refine lv_irem hx hb dX7_runScript_143 (by decide) ?_
      refine g_callV (As := [.int ((fX7_grp z0 sc k) / 1000), .int (remI ((fX7_grp z0 sc k) / 100) 10), .int (remI (fX7_grp z0 sc k) 100)]) (rest := []) (st1 := [.int (fX7_dov (fX7_run_L z0 sc (fX7_copyPage_P N V 0 0) k) ((fX7_grp z0 sc k) / 1000) (remI ((fX7_grp z0 sc k) / 100) 10) (remI (fX7_grp z0 sc k) 100))]) hF (mX7_does M R O hL (upd A 0 0) T D N (fX7_run_L z0 sc (fX7_copyPage_P N V 0 0) k) I K B ((fX7_grp z0 sc k) / 1000) (remI ((fX7_grp z0 sc k) / 100) 10) (remI (fX7_grp z0 sc k) 100) (fX7_run_WS z0 sc (WS_cp hN) k)) (cwV 3 hts gX7_runScript_X7_does rfl rfl rfl (by decide +kernel) ⟨Nat.le_of_ble_eq_true rfl, Nat.le_of_ble_eq_true rfl⟩) hK hZ hG hS (hL.1 483 (by decide) (by decide)) (show gC 483 = (7, 24, 0) from rfl) (by decide) rfl rfl hl.1 (Nat.le_of_ble_eq_true rfl) dX7_runScript_144 ⟨Nat.zero_le _, Nat.zero_le _⟩ rfl rfl (fun H locs hG hS => ?_)
      replace hG : GH Γ (mS M (upd A 0 0) T D N (fX7_dos (fX7_run_L z0 sc (fX7_copyPage_P N V 0 0) k) ((fX7_grp z0 sc k) / 1000) (remI ((fX7_grp z0 sc k) / 100) 10) (remI (fX7_grp z0 sc k) 100)) I K B) R O H := hG
      refine lv_if_ne (tgt := 153) hx hb dX7_runScript_147 (by decide) (fun c_27 => ?_) (fun c_27 => ?_)
      · --T
        refine lv_iinc (v := nI (k + 1)) (lv' := [(8, .int (nI (k + 1))), (6, .long (remL (fX7_left z0 sc k) ((fX7_all z0 k) / 10000))), (9, .int (fX7_grp z0 sc k)), (4, .long ((fX7_all z0 k) / 10000)), (0, .ref (gad Γ 483)), (1, .int a)]) hx hb dX7_runScript_153 hl (k := 5) rfl (nI_1 _) (by decide) rfl (fun ls hl => ?_)
        refine lv_goto (tgt := 95) hx hb dX7_runScript_156 (by decide) ?_
        exact ih_k _ _ _ ⟨Nat.lt_of_le_of_ne hle_k (fun e => by subst e; exact absurd (hyes hk_k) c_27), hG, hS, lv_sub hl [4, 5, 3, 1, 0] rfl⟩
      · --F
        have ex : k = kx := Nat.le_antisymm hle_k (Nat.le_of_not_lt (fun q => hno _ q c_27))
        subst ex
        refine lv_iload hx hb dX7_runScript_150 (lv_at hl 5 rfl) ?_
        exact g_iret hx hb hrt hlocks hS hG (by rw [if_pos hk_k]) (mS_c rfl rfl rfl rfl (by rw [if_pos hk_k] <;> rfl) rfl rfl rfl) dX7_runScript_152

