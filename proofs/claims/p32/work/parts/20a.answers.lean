/-! THE CLASS: answered, acted. Laid by gen/p20.py. -/
/-- what answered throws for a number -/
def xOf (v : Int32) : Option String := if v = -1 then some "java/lang/IndexOutOfBoundsException" else if v = -2 then some "java/lang/IllegalArgumentException" else if v = -3 then some "java/lang/IllegalStateException" else none
theorem xOf_n {v : Int32} (h : xOf v = none) : ¬ v = -1 ∧ ¬ v = -2 ∧ ¬ v = -3 := by
  unfold xOf at h
  refine ⟨fun q => ?_, fun q => ?_, fun q => ?_⟩
  · rw [if_pos q] at h; exact absurd h (by decide)
  · subst q; exact absurd h (by decide)
  · subst q; exact absurd h (by decide)
set_option maxHeartbeats 4000000 in
set_option maxRecDepth 100000 in
theorem mX6_answered {l : Launch} {Γ : gX} (M : Nat → Nat → Int32) (R : Nat → Nat → Option Nat) (O : Int64) (a : Int32) (h : xOf a = none) : gMet l Γ yX6_answered wsX6_answered 0 0 [.int a] M R O (some (.int a)) M R O := by
  refine g_start (cc := cX6_answered) (maxL := 1) (ret := (some .int)) (by decide) rfl (Nat.le_of_ble_eq_true rfl) ?_
  intro p e s m below meth c ls hx hb hml hrt hts hown hlocks hname hK hZ hG hS hl
  have hl : lv_has ls 1 [(0, .int a)] := hl
  have hown : s.vm.findClass RX6 = some m.cls := hown
  have hF : CallFix p m c cX6_answered 1 s _ wsX6_answered RX6 := ⟨hx, hb, hml, hown, hts⟩
  refine lv_iload_n hx hb dX6_answered_0 rfl (lv_at hl 0 rfl) ?_
  refine lv_iconst (v := (-1)) hx hb dX6_answered_1 (by decide) ?_
  refine lv_icmp_ne (tgt := 15) hx hb dX6_answered_2 (by decide) (fun c_1 => ?_) (fun c_1 => absurd c_1 ((xOf_n h).1))
  refine lv_iload_n hx hb dX6_answered_15 rfl (lv_at hl 0 rfl) ?_
  refine lv_bipush (v := (-2)) hx hb dX6_answered_16 (by decide) ?_
  refine lv_icmp_ne (tgt := 31) hx hb dX6_answered_18 (by decide) (fun c_2 => ?_) (fun c_2 => absurd c_2 ((xOf_n h).2.1))
  refine lv_iload_n hx hb dX6_answered_31 rfl (lv_at hl 0 rfl) ?_
  refine lv_bipush (v := (-3)) hx hb dX6_answered_32 (by decide) ?_
  refine lv_icmp_ne (tgt := 47) hx hb dX6_answered_34 (by decide) (fun c_3 => ?_) (fun c_3 => absurd c_3 ((xOf_n h).2.2))
  refine lv_iload_n hx hb dX6_answered_47 rfl (lv_at hl 0 rfl) ?_
  exact g_iret hx hb hrt hlocks hS hG rfl rfl dX6_answered_48

set_option maxHeartbeats 4000000 in
set_option maxRecDepth 100000 in
theorem tX6_answered_1 {l : Launch} {Γ : gX} (hst : l.stackTraces = false) (M : Nat → Nat → Int32) (R : Nat → Nat → Option Nat) (O : Int64) (a : Int32) (h : a = (-1)) : gThr l Γ yX6_answered wsX6_answered 6 82 [.int a] M R O "java/lang/IndexOutOfBoundsException" M R O := by
  refine g_startT (cc := cX6_answered) (maxL := 1) (ret := (some .int)) (by decide) rfl (Nat.le_of_ble_eq_true rfl) ?_
  intro p e s m below meth c ls hx hb hml hrt hts hown hlocks hname hK hZ hG hS hl hX hnx
  have hl : lv_has ls 1 [(0, .int a)] := hl
  have hown : s.vm.findClass RX6 = some m.cls := hown
  have hF : CallFix p m c cX6_answered 1 s _ wsX6_answered RX6 := ⟨hx, hb, hml, hown, hts⟩
  refine lv_iload_n hx hb dX6_answered_0 rfl (lv_at hl 0 rfl) ?_
  refine lv_iconst (v := (-1)) hx hb dX6_answered_1 (by decide) ?_
  refine lv_icmp_ne (tgt := 15) hx hb dX6_answered_2 (by decide) (fun c_1 => absurd h c_1) (fun c_1 => ?_)
  exact g_throw (cls := "java/lang/IndexOutOfBoundsException") (text := "no such segment, house or wagon") (ik := 149) (is := 237) (ic := 153) hx hb hst hown (by decide +kernel) hts (by decide +kernel) (by decide +kernel) (by decide +kernel) (by decide +kernel) (by decide +kernel) (by decide +kernel) hX hZ hG hS (hl.1.trans hml.symm) dX6_answered_5 dX6_answered_8 dX6_answered_9 dX6_answered_11 dX6_answered_14 hnx (Nat.le_of_ble_eq_true rfl) (Nat.le_of_ble_eq_true rfl) ⟨Nat.le_of_ble_eq_true rfl, Nat.le_of_ble_eq_true rfl⟩ hlocks

set_option maxHeartbeats 4000000 in
set_option maxRecDepth 100000 in
theorem tX6_answered_2 {l : Launch} {Γ : gX} (hst : l.stackTraces = false) (M : Nat → Nat → Int32) (R : Nat → Nat → Option Nat) (O : Int64) (a : Int32) (h : a = (-2)) : gThr l Γ yX6_answered wsX6_answered 6 82 [.int a] M R O "java/lang/IllegalArgumentException" M R O := by
  refine g_startT (cc := cX6_answered) (maxL := 1) (ret := (some .int)) (by decide) rfl (Nat.le_of_ble_eq_true rfl) ?_
  intro p e s m below meth c ls hx hb hml hrt hts hown hlocks hname hK hZ hG hS hl hX hnx
  have hl : lv_has ls 1 [(0, .int a)] := hl
  have hown : s.vm.findClass RX6 = some m.cls := hown
  have hF : CallFix p m c cX6_answered 1 s _ wsX6_answered RX6 := ⟨hx, hb, hml, hown, hts⟩
  refine lv_iload_n hx hb dX6_answered_0 rfl (lv_at hl 0 rfl) ?_
  refine lv_iconst (v := (-1)) hx hb dX6_answered_1 (by decide) ?_
  refine lv_icmp_ne (tgt := 15) hx hb dX6_answered_2 (by decide) (fun c_1 => ?_) (fun c_1 => absurd c_1 (by rw [h]; decide))
  refine lv_iload_n hx hb dX6_answered_15 rfl (lv_at hl 0 rfl) ?_
  refine lv_bipush (v := (-2)) hx hb dX6_answered_16 (by decide) ?_
  refine lv_icmp_ne (tgt := 31) hx hb dX6_answered_18 (by decide) (fun c_2 => absurd h c_2) (fun c_2 => ?_)
  exact g_throw (cls := "java/lang/IllegalArgumentException") (text := "an argument is out of range") (ik := 158) (is := 239) (ic := 162) hx hb hst hown (by decide +kernel) hts (by decide +kernel) (by decide +kernel) (by decide +kernel) (by decide +kernel) (by decide +kernel) (by decide +kernel) hX hZ hG hS (hl.1.trans hml.symm) dX6_answered_21 dX6_answered_24 dX6_answered_25 dX6_answered_27 dX6_answered_30 hnx (Nat.le_of_ble_eq_true rfl) (Nat.le_of_ble_eq_true rfl) ⟨Nat.le_of_ble_eq_true rfl, Nat.le_of_ble_eq_true rfl⟩ hlocks

set_option maxHeartbeats 4000000 in
set_option maxRecDepth 100000 in
theorem tX6_answered_3 {l : Launch} {Γ : gX} (hst : l.stackTraces = false) (M : Nat → Nat → Int32) (R : Nat → Nat → Option Nat) (O : Int64) (a : Int32) (h : a = (-3)) : gThr l Γ yX6_answered wsX6_answered 6 82 [.int a] M R O "java/lang/IllegalStateException" M R O := by
  refine g_startT (cc := cX6_answered) (maxL := 1) (ret := (some .int)) (by decide) rfl (Nat.le_of_ble_eq_true rfl) ?_
  intro p e s m below meth c ls hx hb hml hrt hts hown hlocks hname hK hZ hG hS hl hX hnx
  have hl : lv_has ls 1 [(0, .int a)] := hl
  have hown : s.vm.findClass RX6 = some m.cls := hown
  have hF : CallFix p m c cX6_answered 1 s _ wsX6_answered RX6 := ⟨hx, hb, hml, hown, hts⟩
  refine lv_iload_n hx hb dX6_answered_0 rfl (lv_at hl 0 rfl) ?_
  refine lv_iconst (v := (-1)) hx hb dX6_answered_1 (by decide) ?_
  refine lv_icmp_ne (tgt := 15) hx hb dX6_answered_2 (by decide) (fun c_1 => ?_) (fun c_1 => absurd c_1 (by rw [h]; decide))
  refine lv_iload_n hx hb dX6_answered_15 rfl (lv_at hl 0 rfl) ?_
  refine lv_bipush (v := (-2)) hx hb dX6_answered_16 (by decide) ?_
  refine lv_icmp_ne (tgt := 31) hx hb dX6_answered_18 (by decide) (fun c_2 => ?_) (fun c_2 => absurd c_2 (by rw [h]; decide))
  refine lv_iload_n hx hb dX6_answered_31 rfl (lv_at hl 0 rfl) ?_
  refine lv_bipush (v := (-3)) hx hb dX6_answered_32 (by decide) ?_
  refine lv_icmp_ne (tgt := 47) hx hb dX6_answered_34 (by decide) (fun c_3 => absurd h c_3) (fun c_3 => ?_)
  exact g_throw (cls := "java/lang/IllegalStateException") (text := "this cannot be done now") (ik := 60) (is := 241) (ic := 64) hx hb hst hown (by decide +kernel) hts (by decide +kernel) (by decide +kernel) (by decide +kernel) (by decide +kernel) (by decide +kernel) (by decide +kernel) hX hZ hG hS (hl.1.trans hml.symm) dX6_answered_37 dX6_answered_40 dX6_answered_41 dX6_answered_43 dX6_answered_46 hnx (Nat.le_of_ble_eq_true rfl) (Nat.le_of_ble_eq_true rfl) ⟨Nat.le_of_ble_eq_true rfl, Nat.le_of_ble_eq_true rfl⟩ hlocks

theorem tX6_answered {l : Launch} {Γ : gX} (hst : l.stackTraces = false) (M : Nat → Nat → Int32) (R : Nat → Nat → Option Nat) (O : Int64) (a : Int32) {En : String} (h : xOf a = some En) : gThr l Γ yX6_answered wsX6_answered 6 82 [.int a] M R O En M R O := by
  unfold xOf at h
  by_cases h1 : a = -1
  · rw [if_pos h1] at h
    cases h
    exact tX6_answered_1 hst M R O a h1
  · rw [if_neg h1] at h
    by_cases h2 : a = -2
    · rw [if_pos h2] at h
      cases h
      exact tX6_answered_2 hst M R O a h2
    · rw [if_neg h2] at h
      by_cases h3 : a = -3
      · rw [if_pos h3] at h
        cases h
        exact tX6_answered_3 hst M R O a h3
      · rw [if_neg h3] at h
        cases h
set_option maxHeartbeats 4000000 in
set_option maxRecDepth 100000 in
theorem mX6_acted {l : Launch} {Γ : gX} (M : Nat → Nat → Int32) (R : Nat → Nat → Option Nat) (O : Int64) (hC : LC Γ R) (X G J S C P Q : Nat → Int32) (pm : Nat → Nat) (hp : HP R pm) (k : Nat) (hk : J 1 = nI k) (hk14 : k ≤ 14) (a : Int32) (hr : xOf a = none) : gMet l Γ yX6_acted wsX6_acted 2 42 [.ref (gad Γ 475), .int a] (cS M X G J S C P Q) R O (some (.int a)) (cS M X G (keepJ J) S C P Q) (keepR R J) O := by
  refine g_start (cc := cX6_acted) (maxL := 3) (ret := (some .int)) (by decide) rfl (Nat.le_of_ble_eq_true rfl) ?_
  intro p e s m below meth c ls hx hb hml hrt hts hown hlocks hname hK hZ hG hS hl
  have hl : lv_has ls 3 [(0, .ref (gad Γ 475)), (1, .int a)] := hl
  have hown : s.vm.findClass RX6 = some m.cls := hown
  have hF : CallFix p m c cX6_acted 3 s _ wsX6_acted RX6 := ⟨hx, hb, hml, hown, hts⟩
  have k_1 : (Cond.fieldLink RX6 29 "RoadDust" "history" "LRoadDust$History;").before _ s = true := hts _ (by decide +kernel)
  have in_X6 : ∀ w ∈ wsX60, w ∈ wsX6_acted := by decide +kernel
  have hV0 := hC.2.1 0 (by decide)
  have hV1 := hC.2.1 1 (by decide)
  refine lv_iload_n hx hb dX6_acted_0 rfl (lv_at hl 1 rfl) ?_
  refine g_callS (As := [.int a]) (rest := []) (st1 := [.int a]) hF (mX6_answered (cS M X G J S C P Q) R O a hr) (va_cwS 1 hts gX6_acted_X6_answered rfl rfl rfl (by decide +kernel) ⟨Nat.le_of_ble_eq_true rfl, Nat.le_of_ble_eq_true rfl⟩) hK hZ hG hS rfl hl.1 (Nat.le_of_ble_eq_true rfl) dX6_acted_1 ⟨Nat.zero_le _, Nat.zero_le _⟩ rfl rfl (fun H locs hG hS => ?_)
  refine lv_istore_n (lv' := [(2, .int a), (0, .ref (gad Γ 475)), (1, .int a)]) hx hb dX6_acted_4 rfl hl (by decide) rfl (fun ls hl => ?_)
  refine lv_aload_n hx hb dX6_acted_5 rfl (lv_at hl 1 rfl) ?_
  refine go_getr (C := RX6) (T := TX6) (ci := 6) hx hb hts in_X6 hown hK hG (hC.1 475 (by decide) (by decide)) (show gC 475 = (6, 32, 0) from rfl) (by decide) rfl 3 (by decide) rfl hC.2.2.2.2.2.1 k_1 (fun _ h => h) dX6_acted_6 ?_
  refine g_callV (As := []) (rest := []) (st1 := []) hF (mX0_keepDraft M R O hC X G J S C P Q pm hp k hk hk14) (cwV 0 hts gX6_acted_X0_keepDraft rfl rfl rfl (by decide +kernel) ⟨Nat.le_of_ble_eq_true rfl, Nat.le_of_ble_eq_true rfl⟩) hK hZ hG hS (hC.1 478 (by decide) (by decide)) (show gC 478 = (0, 21, 0) from rfl) (by decide) rfl rfl hl.1 (Nat.le_of_ble_eq_true rfl) dX6_acted_9 ⟨Nat.zero_le _, Nat.zero_le _⟩ rfl rfl (fun H locs hG hS => ?_)
  refine lv_iload_n hx hb dX6_acted_12 rfl (lv_at hl 0 rfl) ?_
  exact g_iret hx hb hrt hlocks hS hG rfl rfl dX6_acted_13

set_option maxHeartbeats 4000000 in
set_option maxRecDepth 100000 in
theorem tX6_acted {l : Launch} {Γ : gX} (hst : l.stackTraces = false) (M : Nat → Nat → Int32) (R : Nat → Nat → Option Nat) (O : Int64) (hC : LC Γ R) (X G J S C P Q : Nat → Int32) (a : Int32) {En : String} (hr : xOf a = some En) : gThr l Γ yX6_acted wsX6_acted 7 102 [.ref (gad Γ 475), .int a] (cS M X G J S C P Q) R O En (cS M X G J S C P Q) R O := by
  refine g_startT (cc := cX6_acted) (maxL := 3) (ret := (some .int)) (by decide) rfl (Nat.le_of_ble_eq_true rfl) ?_
  intro p e s m below meth c ls hx hb hml hrt hts hown hlocks hname hK hZ hG hS hl hX hnx
  have hl : lv_has ls 3 [(0, .ref (gad Γ 475)), (1, .int a)] := hl
  have hown : s.vm.findClass RX6 = some m.cls := hown
  have hF : CallFix p m c cX6_acted 3 s _ wsX6_acted RX6 := ⟨hx, hb, hml, hown, hts⟩
  have hV0 := hC.2.1 0 (by decide)
  have hV1 := hC.2.1 1 (by decide)
  refine lv_iload_n hx hb dX6_acted_0 rfl (lv_at hl 1 rfl) ?_
  exact g_xS (As := [.int a]) (rest := []) hF (tX6_answered hst _ _ _ a hr) (va_cwS 1 hts gX6_acted_X6_answered rfl rfl rfl (by decide +kernel) ⟨Nat.le_of_ble_eq_true rfl, Nat.le_of_ble_eq_true rfl⟩) hK hZ hX hG hS rfl hl.1 (Nat.le_of_ble_eq_true rfl) dX6_acted_1 ⟨Nat.le_of_ble_eq_true rfl, Nat.le_of_ble_eq_true rfl⟩ rfl hnx hlocks

