/-! THE REFERENCE: the whole text; errorPosition, load. Laid by gen/p15.py. -/
def rrM (v : Int32) (A T D A1 D1 : Nat → Int32) : Prop := ∀ (l : Launch) (Γ : gX) (M : Nat → Nat → Int32) (R : Nat → Nat → Option Nat) (O : Int64), LM Γ R → ∀ N V I K B : Nat → Int32, gMet l Γ yX7_readRoad wsX7_readRoad 2 49 [.ref (gad Γ 483)] (mS M A T D N V I K B) R O (some (.int v)) (mS M A1 T D1 N V I K B) R O
def fX7_par_S (T : Nat → Int32) (X : (Nat → Int32) × (Nat → Int32)) : (Nat → Int32) × (Nat → Int32) := (qX7_readPart_A X.1 T X.2, qX7_readPart_D X.1 T X.2)
def fX7_par_L (T A D : Nat → Int32) : Nat → (Nat → Int32) × (Nat → Int32)
  | 0 => (A, D)
  | k + 1 => fX7_par_S T (fX7_par_L T A D k)
theorem par_keeps {T A D : Nat → Int32} (hA : RA A) (hD : WS D) : ∀ k, RA (fX7_par_L T A D k).1 ∧ WS (fX7_par_L T A D k).2
  | 0 => ⟨hA, hD⟩
  | k + 1 => by
    obtain ⟨h1, h2⟩ := par_keeps (T := T) hA hD k
    obtain ⟨h3, h4, _⟩ := rp_keeps (T := T) h1 h2
    exact ⟨h4, h3⟩
theorem RA_0 {A : Nat → Int32} (hA : RA A) : RA (upd A 3 0) := by
  refine ⟨by rw [upd_nw _ _ (by decide)]; exact hA.1, ?_, ?_⟩
  · rw [upd_eq]; decide
  · rw [upd_eq]; decide
set_option maxHeartbeats 4000000 in
set_option maxRecDepth 100000 in
theorem mX7_readAll_n {l : Launch} {Γ : gX} (M : Nat → Nat → Int32) (R : Nat → Nat → Option Nat) (O : Int64) (hL : LM Γ R) (A T D N V I K B : Nat → Int32) (hA : RA A) (h1 : qX7_eat_v (upd A 3 0) T 82 = 0) : gMet l Γ yX7_readAll wsX7_readAll 4 91 [.ref (gad Γ 483)] (mS M A T D N V I K B) R O (some (.int 0)) (mS M (qX7_eat_A (upd A 3 0) T 82) T D N V I K B) R O := by
  refine g_start (cc := cX7_readAll) (maxL := 1) (ret := (some .boolean)) (by decide) rfl (Nat.le_of_ble_eq_true rfl) ?_
  intro p e s m below meth c ls hx hb hml hrt hts hown hlocks hname hK hZ hG hS hl
  have hl : lv_has ls 1 [(0, .ref (gad Γ 483))] := hl
  have hown : s.vm.findClass RX7 = some m.cls := hown
  have hF : CallFix p m c cX7_readAll 1 s _ wsX7_readAll RX7 := ⟨hx, hb, hml, hown, hts⟩
  have k_1 : (Cond.fieldLink RX7 99 "RoadDustModel" "spot" "I").before _ s = true := hts _ (by decide +kernel)
  have in_X7 : ∀ w ∈ wsX70, w ∈ wsX7_readAll := by decide +kernel
  refine lv_aload_n hx hb dX7_readAll_0 rfl (lv_at hl 0 rfl) ?_
  refine lv_iconst (v := 0) hx hb dX7_readAll_1 (by decide) ?_
  refine gM_put hx hb hts in_X7 hown hK hL hG hS 3 (by decide) rfl k_1 (fun _ h => h) rfl (by decide +kernel) dX7_readAll_2 (fun H locs hG hS => ?_)
  refine lv_aload_n hx hb dX7_readAll_5 rfl (lv_at hl 0 rfl) ?_
  refine lv_bipush (v := 82) hx hb dX7_readAll_6 (by decide) ?_
  refine g_callV (As := [.int 82]) (rest := []) (st1 := [.int (qX7_eat_v (upd A 3 0) T 82)]) hF (mX7_eat_q M R O hL (upd A 3 0) T D N V I K B 82 (RA_0 hA)) (cwV 1 hts gX7_readAll_X7_eat rfl rfl rfl (by decide +kernel) ⟨Nat.le_of_ble_eq_true rfl, Nat.le_of_ble_eq_true rfl⟩) hK hZ hG hS (hL.1 483 (by decide) (by decide)) (show gC 483 = (7, 24, 0) from rfl) (by decide) rfl rfl hl.1 (Nat.le_of_ble_eq_true rfl) dX7_readAll_8 ⟨Nat.zero_le _, Nat.zero_le _⟩ rfl rfl (fun H locs hG hS => ?_)
  refine lv_if_eq (tgt := 21) hx hb dX7_readAll_11 (by decide) (fun c_1 => ?_) (fun c_1 => absurd h1 c_1)
  refine lv_iconst (v := 0) hx hb dX7_readAll_21 (by decide) ?_
  exact g_zret hx hb hrt hlocks hS hG (by decide) rfl rfl dX7_readAll_22

set_option maxHeartbeats 4000000 in
set_option maxRecDepth 100000 in
theorem mX7_readAll_r {l : Launch} {Γ : gX} (M : Nat → Nat → Int32) (R : Nat → Nat → Option Nat) (O : Int64) (hL : LM Γ R) (A T D N V I K B : Nat → Int32) (hA : RA A) (h1 : ¬ qX7_eat_v (upd A 3 0) T 82 = 0) (A1 D1 : Nat → Int32) (hr : rrM 0 (qX7_eat_A (upd A 3 0) T 82) T D A1 D1) : gMet l Γ yX7_readAll wsX7_readAll 4 91 [.ref (gad Γ 483)] (mS M A T D N V I K B) R O (some (.int 0)) (mS M A1 T D1 N V I K B) R O := by
  refine g_start (cc := cX7_readAll) (maxL := 1) (ret := (some .boolean)) (by decide) rfl (Nat.le_of_ble_eq_true rfl) ?_
  intro p e s m below meth c ls hx hb hml hrt hts hown hlocks hname hK hZ hG hS hl
  have hl : lv_has ls 1 [(0, .ref (gad Γ 483))] := hl
  have hown : s.vm.findClass RX7 = some m.cls := hown
  have hF : CallFix p m c cX7_readAll 1 s _ wsX7_readAll RX7 := ⟨hx, hb, hml, hown, hts⟩
  have k_1 : (Cond.fieldLink RX7 99 "RoadDustModel" "spot" "I").before _ s = true := hts _ (by decide +kernel)
  have in_X7 : ∀ w ∈ wsX70, w ∈ wsX7_readAll := by decide +kernel
  refine lv_aload_n hx hb dX7_readAll_0 rfl (lv_at hl 0 rfl) ?_
  refine lv_iconst (v := 0) hx hb dX7_readAll_1 (by decide) ?_
  refine gM_put hx hb hts in_X7 hown hK hL hG hS 3 (by decide) rfl k_1 (fun _ h => h) rfl (by decide +kernel) dX7_readAll_2 (fun H locs hG hS => ?_)
  refine lv_aload_n hx hb dX7_readAll_5 rfl (lv_at hl 0 rfl) ?_
  refine lv_bipush (v := 82) hx hb dX7_readAll_6 (by decide) ?_
  refine g_callV (As := [.int 82]) (rest := []) (st1 := [.int (qX7_eat_v (upd A 3 0) T 82)]) hF (mX7_eat_q M R O hL (upd A 3 0) T D N V I K B 82 (RA_0 hA)) (cwV 1 hts gX7_readAll_X7_eat rfl rfl rfl (by decide +kernel) ⟨Nat.le_of_ble_eq_true rfl, Nat.le_of_ble_eq_true rfl⟩) hK hZ hG hS (hL.1 483 (by decide) (by decide)) (show gC 483 = (7, 24, 0) from rfl) (by decide) rfl rfl hl.1 (Nat.le_of_ble_eq_true rfl) dX7_readAll_8 ⟨Nat.zero_le _, Nat.zero_le _⟩ rfl rfl (fun H locs hG hS => ?_)
  refine lv_if_eq (tgt := 21) hx hb dX7_readAll_11 (by decide) (fun c_1 => absurd c_1 h1) (fun c_1 => ?_)
  refine lv_aload_n hx hb dX7_readAll_14 rfl (lv_at hl 0 rfl) ?_
  refine g_callV (As := []) (rest := []) (st1 := [.int 0]) hF (hr _ _ M R O hL N V I K B) (cwV 0 hts gX7_readAll_X7_readRoad rfl rfl rfl (by decide +kernel) ⟨Nat.le_of_ble_eq_true rfl, Nat.le_of_ble_eq_true rfl⟩) hK hZ hG hS (hL.1 483 (by decide) (by decide)) (show gC 483 = (7, 24, 0) from rfl) (by decide) rfl rfl hl.1 (Nat.le_of_ble_eq_true rfl) dX7_readAll_15 ⟨Nat.zero_le _, Nat.zero_le _⟩ rfl rfl (fun H locs hG hS => ?_)
  replace hG : GH Γ (mS M A1 T D1 N V I K B) R O H := hG
  refine lv_if_ne (tgt := 23) hx hb dX7_readAll_18 (by decide) (fun c_2 => absurd (by decide) c_2) (fun c_2 => ?_)
  refine lv_iconst (v := 0) hx hb dX7_readAll_21 (by decide) ?_
  exact g_zret hx hb hrt hlocks hS hG (by decide) rfl rfl dX7_readAll_22

set_option maxHeartbeats 4000000 in
set_option maxRecDepth 100000 in
theorem mX7_readAll_f {l : Launch} {Γ : gX} (M : Nat → Nat → Int32) (R : Nat → Nat → Option Nat) (O : Int64) (hL : LM Γ R) (A T D N V I K B : Nat → Int32) (hA : RA A) (h1 : ¬ qX7_eat_v (upd A 3 0) T 82 = 0) (A1 D1 : Nat → Int32) (hA1 : RA A1) (hD1 : WS D1) (hr : rrM 1 (qX7_eat_A (upd A 3 0) T 82) T D A1 D1) (kx : Nat) (hno : ∀ j, j < kx → (¬ (fX7_par_L T A1 D1 j).1 2 ≤ (fX7_par_L T A1 D1 j).1 3) ∧ ¬ qX7_readPart_v (fX7_par_L T A1 D1 j).1 T (fX7_par_L T A1 D1 j).2 = 0) (hyes : ¬ (fX7_par_L T A1 D1 kx).1 2 ≤ (fX7_par_L T A1 D1 kx).1 3) (hyes2 : qX7_readPart_v (fX7_par_L T A1 D1 kx).1 T (fX7_par_L T A1 D1 kx).2 = 0) : gMet l Γ yX7_readAll wsX7_readAll 4 91 [.ref (gad Γ 483)] (mS M A T D N V I K B) R O (some (.int 0)) (mS M (qX7_readPart_A (fX7_par_L T A1 D1 kx).1 T (fX7_par_L T A1 D1 kx).2) T (qX7_readPart_D (fX7_par_L T A1 D1 kx).1 T (fX7_par_L T A1 D1 kx).2) N V I K B) R O := by
  refine g_start (cc := cX7_readAll) (maxL := 1) (ret := (some .boolean)) (by decide) rfl (Nat.le_of_ble_eq_true rfl) ?_
  intro p e s m below meth c ls hx hb hml hrt hts hown hlocks hname hK hZ hG hS hl
  have hl : lv_has ls 1 [(0, .ref (gad Γ 483))] := hl
  have hown : s.vm.findClass RX7 = some m.cls := hown
  have hF : CallFix p m c cX7_readAll 1 s _ wsX7_readAll RX7 := ⟨hx, hb, hml, hown, hts⟩
  have k_1 : (Cond.fieldLink RX7 99 "RoadDustModel" "spot" "I").before _ s = true := hts _ (by decide +kernel)
  have in_X7 : ∀ w ∈ wsX70, w ∈ wsX7_readAll := by decide +kernel
  have k_3 : (Cond.fieldLink RX7 92 "RoadDustModel" "textSize" "I").before _ s = true := hts _ (by decide +kernel)
  refine lv_aload_n hx hb dX7_readAll_0 rfl (lv_at hl 0 rfl) ?_
  refine lv_iconst (v := 0) hx hb dX7_readAll_1 (by decide) ?_
  refine gM_put hx hb hts in_X7 hown hK hL hG hS 3 (by decide) rfl k_1 (fun _ h => h) rfl (by decide +kernel) dX7_readAll_2 (fun H locs hG hS => ?_)
  refine lv_aload_n hx hb dX7_readAll_5 rfl (lv_at hl 0 rfl) ?_
  refine lv_bipush (v := 82) hx hb dX7_readAll_6 (by decide) ?_
  refine g_callV (As := [.int 82]) (rest := []) (st1 := [.int (qX7_eat_v (upd A 3 0) T 82)]) hF (mX7_eat_q M R O hL (upd A 3 0) T D N V I K B 82 (RA_0 hA)) (cwV 1 hts gX7_readAll_X7_eat rfl rfl rfl (by decide +kernel) ⟨Nat.le_of_ble_eq_true rfl, Nat.le_of_ble_eq_true rfl⟩) hK hZ hG hS (hL.1 483 (by decide) (by decide)) (show gC 483 = (7, 24, 0) from rfl) (by decide) rfl rfl hl.1 (Nat.le_of_ble_eq_true rfl) dX7_readAll_8 ⟨Nat.zero_le _, Nat.zero_le _⟩ rfl rfl (fun H locs hG hS => ?_)
  refine lv_if_eq (tgt := 21) hx hb dX7_readAll_11 (by decide) (fun c_1 => absurd c_1 h1) (fun c_1 => ?_)
  refine lv_aload_n hx hb dX7_readAll_14 rfl (lv_at hl 0 rfl) ?_
  refine g_callV (As := []) (rest := []) (st1 := [.int 1]) hF (hr _ _ M R O hL N V I K B) (cwV 0 hts gX7_readAll_X7_readRoad rfl rfl rfl (by decide +kernel) ⟨Nat.le_of_ble_eq_true rfl, Nat.le_of_ble_eq_true rfl⟩) hK hZ hG hS (hL.1 483 (by decide) (by decide)) (show gC 483 = (7, 24, 0) from rfl) (by decide) rfl rfl hl.1 (Nat.le_of_ble_eq_true rfl) dX7_readAll_15 ⟨Nat.zero_le _, Nat.zero_le _⟩ rfl rfl (fun H locs hG hS => ?_)
  replace hG : GH Γ (mS M A1 T D1 N V I K B) R O H := hG
  refine lv_if_ne (tgt := 23) hx hb dX7_readAll_18 (by decide) (fun c_2 => ?_) (fun c_2 => absurd c_2 (by decide))
  refine g_loop (N := kx) (fun k H locs ls => GH Γ (mS M ((fX7_par_L T A1 D1 k).1) T ((fX7_par_L T A1 D1 k).2) N V I K B) R O H ∧ va_S (gA Γ) s.heap H locs ∧ lv_has ls 1 [(0, .ref (gad Γ 483))]) ?_ ?_ 0 (Nat.zero_le _) _ _ _ ⟨hG, hS, lv_sub hl [0] rfl⟩
  · rintro H locs ls ⟨hG, hS, hl⟩
    have kp := par_keeps (T := T) hA1 hD1 kx
    refine lv_aload_n hx hb dX7_readAll_23 rfl (lv_at hl 0 rfl) ?_
    refine gM_get hx hb hts in_X7 hown hK hL hG 3 (by decide) rfl k_1 (fun _ h => h) dX7_readAll_24 ?_
    refine lv_aload_n hx hb dX7_readAll_27 rfl (lv_at hl 0 rfl) ?_
    refine gM_get hx hb hts in_X7 hown hK hL hG 2 (by decide) rfl k_3 (fun _ h => h) dX7_readAll_28 ?_
    refine lv_icmp_ge (tgt := 43) hx hb dX7_readAll_31 (by decide) (fun c_3 => absurd c_3 hyes) (fun c_3 => ?_)
    refine lv_aload_n hx hb dX7_readAll_34 rfl (lv_at hl 0 rfl) ?_
    refine g_callV (As := []) (rest := []) (st1 := [.int (qX7_readPart_v ((fX7_par_L T A1 D1 kx).1) T ((fX7_par_L T A1 D1 kx).2) )]) hF (mX7_readPart_q M R O hL ((fX7_par_L T A1 D1 kx).1) T ((fX7_par_L T A1 D1 kx).2) N V I K B  kp.1 kp.2) (cwV 0 hts gX7_readAll_X7_readPart rfl rfl rfl (by decide +kernel) ⟨Nat.le_of_ble_eq_true rfl, Nat.le_of_ble_eq_true rfl⟩) hK hZ hG hS (hL.1 483 (by decide) (by decide)) (show gC 483 = (7, 24, 0) from rfl) (by decide) rfl rfl hl.1 (Nat.le_of_ble_eq_true rfl) dX7_readAll_35 ⟨Nat.zero_le _, Nat.zero_le _⟩ rfl rfl (fun H locs hG hS => ?_)
    refine lv_if_ne (tgt := 23) hx hb dX7_readAll_38 (by decide) (fun c_4 => absurd hyes2 c_4) (fun c_4 => ?_)
    refine lv_iconst (v := 0) hx hb dX7_readAll_41 (by decide) ?_
    exact g_zret hx hb hrt hlocks hS hG (by decide) rfl rfl dX7_readAll_42
  · rintro k hk_k ih_k H locs ls ⟨hG, hS, hl⟩
    have kp := par_keeps (T := T) hA1 hD1 k
    refine lv_aload_n hx hb dX7_readAll_23 rfl (lv_at hl 0 rfl) ?_
    refine gM_get hx hb hts in_X7 hown hK hL hG 3 (by decide) rfl k_1 (fun _ h => h) dX7_readAll_24 ?_
    refine lv_aload_n hx hb dX7_readAll_27 rfl (lv_at hl 0 rfl) ?_
    refine gM_get hx hb hts in_X7 hown hK hL hG 2 (by decide) rfl k_3 (fun _ h => h) dX7_readAll_28 ?_
    refine lv_icmp_ge (tgt := 43) hx hb dX7_readAll_31 (by decide) (fun c_5 => absurd c_5 ((hno k hk_k).1)) (fun c_5 => ?_)
    refine lv_aload_n hx hb dX7_readAll_34 rfl (lv_at hl 0 rfl) ?_
    refine g_callV (As := []) (rest := []) (st1 := [.int (qX7_readPart_v ((fX7_par_L T A1 D1 k).1) T ((fX7_par_L T A1 D1 k).2) )]) hF (mX7_readPart_q M R O hL ((fX7_par_L T A1 D1 k).1) T ((fX7_par_L T A1 D1 k).2) N V I K B  kp.1 kp.2) (cwV 0 hts gX7_readAll_X7_readPart rfl rfl rfl (by decide +kernel) ⟨Nat.le_of_ble_eq_true rfl, Nat.le_of_ble_eq_true rfl⟩) hK hZ hG hS (hL.1 483 (by decide) (by decide)) (show gC 483 = (7, 24, 0) from rfl) (by decide) rfl rfl hl.1 (Nat.le_of_ble_eq_true rfl) dX7_readAll_35 ⟨Nat.zero_le _, Nat.zero_le _⟩ rfl rfl (fun H locs hG hS => ?_)
    refine lv_if_ne (tgt := 23) hx hb dX7_readAll_38 (by decide) (fun c_6 => ?_) (fun c_6 => absurd c_6 ((hno k hk_k).2))
    exact ih_k _ _ _ ⟨hG, hS, lv_sub hl [0] rfl⟩

set_option maxHeartbeats 4000000 in
set_option maxRecDepth 100000 in
theorem mX7_readAll_y {l : Launch} {Γ : gX} (M : Nat → Nat → Int32) (R : Nat → Nat → Option Nat) (O : Int64) (hL : LM Γ R) (A T D N V I K B : Nat → Int32) (hA : RA A) (h1 : ¬ qX7_eat_v (upd A 3 0) T 82 = 0) (A1 D1 : Nat → Int32) (hA1 : RA A1) (hD1 : WS D1) (hr : rrM 1 (qX7_eat_A (upd A 3 0) T 82) T D A1 D1) (kx : Nat) (hno : ∀ j, j < kx → (¬ (fX7_par_L T A1 D1 j).1 2 ≤ (fX7_par_L T A1 D1 j).1 3) ∧ ¬ qX7_readPart_v (fX7_par_L T A1 D1 j).1 T (fX7_par_L T A1 D1 j).2 = 0) (hyes : (fX7_par_L T A1 D1 kx).1 2 ≤ (fX7_par_L T A1 D1 kx).1 3) : gMet l Γ yX7_readAll wsX7_readAll 4 91 [.ref (gad Γ 483)] (mS M A T D N V I K B) R O (some (.int 1)) (mS M ((fX7_par_L T A1 D1 kx).1) T (if qX7_filling_v (fX7_par_L T A1 D1 kx).2 = 0 then upd (fX7_par_L T A1 D1 kx).2 17 1 else (fX7_par_L T A1 D1 kx).2) N V I K B) R O := by
  refine g_start (cc := cX7_readAll) (maxL := 1) (ret := (some .boolean)) (by decide) rfl (Nat.le_of_ble_eq_true rfl) ?_
  intro p e s m below meth c ls hx hb hml hrt hts hown hlocks hname hK hZ hG hS hl
  have hl : lv_has ls 1 [(0, .ref (gad Γ 483))] := hl
  have hown : s.vm.findClass RX7 = some m.cls := hown
  have hF : CallFix p m c cX7_readAll 1 s _ wsX7_readAll RX7 := ⟨hx, hb, hml, hown, hts⟩
  have k_1 : (Cond.fieldLink RX7 99 "RoadDustModel" "spot" "I").before _ s = true := hts _ (by decide +kernel)
  have in_X7 : ∀ w ∈ wsX70, w ∈ wsX7_readAll := by decide +kernel
  have k_3 : (Cond.fieldLink RX7 92 "RoadDustModel" "textSize" "I").before _ s = true := hts _ (by decide +kernel)
  have k_4 : (Cond.fieldLink RX7 13 "RoadDustModel" "read" "[I").before _ s = true := hts _ (by decide +kernel)
  refine lv_aload_n hx hb dX7_readAll_0 rfl (lv_at hl 0 rfl) ?_
  refine lv_iconst (v := 0) hx hb dX7_readAll_1 (by decide) ?_
  refine gM_put hx hb hts in_X7 hown hK hL hG hS 3 (by decide) rfl k_1 (fun _ h => h) rfl (by decide +kernel) dX7_readAll_2 (fun H locs hG hS => ?_)
  refine lv_aload_n hx hb dX7_readAll_5 rfl (lv_at hl 0 rfl) ?_
  refine lv_bipush (v := 82) hx hb dX7_readAll_6 (by decide) ?_
  refine g_callV (As := [.int 82]) (rest := []) (st1 := [.int (qX7_eat_v (upd A 3 0) T 82)]) hF (mX7_eat_q M R O hL (upd A 3 0) T D N V I K B 82 (RA_0 hA)) (cwV 1 hts gX7_readAll_X7_eat rfl rfl rfl (by decide +kernel) ⟨Nat.le_of_ble_eq_true rfl, Nat.le_of_ble_eq_true rfl⟩) hK hZ hG hS (hL.1 483 (by decide) (by decide)) (show gC 483 = (7, 24, 0) from rfl) (by decide) rfl rfl hl.1 (Nat.le_of_ble_eq_true rfl) dX7_readAll_8 ⟨Nat.zero_le _, Nat.zero_le _⟩ rfl rfl (fun H locs hG hS => ?_)
  refine lv_if_eq (tgt := 21) hx hb dX7_readAll_11 (by decide) (fun c_1 => absurd c_1 h1) (fun c_1 => ?_)
  refine lv_aload_n hx hb dX7_readAll_14 rfl (lv_at hl 0 rfl) ?_
  refine g_callV (As := []) (rest := []) (st1 := [.int 1]) hF (hr _ _ M R O hL N V I K B) (cwV 0 hts gX7_readAll_X7_readRoad rfl rfl rfl (by decide +kernel) ⟨Nat.le_of_ble_eq_true rfl, Nat.le_of_ble_eq_true rfl⟩) hK hZ hG hS (hL.1 483 (by decide) (by decide)) (show gC 483 = (7, 24, 0) from rfl) (by decide) rfl rfl hl.1 (Nat.le_of_ble_eq_true rfl) dX7_readAll_15 ⟨Nat.zero_le _, Nat.zero_le _⟩ rfl rfl (fun H locs hG hS => ?_)
  replace hG : GH Γ (mS M A1 T D1 N V I K B) R O H := hG
  refine lv_if_ne (tgt := 23) hx hb dX7_readAll_18 (by decide) (fun c_2 => ?_) (fun c_2 => absurd c_2 (by decide))
  refine g_loop (N := kx) (fun k H locs ls => GH Γ (mS M ((fX7_par_L T A1 D1 k).1) T ((fX7_par_L T A1 D1 k).2) N V I K B) R O H ∧ va_S (gA Γ) s.heap H locs ∧ lv_has ls 1 [(0, .ref (gad Γ 483))]) ?_ ?_ 0 (Nat.zero_le _) _ _ _ ⟨hG, hS, lv_sub hl [0] rfl⟩
  · rintro H locs ls ⟨hG, hS, hl⟩
    have kp := par_keeps (T := T) hA1 hD1 kx
    refine lv_aload_n hx hb dX7_readAll_23 rfl (lv_at hl 0 rfl) ?_
    refine gM_get hx hb hts in_X7 hown hK hL hG 3 (by decide) rfl k_1 (fun _ h => h) dX7_readAll_24 ?_
    refine lv_aload_n hx hb dX7_readAll_27 rfl (lv_at hl 0 rfl) ?_
    refine gM_get hx hb hts in_X7 hown hK hL hG 2 (by decide) rfl k_3 (fun _ h => h) dX7_readAll_28 ?_
    refine lv_icmp_ge (tgt := 43) hx hb dX7_readAll_31 (by decide) (fun c_3 => ?_) (fun c_3 => absurd hyes c_3)
    refine lv_aload_n hx hb dX7_readAll_43 rfl (lv_at hl 0 rfl) ?_
    refine g_callV (As := []) (rest := []) (st1 := [.int (qX7_filling_v ((fX7_par_L T A1 D1 kx).2) )]) hF (mX7_filling_q M R O hL ((fX7_par_L T A1 D1 kx).1) T ((fX7_par_L T A1 D1 kx).2) N V I K B  kp.2) (cwV 0 hts gX7_readAll_X7_filling rfl rfl rfl (by decide +kernel) ⟨Nat.le_of_ble_eq_true rfl, Nat.le_of_ble_eq_true rfl⟩) hK hZ hG hS (hL.1 483 (by decide) (by decide)) (show gC 483 = (7, 24, 0) from rfl) (by decide) rfl rfl hl.1 (Nat.le_of_ble_eq_true rfl) dX7_readAll_44 ⟨Nat.zero_le _, Nat.zero_le _⟩ rfl rfl (fun H locs hG hS => ?_)
    refine lv_if_ne (tgt := 58) hx hb dX7_readAll_47 (by decide) (fun c_4 => ?_) (fun c_4 => ?_)
    · --T
      refine lv_iconst (v := 1) hx hb dX7_readAll_58 (by decide) ?_
      exact g_zret hx hb hrt hlocks hS hG (by decide) rfl (mS_c rfl rfl (by rw [if_neg c_4]) rfl rfl rfl rfl rfl) dX7_readAll_59
    · --F
      refine lv_aload_n hx hb dX7_readAll_50 rfl (lv_at hl 0 rfl) ?_
      refine gM_getr hx hb hts in_X7 hown hK hL hG 4 (by decide) rfl hL.2.2.1 k_4 (fun _ h => h) dX7_readAll_51 ?_
      refine lv_bipush (v := 17) hx hb dX7_readAll_54 (by decide) ?_
      refine lv_iconst (v := 1) hx hb dX7_readAll_56 (by decide) ?_
      refine gm_ast (M2 := mS M ((fX7_par_L T A1 D1 kx).1) T (upd ((fX7_par_L T A1 D1 kx).2) 17 1) N V I K B) hx hb hK hG hS (hL.1 485 (by decide) (by decide)) (show gC 485 = (9, 26, 0) from rfl) (show gLen 485 = 131 from rfl) (by decide) (j := 17) rfl (by omega) (mS_p26 _ _ _ _ _ _ _ _ _ _ _) dX7_readAll_57 (fun H locs hG hS => ?_)
      refine lv_iconst (v := 1) hx hb dX7_readAll_58 (by decide) ?_
      exact g_zret hx hb hrt hlocks hS hG (by decide) rfl (mS_c rfl rfl (by rw [if_pos c_4]) rfl rfl rfl rfl rfl) dX7_readAll_59
  · rintro k hk_k ih_k H locs ls ⟨hG, hS, hl⟩
    have kp := par_keeps (T := T) hA1 hD1 k
    refine lv_aload_n hx hb dX7_readAll_23 rfl (lv_at hl 0 rfl) ?_
    refine gM_get hx hb hts in_X7 hown hK hL hG 3 (by decide) rfl k_1 (fun _ h => h) dX7_readAll_24 ?_
    refine lv_aload_n hx hb dX7_readAll_27 rfl (lv_at hl 0 rfl) ?_
    refine gM_get hx hb hts in_X7 hown hK hL hG 2 (by decide) rfl k_3 (fun _ h => h) dX7_readAll_28 ?_
    refine lv_icmp_ge (tgt := 43) hx hb dX7_readAll_31 (by decide) (fun c_5 => absurd c_5 ((hno k hk_k).1)) (fun c_5 => ?_)
    refine lv_aload_n hx hb dX7_readAll_34 rfl (lv_at hl 0 rfl) ?_
    refine g_callV (As := []) (rest := []) (st1 := [.int (qX7_readPart_v ((fX7_par_L T A1 D1 k).1) T ((fX7_par_L T A1 D1 k).2) )]) hF (mX7_readPart_q M R O hL ((fX7_par_L T A1 D1 k).1) T ((fX7_par_L T A1 D1 k).2) N V I K B  kp.1 kp.2) (cwV 0 hts gX7_readAll_X7_readPart rfl rfl rfl (by decide +kernel) ⟨Nat.le_of_ble_eq_true rfl, Nat.le_of_ble_eq_true rfl⟩) hK hZ hG hS (hL.1 483 (by decide) (by decide)) (show gC 483 = (7, 24, 0) from rfl) (by decide) rfl rfl hl.1 (Nat.le_of_ble_eq_true rfl) dX7_readAll_35 ⟨Nat.zero_le _, Nat.zero_le _⟩ rfl rfl (fun H locs hG hS => ?_)
    refine lv_if_ne (tgt := 23) hx hb dX7_readAll_38 (by decide) (fun c_6 => ?_) (fun c_6 => absurd c_6 ((hno k hk_k).2))
    exact ih_k _ _ _ ⟨hG, hS, lv_sub hl [0] rfl⟩

def raM (v : Int32) (A T D A1 D1 : Nat → Int32) : Prop := ∀ (l : Launch) (Γ : gX) (M : Nat → Nat → Int32) (R : Nat → Nat → Option Nat) (O : Int64), LM Γ R → ∀ N V I K B : Nat → Int32, gMet l Γ yX7_readAll wsX7_readAll 4 91 [.ref (gad Γ 483)] (mS M A T D N V I K B) R O (some (.int v)) (mS M A1 T D1 N V I K B) R O
set_option maxHeartbeats 4000000 in
set_option maxRecDepth 100000 in
theorem mX7_errorPosition_n {l : Launch} {Γ : gX} (M : Nat → Nat → Int32) (R : Nat → Nat → Option Nat) (O : Int64) (hL : LM Γ R) (A T D N V I K B : Nat → Int32) (A1 D1 : Nat → Int32) (hr : raM 0 (upd A 0 0) T D A1 D1) : gMet l Γ yX7_errorPosition wsX7_errorPosition 5 111 [.ref (gad Γ 483)] (mS M A T D N V I K B) R O (some (.int (A1 3))) (mS M A1 T D1 N V I K B) R O := by
  refine g_start (cc := cX7_errorPosition) (maxL := 1) (ret := (some .int)) (by decide) rfl (Nat.le_of_ble_eq_true rfl) ?_
  intro p e s m below meth c ls hx hb hml hrt hts hown hlocks hname hK hZ hG hS hl
  have hl : lv_has ls 1 [(0, .ref (gad Γ 483))] := hl
  have hown : s.vm.findClass RX7 = some m.cls := hown
  have hF : CallFix p m c cX7_errorPosition 1 s _ wsX7_errorPosition RX7 := ⟨hx, hb, hml, hown, hts⟩
  have k_1 : (Cond.fieldLink RX7 36 "RoadDustModel" "refusal" "I").before _ s = true := hts _ (by decide +kernel)
  have in_X7 : ∀ w ∈ wsX70, w ∈ wsX7_errorPosition := by decide +kernel
  have k_3 : (Cond.fieldLink RX7 99 "RoadDustModel" "spot" "I").before _ s = true := hts _ (by decide +kernel)
  refine lv_aload_n hx hb dX7_errorPosition_0 rfl (lv_at hl 0 rfl) ?_
  refine lv_iconst (v := 0) hx hb dX7_errorPosition_1 (by decide) ?_
  refine gM_put hx hb hts in_X7 hown hK hL hG hS 0 (by decide) rfl k_1 (fun _ h => h) rfl (by decide +kernel) dX7_errorPosition_2 (fun H locs hG hS => ?_)
  refine lv_aload_n hx hb dX7_errorPosition_5 rfl (lv_at hl 0 rfl) ?_
  refine g_callV (As := []) (rest := []) (st1 := [.int 0]) hF (hr _ _ M R O hL N V I K B) (cwV 0 hts gX7_errorPosition_X7_readAll rfl rfl rfl (by decide +kernel) ⟨Nat.le_of_ble_eq_true rfl, Nat.le_of_ble_eq_true rfl⟩) hK hZ hG hS (hL.1 483 (by decide) (by decide)) (show gC 483 = (7, 24, 0) from rfl) (by decide) rfl rfl hl.1 (Nat.le_of_ble_eq_true rfl) dX7_errorPosition_6 ⟨Nat.zero_le _, Nat.zero_le _⟩ rfl rfl (fun H locs hG hS => ?_)
  replace hG : GH Γ (mS M A1 T D1 N V I K B) R O H := hG
  refine lv_if_eq (tgt := 17) hx hb dX7_errorPosition_9 (by decide) (fun c_1 => ?_) (fun c_1 => absurd (by decide) c_1)
  refine lv_aload_n hx hb dX7_errorPosition_17 rfl (lv_at hl 0 rfl) ?_
  refine gM_get hx hb hts in_X7 hown hK hL hG 3 (by decide) rfl k_3 (fun _ h => h) dX7_errorPosition_18 ?_
  exact g_iret hx hb hrt hlocks hS hG rfl rfl dX7_errorPosition_21

set_option maxHeartbeats 4000000 in
set_option maxRecDepth 100000 in
theorem mX7_load_n {l : Launch} {Γ : gX} (M : Nat → Nat → Int32) (R : Nat → Nat → Option Nat) (O : Int64) (hL : LM Γ R) (A T D N V I K B : Nat → Int32) (A1 D1 : Nat → Int32) (hr : raM 0 A T D A1 D1) : gMet l Γ yX7_load wsX7_load 5 111 [.ref (gad Γ 483)] (mS M A T D N V I K B) R O (some (.int 0)) (mS M (upd A1 0 1) T D1 N V I K B) R O := by
  refine g_start (cc := cX7_load) (maxL := 1) (ret := (some .int)) (by decide) rfl (Nat.le_of_ble_eq_true rfl) ?_
  intro p e s m below meth c ls hx hb hml hrt hts hown hlocks hname hK hZ hG hS hl
  have hl : lv_has ls 1 [(0, .ref (gad Γ 483))] := hl
  have hown : s.vm.findClass RX7 = some m.cls := hown
  have hF : CallFix p m c cX7_load 1 s _ wsX7_load RX7 := ⟨hx, hb, hml, hown, hts⟩
  refine lv_aload_n hx hb dX7_load_0 rfl (lv_at hl 0 rfl) ?_
  refine lv_aload_n hx hb dX7_load_1 rfl (lv_at hl 0 rfl) ?_
  refine g_callV (As := []) (rest := [.ref (gad Γ 483)]) (st1 := [.int 0, .ref (gad Γ 483)]) hF (hr _ _ M R O hL N V I K B) (cwV 0 hts gX7_load_X7_readAll rfl rfl rfl (by decide +kernel) ⟨Nat.le_of_ble_eq_true rfl, Nat.le_of_ble_eq_true rfl⟩) hK hZ hG hS (hL.1 483 (by decide) (by decide)) (show gC 483 = (7, 24, 0) from rfl) (by decide) rfl rfl hl.1 (Nat.le_of_ble_eq_true rfl) dX7_load_2 ⟨Nat.zero_le _, Nat.zero_le _⟩ rfl rfl (fun H locs hG hS => ?_)
  replace hG : GH Γ (mS M A1 T D1 N V I K B) R O H := hG
  refine lv_if_eq (tgt := 12) hx hb dX7_load_5 (by decide) (fun c_1 => ?_) (fun c_1 => absurd (by decide) c_1)
  refine lv_iconst (v := 1) hx hb dX7_load_12 (by decide) ?_
  refine g_callV (As := [.int 1]) (rest := []) (st1 := [.int 1]) hF (mX7_refused_l M R O hL A1 T D1 N V I K B 1 1 (by decide)) (cwV 1 hts gX7_load_X7_refused rfl rfl rfl (by decide +kernel) ⟨Nat.le_of_ble_eq_true rfl, Nat.le_of_ble_eq_true rfl⟩) hK hZ hG hS (hL.1 483 (by decide) (by decide)) (show gC 483 = (7, 24, 0) from rfl) (by decide) rfl rfl hl.1 (Nat.le_of_ble_eq_true rfl) dX7_load_13 ⟨Nat.zero_le _, Nat.zero_le _⟩ rfl rfl (fun H locs hG hS => ?_)
  refine lv_if_eq (tgt := 21) hx hb dX7_load_16 (by decide) (fun c_2 => absurd c_2 (by decide)) (fun c_2 => ?_)
  refine lv_iconst (v := 0) hx hb dX7_load_19 (by decide) ?_
  exact g_iret hx hb hrt hlocks hS hG rfl rfl dX7_load_20

set_option maxHeartbeats 4000000 in
set_option maxRecDepth 100000 in
theorem mX7_errorPosition_y {l : Launch} {Γ : gX} (M : Nat → Nat → Int32) (R : Nat → Nat → Option Nat) (O : Int64) (hL : LM Γ R) (A T D N V I K B : Nat → Int32) (A1 D1 : Nat → Int32) (hr : raM 1 (upd A 0 0) T D A1 D1) : gMet l Γ yX7_errorPosition wsX7_errorPosition 5 111 [.ref (gad Γ 483)] (mS M A T D N V I K B) R O (some (.int (-9))) (mS M A1 T D1 N V I K B) R O := by
  refine g_start (cc := cX7_errorPosition) (maxL := 1) (ret := (some .int)) (by decide) rfl (Nat.le_of_ble_eq_true rfl) ?_
  intro p e s m below meth c ls hx hb hml hrt hts hown hlocks hname hK hZ hG hS hl
  have hl : lv_has ls 1 [(0, .ref (gad Γ 483))] := hl
  have hown : s.vm.findClass RX7 = some m.cls := hown
  have hF : CallFix p m c cX7_errorPosition 1 s _ wsX7_errorPosition RX7 := ⟨hx, hb, hml, hown, hts⟩
  have k_1 : (Cond.fieldLink RX7 36 "RoadDustModel" "refusal" "I").before _ s = true := hts _ (by decide +kernel)
  have in_X7 : ∀ w ∈ wsX70, w ∈ wsX7_errorPosition := by decide +kernel
  refine lv_aload_n hx hb dX7_errorPosition_0 rfl (lv_at hl 0 rfl) ?_
  refine lv_iconst (v := 0) hx hb dX7_errorPosition_1 (by decide) ?_
  refine gM_put hx hb hts in_X7 hown hK hL hG hS 0 (by decide) rfl k_1 (fun _ h => h) rfl (by decide +kernel) dX7_errorPosition_2 (fun H locs hG hS => ?_)
  refine lv_aload_n hx hb dX7_errorPosition_5 rfl (lv_at hl 0 rfl) ?_
  refine g_callV (As := []) (rest := []) (st1 := [.int 1]) hF (hr _ _ M R O hL N V I K B) (cwV 0 hts gX7_errorPosition_X7_readAll rfl rfl rfl (by decide +kernel) ⟨Nat.le_of_ble_eq_true rfl, Nat.le_of_ble_eq_true rfl⟩) hK hZ hG hS (hL.1 483 (by decide) (by decide)) (show gC 483 = (7, 24, 0) from rfl) (by decide) rfl rfl hl.1 (Nat.le_of_ble_eq_true rfl) dX7_errorPosition_6 ⟨Nat.zero_le _, Nat.zero_le _⟩ rfl rfl (fun H locs hG hS => ?_)
  replace hG : GH Γ (mS M A1 T D1 N V I K B) R O H := hG
  refine lv_if_eq (tgt := 17) hx hb dX7_errorPosition_9 (by decide) (fun c_1 => absurd c_1 (by decide)) (fun c_1 => ?_)
  refine lv_bipush (v := (-9)) hx hb dX7_errorPosition_12 (by decide) ?_
  refine lv_goto (tgt := 21) hx hb dX7_errorPosition_14 (by decide) ?_
  exact g_iret hx hb hrt hlocks hS hG rfl rfl dX7_errorPosition_21

set_option maxHeartbeats 4000000 in
set_option maxRecDepth 100000 in
theorem mX7_load_y {l : Launch} {Γ : gX} (M : Nat → Nat → Int32) (R : Nat → Nat → Option Nat) (O : Int64) (hL : LM Γ R) (A T D N V I K B : Nat → Int32) (A1 D1 : Nat → Int32) (hr : raM 1 A T D A1 D1) : gMet l Γ yX7_load wsX7_load 5 111 [.ref (gad Γ 483)] (mS M A T D N V I K B) R O (some (.int (fX7_copyPage_P D1 N 0 0 0))) (mS M (upd (upd A1 0 0) 8 0) T D1 (fX7_copyPage_P D1 N 0 0) V I K (upd (upd B 0 0) 1 0)) R O := by
  refine g_start (cc := cX7_load) (maxL := 1) (ret := (some .int)) (by decide) rfl (Nat.le_of_ble_eq_true rfl) ?_
  intro p e s m below meth c ls hx hb hml hrt hts hown hlocks hname hK hZ hG hS hl
  have hl : lv_has ls 1 [(0, .ref (gad Γ 483))] := hl
  have hown : s.vm.findClass RX7 = some m.cls := hown
  have hF : CallFix p m c cX7_load 1 s _ wsX7_load RX7 := ⟨hx, hb, hml, hown, hts⟩
  have k_1 : (Cond.fieldLink RX7 13 "RoadDustModel" "read" "[I").before _ s = true := hts _ (by decide +kernel)
  have in_X7 : ∀ w ∈ wsX70, w ∈ wsX7_load := by decide +kernel
  have k_3 : (Cond.fieldLink RX7 16 "RoadDustModel" "now" "[I").before _ s = true := hts _ (by decide +kernel)
  have k_4 : (Cond.fieldLink RX7 143 "RoadDustModel" "acts" "I").before _ s = true := hts _ (by decide +kernel)
  have k_5 : (Cond.fieldLink RX7 28 "RoadDustModel" "isKept" "[Z").before _ s = true := hts _ (by decide +kernel)
  refine lv_aload_n hx hb dX7_load_0 rfl (lv_at hl 0 rfl) ?_
  refine lv_aload_n hx hb dX7_load_1 rfl (lv_at hl 0 rfl) ?_
  refine g_callV (As := []) (rest := [.ref (gad Γ 483)]) (st1 := [.int 1, .ref (gad Γ 483)]) hF (hr _ _ M R O hL N V I K B) (cwV 0 hts gX7_load_X7_readAll rfl rfl rfl (by decide +kernel) ⟨Nat.le_of_ble_eq_true rfl, Nat.le_of_ble_eq_true rfl⟩) hK hZ hG hS (hL.1 483 (by decide) (by decide)) (show gC 483 = (7, 24, 0) from rfl) (by decide) rfl rfl hl.1 (Nat.le_of_ble_eq_true rfl) dX7_load_2 ⟨Nat.zero_le _, Nat.zero_le _⟩ rfl rfl (fun H locs hG hS => ?_)
  replace hG : GH Γ (mS M A1 T D1 N V I K B) R O H := hG
  refine lv_if_eq (tgt := 12) hx hb dX7_load_5 (by decide) (fun c_1 => absurd c_1 (by decide)) (fun c_1 => ?_)
  refine lv_iconst (v := 0) hx hb dX7_load_8 (by decide) ?_
  refine lv_goto (tgt := 13) hx hb dX7_load_9 (by decide) ?_
  refine g_callV (As := [.int 0]) (rest := []) (st1 := [.int 0]) hF (mX7_refused_l M R O hL A1 T D1 N V I K B 0 0 (by decide)) (cwV 1 hts gX7_load_X7_refused rfl rfl rfl (by decide +kernel) ⟨Nat.le_of_ble_eq_true rfl, Nat.le_of_ble_eq_true rfl⟩) hK hZ hG hS (hL.1 483 (by decide) (by decide)) (show gC 483 = (7, 24, 0) from rfl) (by decide) rfl rfl hl.1 (Nat.le_of_ble_eq_true rfl) dX7_load_13 ⟨Nat.zero_le _, Nat.zero_le _⟩ rfl rfl (fun H locs hG hS => ?_)
  refine lv_if_eq (tgt := 21) hx hb dX7_load_16 (by decide) (fun c_2 => ?_) (fun c_2 => absurd (by decide) c_2)
  refine lv_aload_n hx hb dX7_load_21 rfl (lv_at hl 0 rfl) ?_
  refine gM_getr hx hb hts in_X7 hown hK hL hG 4 (by decide) rfl hL.2.2.1 k_1 (fun _ h => h) dX7_load_22 ?_
  refine lv_iconst (v := 0) hx hb dX7_load_25 (by decide) ?_
  refine lv_aload_n hx hb dX7_load_26 rfl (lv_at hl 0 rfl) ?_
  refine gM_getr hx hb hts in_X7 hown hK hL hG 5 (by decide) rfl hL.2.2.2.1 k_3 (fun _ h => h) dX7_load_27 ?_
  refine lv_iconst (v := 0) hx hb dX7_load_30 (by decide) ?_
  refine g_callS (As := [.ref (gad Γ 485), .int 0, .ref (gad Γ 486), .int 0]) (rest := []) (st1 := []) hF (mX7_copyPage_q (mS M (upd A1 0 0) T D1 N V I K B) R O (hL.1 485 (by decide) (by decide)) (show gC 485 = (9, 26, 0) from rfl) (show gLen 485 = 131 from rfl) (hL.1 486 (by decide) (by decide)) (show gC 486 = (9, 27, 0) from rfl) (show gLen 486 = 131 from rfl) (by decide) 0 0 rfl rfl (by omega) (by omega) (by decide) (by decide) N _ (mS_b26 _ _ _ _ _ _ _ _ _)) (va_cwS 4 hts gX7_load_X7_copyPage rfl rfl rfl (by decide +kernel) ⟨Nat.le_of_ble_eq_true rfl, Nat.le_of_ble_eq_true rfl⟩) hK hZ (g_st (show _ = va_up (mS M (upd A1 0 0) T D1 N V I K B) 27 N from (mS_u27 _ _ _ _ _ _ _ _ _ _).symm) hG) hS rfl hl.1 (Nat.le_of_ble_eq_true rfl) dX7_load_31 ⟨Nat.zero_le _, Nat.zero_le _⟩ rfl rfl (fun H locs hG hS => ?_)
  replace hG : GH Γ (mS M (upd A1 0 0) T D1 (fX7_copyPage_P D1 N 0 0) V I K B) R O H := g_st (mS_u27 _ _ _ _ _ _ _ _ _ _) hG
  refine lv_aload_n hx hb dX7_load_34 rfl (lv_at hl 0 rfl) ?_
  refine lv_iconst (v := 0) hx hb dX7_load_35 (by decide) ?_
  refine gM_put hx hb hts in_X7 hown hK hL hG hS 8 (by decide) rfl k_4 (fun _ h => h) rfl (by decide +kernel) dX7_load_36 (fun H locs hG hS => ?_)
  refine lv_aload_n hx hb dX7_load_39 rfl (lv_at hl 0 rfl) ?_
  refine gM_getr hx hb hts in_X7 hown hK hL hG 10 (by decide) rfl hL.2.2.2.2.2.2.2 k_5 (fun _ h => h) dX7_load_40 ?_
  refine lv_iconst (v := 0) hx hb dX7_load_43 (by decide) ?_
  refine lv_iconst (v := 0) hx hb dX7_load_44 (by decide) ?_
  refine gm_zast (M2 := mS M (upd (upd A1 0 0) 8 0) T D1 (fX7_copyPage_P D1 N 0 0) V I K (upd B 0 0)) hx hb hK hG hS (hL.1 490 (by decide) (by decide)) (show gC 490 = (10, 31, 0) from rfl) (show gLen 490 = 2 from rfl) (by decide) (j := 0) rfl (by omega) rfl (mS_p31 _ _ _ _ _ _ _ _ _ _ _) dX7_load_45 (fun H locs hG hS => ?_)
  refine lv_aload_n hx hb dX7_load_46 rfl (lv_at hl 0 rfl) ?_
  refine gM_getr hx hb hts in_X7 hown hK hL hG 10 (by decide) rfl hL.2.2.2.2.2.2.2 k_5 (fun _ h => h) dX7_load_47 ?_
  refine lv_iconst (v := 1) hx hb dX7_load_50 (by decide) ?_
  refine lv_iconst (v := 0) hx hb dX7_load_51 (by decide) ?_
  refine gm_zast (M2 := mS M (upd (upd A1 0 0) 8 0) T D1 (fX7_copyPage_P D1 N 0 0) V I K (upd (upd B 0 0) 1 0)) hx hb hK hG hS (hL.1 490 (by decide) (by decide)) (show gC 490 = (10, 31, 0) from rfl) (show gLen 490 = 2 from rfl) (by decide) (j := 1) rfl (by omega) rfl (mS_p31 _ _ _ _ _ _ _ _ _ _ _) dX7_load_52 (fun H locs hG hS => ?_)
  refine lv_aload_n hx hb dX7_load_53 rfl (lv_at hl 0 rfl) ?_
  refine gM_getr hx hb hts in_X7 hown hK hL hG 5 (by decide) rfl hL.2.2.2.1 k_3 (fun _ h => h) dX7_load_54 ?_
  refine lv_iconst (v := 0) hx hb dX7_load_57 (by decide) ?_
  refine gm_ald hx hb hK hG (hL.1 486 (by decide) (by decide)) (show gC 486 = (9, 27, 0) from rfl) (show gLen 486 = 131 from rfl) (by decide) (j := 0) rfl (by omega) (v := (fX7_copyPage_P D1 N 0 0) 0) (mS_a27 _ _ _ _ _ _ _ _ _ _) dX7_load_58 ?_
  exact g_iret hx hb hrt hlocks hS hG rfl rfl dX7_load_59

