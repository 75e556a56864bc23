/-! CONSTRUCTORS: the text, the history. Laid by gen/p25.py. -/
set_option maxHeartbeats 4000000 in
set_option maxRecDepth 100000 in
theorem mX4_init {l : Launch} {Γ0 : gX} (M : Nat → Nat → Int32) (R : Nat → Nat → Option Nat) (O : Int64) (hm : 476 ∈ gcs Γ0) (hfr : ∀ c, c = 477 → c ∉ gcs Γ0) (hRC : RC (gcs Γ0) R) (hM0 : M 20 = fun _ => 0) : gNew l Γ0 yX4_init wsX4_init 1 20 1 70 [.ref (gad Γ0 476)] M R O (fun c => c = 477) M (up2R R 476 0 (some 477)) := by
  refine g_startN (cc := cX4_init) (maxL := 1) (ret := none) (by decide) rfl (Nat.le_of_ble_eq_true rfl) ?_
  intro p e s m below meth c ls hx hb hml hrt hts hown hlocks hname hK hZ hG hS hl hA
  have hl : lv_has ls 1 [(0, .ref (gad Γ0 476))] := hl
  have hown : s.vm.findClass RX4 = some m.cls := hown
  have hF : CallFix p m c cX4_init 1 s _ wsX4_init RX4 := ⟨hx, hb, hml, hown, hts⟩
  have k_1 : (Cond.methodLink RX4 3 objectInit).before _ s = true := hts _ (by decide +kernel)
  have k_2 : (Cond.instanceMethod objectInit).before _ s = true := hts _ (by decide +kernel)
  have k_3 : (Cond.code objectInit ⟨#[0xb1]⟩ 1 none).before _ s = true := hts _ (by decide +kernel)
  have k_4 : (Cond.arrayClass .char).before _ s = true := hts _ (by decide +kernel)
  have k_5 : (Cond.fieldLink RX4 9 "RoadDust$Text" "signs" "[C").before _ s = true := hts _ (by decide +kernel)
  have in_X4 : ∀ w ∈ wsX40, w ∈ wsX4_init := by decide +kernel
  have gz0 : gSz 0 = 2 := rfl
  have gz1 : gSz 1 = 5 := rfl
  have gz2 : gSz 2 = 15 := rfl
  have gz3 : gSz 3 = 7 := rfl
  have gz4 : gSz 4 = 4 := rfl
  have gz5 : gSz 5 = 3 := rfl
  have gz6 : gSz 6 = 7 := rfl
  have gz7 : gSz 7 = 11 := rfl
  have hZ0 := hZ
  have hE : Ext Γ0 Γ0 (fun c => c < 0) := Ext.rf (fun _ h => Nat.not_lt_zero _ h)
  refine lv_aload_n hx hb dX4_init_0 rfl (lv_at hl 0 rfl) ?_
  refine W.objInit hx hb hown k_1 k_2 k_3 rfl (by rw [hml]; exact hl.1) rfl dX4_init_1 (Nat.le_of_ble_eq_true rfl) (Nat.le_of_ble_eq_true rfl) ?_
  refine W.eq (g2 := F0 m 4 ls []) rfl ?_
  refine lv_aload_n hx hb dX4_init_4 rfl (lv_at hl 0 rfl) ?_
  refine lv_bipush (v := 70) hx hb dX4_init_5 (by decide) ?_
  refine g_newA (atype := .char) (ty := .char) hx hb k_4 rfl rfl hK hG hS hZ.2.2 (show gC 477 = (8, 20, 0) from rfl) (by decide) (by decide) rfl (show gLen 477 = 70 from rfl) (hE.out (hfr _ (by omega)) (by show ¬ (477 < 0); omega)) hRC hM0 (by decide) rfl (by decide) (by show _ ≤ 1; decide) (by show _ ≤ 70; decide) dX4_init_7 (fun Γ H hE1 hG hK hRC hS => ?_)
  have hEo := hE
  replace hE := hE.trans (P := fun c => c = 477) hE1 (fun c => by show (c = 477) ↔ (c < 0) ∨ (c = 477); omega)
  replace hl : lv_has ls 1 [(0, .ref (gad Γ 476))] := by rw [hE1.2.2.2 (476) hm]; exact hl
  refine W.eq (g2 := F0 m (9) ls [.ref (gad Γ 477), .ref (gad Γ 476)]) (by rw [hE1.2.2.2 (476) hm]) ?_
  replace hm := hE1.mem hm
  replace hZ := hE1.toZ hZ
  refine g_putF (C := RX4) (T := TX4) (ci := 4) hx hb hts in_X4 tyX4 tyX4_ok nmX4 hown hK hG hS hm (show gC 476 = (4, 19, 0) from rfl) (by decide) rfl 0 (by decide) k_5 (fun _ h => h) rfl (by decide +kernel) hname (by decide +kernel) (tyX4_ok 0 (by decide)) rfl rfl dX4_init_9 (fun H locs hG hS => ?_)
  replace hRC := RC.up hRC (c := 476) (k := 0) (d := 477) (hE.new (by show 477 = 477; omega))
  exact g_nret hx hb hrt hlocks hE hK hRC hS hG (by show _ ≤ 1; decide) (by show _ ≤ 70; decide) dX4_init_12

def hisM (M : Nat → Nat → Int32) : Nat → Nat → Nat → Int32
  | 0 => M
  | k + 1 => va_up (hisM M k) (4 + k) newP
def hisR (R : Nat → Nat → Option Nat) : Nat → Nat → Nat → Option Nat
  | 0 => up2R R 478 0 (some 479)
  | k + 1 => up2R (RoadR (hisR R k) (4 + k)) 479 k (some (25 * (4 + k)))
theorem hisM_hi {M : Nat → Nat → Int32} {r : Nat} : ∀ k, (r < 4 ∨ 4 + k ≤ r) → hisM M k r = M r
  | 0, _ => rfl
  | k + 1, h => (va_up_ne _ _ (show r ≠ 4 + k by omega)).trans (hisM_hi k (by omega))
theorem hisR_hi {R : Nat → Nat → Option Nat} {c : Nat} : ∀ k, k ≤ 15 → (c < 100 ∨ (100 + 25 * k ≤ c ∧ c < 478) ∨ 479 < c) → hisR R k c = R c
  | 0, _, h => up2R_ne (by omega)
  | k + 1, hk, h => by
    show up2R (RoadR (hisR R k) (4 + k)) 479 k (some (25 * (4 + k))) c = R c
    rw [up2R_ne (by omega), RoadR_ne (by omega)]
    exact hisR_hi k (by omega) (by omega)
theorem hisR_0 {R : Nat → Nat → Option Nat} : ∀ k, k ≤ 15 → hisR R k 478 0 = some 479
  | 0, _ => up2R_eq
  | k + 1, hk => by
    show up2R (RoadR (hisR R k) (4 + k)) 479 k (some (25 * (4 + k))) 478 0 = _
    rw [up2R_ne (by omega), RoadR_ne (by omega)]
    exact hisR_0 k (by omega)
set_option maxHeartbeats 4000000 in
set_option maxRecDepth 100000 in
theorem mX0_init {l : Launch} {Γ0 : gX} (M : Nat → Nat → Int32) (R : Nat → Nat → Option Nat) (O : Int64) (hm : 478 ∈ gcs Γ0) (hfr : ∀ c, (c = 479 ∨ (100 ≤ c ∧ c < 475)) → c ∉ gcs Γ0) (hRC : RC (gcs Γ0) R) (hRn : ∀ c, (c = 478 ∨ c = 479 ∨ (100 ≤ c ∧ c < 475)) → R c = fun _ => none) (hM0 : ∀ r, 4 ≤ r → r < 19 → M r = fun _ => 0) : gNew l Γ0 yX0_init wsX0_init 3 67 376 2340 [.ref (gad Γ0 478)] M R O (fun c => c = 479 ∨ (100 ≤ c ∧ c < 100 + 25 * 15)) (hisM M 15) (hisR R 15) := by
  refine g_startN (cc := cX0_init) (maxL := 2) (ret := none) (by decide) rfl (Nat.le_of_ble_eq_true rfl) ?_
  intro p e s m below meth c ls hx hb hml hrt hts hown hlocks hname hK hZ hG hS hl hA
  have hl : lv_has ls 2 [(0, .ref (gad Γ0 478))] := hl
  have hown : s.vm.findClass RX0 = some m.cls := hown
  have hF : CallFix p m c cX0_init 2 s _ wsX0_init RX0 := ⟨hx, hb, hml, hown, hts⟩
  have k_1 : (Cond.methodLink RX0 3 objectInit).before _ s = true := hts _ (by decide +kernel)
  have k_2 : (Cond.instanceMethod objectInit).before _ s = true := hts _ (by decide +kernel)
  have k_3 : (Cond.code objectInit ⟨#[0xb1]⟩ 1 none).before _ s = true := hts _ (by decide +kernel)
  have k_4 : (Cond.classLink RX0 9 RX2).before _ s = true := hts _ (by decide +kernel)
  have k_5 : (Cond.fieldLink RX0 11 "RoadDust$History" "past" "[LRoadDust$Road;").before _ s = true := hts _ (by decide +kernel)
  have in_X0 : ∀ w ∈ wsX00, w ∈ wsX0_init := by decide +kernel
  have k_7 : (Cond.instantiable RX2 15).before _ s = true := hts _ (by decide +kernel)
  have k_8 : (Cond.initialized RX2).before _ s = true := hts _ (by decide +kernel)
  have in_X2 : ∀ w ∈ wsX20, w ∈ wsX0_init := by decide +kernel
  have k_10 : (Cond.methodLink RX0 17 yX2_init).before _ s = true := hts _ (by decide +kernel)
  have k_11 : (Cond.instanceMethod yX2_init).before _ s = true := hts _ (by decide +kernel)
  have gz0 : gSz 0 = 2 := rfl
  have gz1 : gSz 1 = 5 := rfl
  have gz2 : gSz 2 = 15 := rfl
  have gz3 : gSz 3 = 7 := rfl
  have gz4 : gSz 4 = 4 := rfl
  have gz5 : gSz 5 = 3 := rfl
  have gz6 : gSz 6 = 7 := rfl
  have gz7 : gSz 7 = 11 := rfl
  have hm0 := hm
  have hZ0 := hZ
  have hE : Ext Γ0 Γ0 (fun c => c < 0) := Ext.rf (fun _ h => Nat.not_lt_zero _ h)
  refine lv_aload_n hx hb dX0_init_0 rfl (lv_at hl 0 rfl) ?_
  refine W.objInit hx hb hown k_1 k_2 k_3 rfl (by rw [hml]; exact hl.1) rfl dX0_init_1 (Nat.le_of_ble_eq_true rfl) (Nat.le_of_ble_eq_true rfl) ?_
  refine W.eq (g2 := F0 m 4 ls []) rfl ?_
  refine lv_aload_n hx hb dX0_init_4 rfl (lv_at hl 0 rfl) ?_
  refine lv_bipush (v := 15) hx hb dX0_init_5 (by decide) ?_
  refine g_newR (C := RX2) hx hb hown k_4 hA.2.2.2 hK hG hS hZ.2.2 (show gC 479 = (12, 33, 0) from rfl) (by decide) (by decide) rfl (show gLen 479 = 15 from rfl) (hE.out (hfr _ (by omega)) (by show ¬ (479 < 0); omega)) hRC (fun j => by rw [hRn _ (by omega)]) (by decide) rfl (by decide) (by show _ ≤ 376; decide) (by show _ ≤ 2340; decide) dX0_init_7 (fun Γ H hE1 hG hK hRC hS => ?_)
  have hEo := hE
  replace hE := hE.trans (P := fun c => c = 479) hE1 (fun c => by show (c = 479) ↔ (c < 0) ∨ (c = 479); omega)
  replace hl : lv_has ls 2 [(0, .ref (gad Γ 478))] := by rw [hE1.2.2.2 (478) hm]; exact hl
  refine W.eq (g2 := F0 m (10) ls [.ref (gad Γ 479), .ref (gad Γ 478)]) (by rw [hE1.2.2.2 (478) hm]) ?_
  replace hm := hE1.mem hm
  replace hZ := hE1.toZ hZ
  refine g_putF (C := RX0) (T := TX0) (ci := 0) hx hb hts in_X0 tyX0 tyX0_ok nmX0 hown hK hG hS hm (show gC 478 = (0, 21, 0) from rfl) (by decide) rfl 0 (by decide) k_5 (fun _ h => h) rfl (by decide +kernel) hname (by decide +kernel) (tyX0_ok 0 (by decide)) rfl rfl dX0_init_10 (fun H locs hG hS => ?_)
  replace hRC := RC.up hRC (c := 478) (k := 0) (d := 479) (hE.new (by show 479 = 479; omega))
  refine lv_iconst (v := 0) hx hb dX0_init_13 (by decide) ?_
  refine lv_istore_n (lv' := [(1, .int 0), (0, .ref (gad Γ 478))]) hx hb dX0_init_14 rfl hl (by decide) rfl (fun ls hl => ?_)
  replace hE : Ext Γ0 Γ (fun c => c = 479 ∨ (100 ≤ c ∧ c < 100 + 25 * 0)) := ⟨hE.1, hE.2.1, fun c => (hE.2.2.1 c).trans (by show _ ∨ (c = 479) ↔ _ ∨ (c = 479 ∨ (100 ≤ c ∧ c < 100 + 25 * 0)); exact or_congr Iff.rfl (by omega)), hE.2.2.2⟩
  refine g_loopC (N := 15) (fun k => 1 + 25 * k) (fun k => 15 + 155 * k) (fun k H locs ls => ∃ Γ, Ext Γ0 Γ (fun c => c = 479 ∨ (100 ≤ c ∧ c < 100 + 25 * k)) ∧ GH Γ (hisM M k) (hisR R k) O H ∧ GK Γ s ∧ RC (gcs Γ) (hisR R k) ∧ va_S (gA Γ) s.heap H locs ∧ lv_has ls 2 [(0, .ref (gad Γ 478)), (1, .int (nI k))]) ?_ ?_ _ _ _ ⟨Γ, hE, hG, hK, hRC, hS, lv_sub hl [1, 0] rfl⟩
  · rintro H locs ls ⟨Γ, hE, hG, hK, hRC, hS, hl⟩
    have hm := hE.mem hm0
    have hZ := hE.toZ hZ0
    refine lv_iload_n hx hb dX0_init_15 rfl (lv_at hl 1 rfl) ?_
    refine lv_bipush (v := 14) hx hb dX0_init_16 (by decide) ?_
    refine lv_icmp_gt (tgt := 40) hx hb dX0_init_18 (by decide) (fun c_1 => ?_) (fun c_1 => absurd (nI_lt (a := 14) (b := 15) (by decide) (by decide)) c_1)
    exact g_nret hx hb hrt hlocks hE hK hRC hS hG (by show _ ≤ 376; decide) (by show _ ≤ 2340; decide) dX0_init_40
  · rintro k hk_k ih_k H locs ls ⟨Γ, hE, hG, hK, hRC, hS, hl⟩
    have hm := hE.mem hm0
    have hZ := hE.toZ hZ0
    refine lv_iload_n hx hb dX0_init_15 rfl (lv_at hl 1 rfl) ?_
    refine lv_bipush (v := 14) hx hb dX0_init_16 (by decide) ?_
    refine lv_icmp_gt (tgt := 40) hx hb dX0_init_18 (by decide) (fun c_2 => absurd c_2 (nI_nlt (a := 14) (by omega) (by decide))) (fun c_2 => ?_)
    refine lv_aload_n hx hb dX0_init_21 rfl (lv_at hl 0 rfl) ?_
    refine go_getr (C := RX0) (T := TX0) (ci := 0) hx hb hts in_X0 hown hK hG hm (show gC 478 = (0, 21, 0) from rfl) (by decide) rfl 0 (by decide) rfl (by rw [hisR_0 _ (by omega)]) k_5 (fun _ h => h) dX0_init_22 ?_
    refine lv_iload_n hx hb dX0_init_25 rfl (lv_at hl 1 rfl) ?_
    refine g_newO (ci := 2) (C := RX2) (T := TX2) hx hb hts in_X2 tyX2 tyX2_ok hown k_4 k_7 k_8 hK hG hS hZ.2.2 (gC_Rd (r := 4 + k) (by omega)) (by decide) rfl (hE.out (hfr _ (by omega)) (by show ¬ ((25 * (4 + k)) = 479 ∨ (100 ≤ (25 * (4 + k)) ∧ (25 * (4 + k)) < 100 + 25 * k)); omega)) hRC (by decide) (fun j _ _ => by rw [hisM_hi _ (by omega)]; exact congrFun (hM0 _ (by omega) (by omega)) _) (fun j => by rw [hisR_hi _ (by omega) (by omega), hRn _ (by omega)]) (by have gz : gSz 2 = 15 := rfl; show _ ≤ 376; omega) (by have gz : gSz 2 = 15 := rfl; show _ ≤ 2340; omega) dX0_init_26 (fun Γ H hE1 hG hK hRC hS => ?_)
    have hEo := hE
    replace hE := hE.trans (P := fun c => c = 479 ∨ (100 ≤ c ∧ c < 100 + 25 * k + 1)) hE1 (fun c => by show (c = 479 ∨ (100 ≤ c ∧ c < 100 + 25 * k + 1)) ↔ (c = 479 ∨ (100 ≤ c ∧ c < 100 + 25 * k)) ∨ (c = (25 * (4 + k))); omega)
    replace hl : lv_has ls 2 [(0, .ref (gad Γ 478)), (1, .int (nI k))] := by rw [hE1.2.2.2 (478) hm]; exact hl
    refine W.eq (g2 := F0 m (29) ls [.ref (gad Γ (25 * (4 + k))), .int (nI k), .ref (gad Γ 479)]) (by rw [hE1.2.2.2 (479) (hEo.new (by show 479 = 479 ∨ (100 ≤ 479 ∧ 479 < 100 + 25 * k); omega))]) ?_
    replace hm := hE1.mem hm
    replace hZ := hE1.toZ hZ
    refine lv_dup hx hb dX0_init_29 rfl ?_
    refine g_callNw (As := []) (rest := [.ref (gad Γ (25 * (4 + k))), .int (nI k), .ref (gad Γ 479)]) hF (mX2_init (hisM M k) (hisR R k) O (r := 4 + k) (by omega) (hE.new (by show (25 * (4 + k)) = 479 ∨ (100 ≤ (25 * (4 + k)) ∧ (25 * (4 + k)) < 100 + 25 * k + 1); omega)) (fun c h1 h2 => hE.out (hfr c (by omega)) (by show ¬ (c = 479 ∨ (100 ≤ c ∧ c < 100 + 25 * k + 1)); omega)) hRC (fun c h1 h2 => by rw [hisR_hi _ (by omega) (by omega), hRn c (by omega)]) (by rw [hisM_hi _ (by omega)]; exact hM0 _ (by omega) (by omega))) (cwI 0 hts gX0_init_X2_init rfl rfl rfl k_8 k_10 k_11 rfl (by decide +kernel) ⟨Nat.le_of_ble_eq_true rfl, Nat.le_of_ble_eq_true rfl⟩) hK hZ hA hG hS rfl hl.1 (Nat.le_of_ble_eq_true rfl) dX0_init_30 ⟨(by show _ ≤ 376; omega), (by show _ ≤ 2340; omega)⟩ rfl (fun Γ H locs hE1 hG hK hRC hS => ?_)
    have hEo := hE
    replace hE := hE.trans (P := fun c => c = 479 ∨ (100 ≤ c ∧ c < 100 + 25 * (k + 1))) hE1 (fun c => by show (c = 479 ∨ (100 ≤ c ∧ c < 100 + 25 * (k + 1))) ↔ (c = 479 ∨ (100 ≤ c ∧ c < 100 + 25 * k + 1)) ∨ (25 * (4 + k) < c ∧ c < 25 * (4 + k) + 1 + 24); omega)
    replace hl : lv_has ls 2 [(0, .ref (gad Γ 478)), (1, .int (nI k))] := by rw [hE1.2.2.2 (478) hm]; exact hl
    refine W.eq (g2 := F0 m (33) ls [.ref (gad Γ (25 * (4 + k))), .int (nI k), .ref (gad Γ 479)]) (by rw [hE1.2.2.2 (25 * (4 + k)) (hEo.new (by show (25 * (4 + k)) = 479 ∨ (100 ≤ (25 * (4 + k)) ∧ (25 * (4 + k)) < 100 + 25 * k + 1); omega)), hE1.2.2.2 (479) (hEo.new (by show 479 = 479 ∨ (100 ≤ 479 ∧ 479 < 100 + 25 * k + 1); omega))]) ?_
    replace hm := hE1.mem hm
    replace hZ := hE1.toZ hZ
    refine g_aast hx hb hK hG hS (hE.new (by show 479 = 479 ∨ (100 ≤ 479 ∧ 479 < 100 + 25 * (k + 1)); omega)) (show gC 479 = (12, 33, 0) from rfl) (by decide) (by decide) rfl (hE.new (by show (25 * (4 + k)) = 479 ∨ (100 ≤ (25 * (4 + k)) ∧ (25 * (4 + k)) < 100 + 25 * (k + 1)); omega)) (gC_Rd (r := 4 + k) (by omega)) (by decide) rfl (show gLen 479 = 15 from rfl) (j := k) (nI_clamp (by omega)) (vp_in_nI (by omega) (by decide)) dX0_init_33 (fun H locs hG hS => ?_)
    replace hRC := RC.up hRC (c := 479) (k := k) (d := (25 * (4 + k))) (hE.new (by show (25 * (4 + k)) = 479 ∨ (100 ≤ (25 * (4 + k)) ∧ (25 * (4 + k)) < 100 + 25 * (k + 1)); omega))
    refine lv_iinc (v := nI (k + 1)) (lv' := [(1, .int (nI (k + 1))), (0, .ref (gad Γ 478))]) hx hb dX0_init_34 hl (k := 1) rfl (nI_1 _) (by decide) rfl (fun ls hl => ?_)
    refine lv_goto (tgt := 15) hx hb dX0_init_37 (by decide) ?_
    replace hE : Ext Γ0 Γ (fun c => c = 479 ∨ (100 ≤ c ∧ c < 100 + 25 * (k + 1))) := ⟨hE.1, hE.2.1, fun c => (hE.2.2.1 c).trans (by show _ ∨ (c = 479 ∨ (100 ≤ c ∧ c < 100 + 25 * (k + 1))) ↔ _ ∨ (c = 479 ∨ (100 ≤ c ∧ c < 100 + 25 * (k + 1))); exact or_congr Iff.rfl (by omega)), hE.2.2.2⟩
    exact W.widen (Nat.le_of_eq (by show _ = 1 + 25 * (k + 1); omega)) (Nat.le_of_eq (by show _ = 15 + 155 * (k + 1); omega)) (ih_k _ _ _ ⟨Γ, hE, hG, hK, hRC, hS, lv_sub hl [1, 0] rfl⟩)

