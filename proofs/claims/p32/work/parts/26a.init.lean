/-! CONSTRUCTORS: the class. Laid by gen/p26.py. -/
def slM (M : Nat → Nat → Int32) : Nat → Nat → Nat → Int32
  | 0 => M
  | k + 1 => va_up (slM M k) (2 + k) newP
def slR (R : Nat → Nat → Option Nat) : Nat → Nat → Nat → Option Nat
  | 0 => R
  | k + 1 => up2R (RoadR (slR R k) (2 + k)) 480 k (some (25 * (2 + k)))
theorem slM_hi {M : Nat → Nat → Int32} {r : Nat} : ∀ k, (r < 2 ∨ 2 + k ≤ r) → slM M k r = M r
  | 0, _ => rfl
  | k + 1, h => (va_up_ne _ _ (show r ≠ 2 + k by omega)).trans (slM_hi k (by omega))
theorem slR_hi {R : Nat → Nat → Option Nat} {c : Nat} : ∀ k, k ≤ 2 → (c < 50 ∨ (50 + 25 * k ≤ c ∧ c < 480) ∨ 480 < c) → slR R k c = R c
  | 0, _, h => rfl
  | k + 1, hk, h => by
    show up2R (RoadR (slR R k) (2 + k)) 480 k (some (25 * (2 + k))) c = R c
    rw [up2R_ne (by omega), RoadR_ne (by omega)]
    exact slR_hi k (by omega) (by omega)
def faceM (M : Nat → Nat → Int32) : Nat → Nat → Int32 := slM (hisM (va_up (va_up M 0 newP) 1 newP) 15) 2
def faceR (R : Nat → Nat → Option Nat) : Nat → Nat → Option Nat := slR (up2R (up2R (up2R (up2R (hisR (up2R (RoadR (up2R (RoadR (up2R (up2R R 476 0 (some 477)) 475 0 (some 476)) 0) 475 1 (some (25 * 0))) 1) 475 2 (some (25 * 1))) 15) 475 3 (some 478)) 475 4 (some 480)) 475 5 (some 481)) 475 6 (some 482)) 2
set_option maxHeartbeats 4000000 in
set_option maxRecDepth 100000 in
theorem mX6_init {l : Launch} {Γ0 : gX} (M : Nat → Nat → Int32) (R : Nat → Nat → Option Nat) (O : Int64) (hm : 475 ∈ gcs Γ0) (hfr : ∀ c, c < 483 → c ≠ 475 → c ∉ gcs Γ0) (hRC : RC (gcs Γ0) R) (hRn : ∀ c, c < 483 → R c = fun _ => none) (hM0 : ∀ b, M b = fun _ => 0) : gNew l Γ0 yX6_init wsX6_init 4 88 482 3044 [.ref (gad Γ0 475)] M R O (fun c => c < 50 + 25 * 2 ∨ (100 ≤ c ∧ c < 475) ∨ (476 ≤ c ∧ c ≤ 482)) (faceM M) (faceR R) := by
  refine g_startN (cc := cX6_init) (maxL := 2) (ret := none) (by decide) rfl (Nat.le_of_ble_eq_true rfl) ?_
  intro p e s m below meth c ls hx hb hml hrt hts hown hlocks hname hK hZ hG hS hl hA
  have hl : lv_has ls 2 [(0, .ref (gad Γ0 475))] := hl
  have hown : s.vm.findClass RX6 = some m.cls := hown
  have hF : CallFix p m c cX6_init 2 s _ wsX6_init RX6 := ⟨hx, hb, hml, hown, hts⟩
  have k_1 : (Cond.methodLink RX6 1 objectInit).before _ s = true := hts _ (by decide +kernel)
  have k_2 : (Cond.instanceMethod objectInit).before _ s = true := hts _ (by decide +kernel)
  have k_3 : (Cond.code objectInit ⟨#[0xb1]⟩ 1 none).before _ s = true := hts _ (by decide +kernel)
  have k_4 : (Cond.classLink RX6 7 RX4).before _ s = true := hts _ (by decide +kernel)
  have k_5 : (Cond.instantiable RX4 4).before _ s = true := hts _ (by decide +kernel)
  have k_6 : (Cond.initialized RX4).before _ s = true := hts _ (by decide +kernel)
  have in_X4 : ∀ w ∈ wsX40, w ∈ wsX6_init := by decide +kernel
  have k_8 : (Cond.instanceMethod yX4_init).before _ s = true := hts _ (by decide +kernel)
  have k_9 : (Cond.fieldLink RX6 10 "RoadDust" "text" "LRoadDust$Text;").before _ s = true := hts _ (by decide +kernel)
  have in_X6 : ∀ w ∈ wsX60, w ∈ wsX6_init := by decide +kernel
  have k_11 : (Cond.classLink RX6 16 RX2).before _ s = true := hts _ (by decide +kernel)
  have k_12 : (Cond.instantiable RX2 15).before _ s = true := hts _ (by decide +kernel)
  have k_13 : (Cond.initialized RX2).before _ s = true := hts _ (by decide +kernel)
  have in_X2 : ∀ w ∈ wsX20, w ∈ wsX6_init := by decide +kernel
  have k_15 : (Cond.methodLink RX6 18 yX2_init).before _ s = true := hts _ (by decide +kernel)
  have k_16 : (Cond.instanceMethod yX2_init).before _ s = true := hts _ (by decide +kernel)
  have k_17 : (Cond.fieldLink RX6 19 "RoadDust" "now" "LRoadDust$Road;").before _ s = true := hts _ (by decide +kernel)
  have k_18 : (Cond.fieldLink RX6 23 "RoadDust" "trial" "LRoadDust$Road;").before _ s = true := hts _ (by decide +kernel)
  have k_19 : (Cond.classLink RX6 26 RX0).before _ s = true := hts _ (by decide +kernel)
  have k_20 : (Cond.instantiable RX0 2).before _ s = true := hts _ (by decide +kernel)
  have k_21 : (Cond.initialized RX0).before _ s = true := hts _ (by decide +kernel)
  have in_X0 : ∀ w ∈ wsX00, w ∈ wsX6_init := by decide +kernel
  have k_23 : (Cond.methodLink RX6 28 yX0_init).before _ s = true := hts _ (by decide +kernel)
  have k_24 : (Cond.instanceMethod yX0_init).before _ s = true := hts _ (by decide +kernel)
  have k_25 : (Cond.fieldLink RX6 29 "RoadDust" "history" "LRoadDust$History;").before _ s = true := hts _ (by decide +kernel)
  have k_26 : (Cond.fieldLink RX6 33 "RoadDust" "slots" "[LRoadDust$Road;").before _ s = true := hts _ (by decide +kernel)
  have k_27 : (Cond.arrayClass .boolean).before _ s = true := hts _ (by decide +kernel)
  have k_28 : (Cond.fieldLink RX6 37 "RoadDust" "saved" "[Z").before _ s = true := hts _ (by decide +kernel)
  have k_29 : (Cond.arrayClass .int).before _ s = true := hts _ (by decide +kernel)
  have k_30 : (Cond.fieldLink RX6 41 "RoadDust" "commands" "[I").before _ s = true := hts _ (by decide +kernel)
  have gz0 : gSz 0 = 2 := rfl
  have gz1 : gSz 1 = 5 := rfl
  have gz2 : gSz 2 = 15 := rfl
  have gz3 : gSz 3 = 7 := rfl
  have gz4 : gSz 4 = 4 := rfl
  have gz5 : gSz 5 = 3 := rfl
  have gz6 : gSz 6 = 7 := rfl
  have gz7 : gSz 7 = 11 := rfl
  have hm0 := hm
  have hZ0 := hZ
  have hE : Ext Γ0 Γ0 (fun c => c < 0) := Ext.rf (fun _ h => Nat.not_lt_zero _ h)
  refine lv_aload_n hx hb dX6_init_0 rfl (lv_at hl 0 rfl) ?_
  refine W.objInit hx hb hown k_1 k_2 k_3 rfl (by rw [hml]; exact hl.1) rfl dX6_init_1 (Nat.le_of_ble_eq_true rfl) (Nat.le_of_ble_eq_true rfl) ?_
  refine W.eq (g2 := F0 m 4 ls []) rfl ?_
  refine lv_aload_n hx hb dX6_init_4 rfl (lv_at hl 0 rfl) ?_
  refine g_newO (ci := 4) (C := RX4) (T := TX4) hx hb hts in_X4 tyX4 tyX4_ok hown k_4 k_5 k_6 hK hG hS hZ.2.2 (show gC 476 = (4, 19, 0) from rfl) (by decide) rfl (hE.out (hfr _ (by omega) (by omega)) (by show ¬ (476 < 0); omega)) hRC (by decide) (fun j _ _ => by exact congrFun (hM0 _) _) (fun j => by rw [hRn _ (by omega)]) (by have gz : gSz 4 = 4 := rfl; show _ ≤ 482; decide) (by have gz : gSz 4 = 4 := rfl; show _ ≤ 3044; decide) dX6_init_5 (fun Γ H hE1 hG hK hRC hS => ?_)
  have hEo := hE
  replace hE := hE.trans (P := fun c => c = 476) hE1 (fun c => by show (c = 476) ↔ (c < 0) ∨ (c = 476); omega)
  replace hl : lv_has ls 2 [(0, .ref (gad Γ 475))] := by rw [hE1.2.2.2 (475) hm]; exact hl
  refine W.eq (g2 := F0 m (8) ls [.ref (gad Γ 476), .ref (gad Γ 475)]) (by rw [hE1.2.2.2 (475) hm]) ?_
  replace hm := hE1.mem hm
  replace hZ := hE1.toZ hZ
  refine lv_dup hx hb dX6_init_8 rfl ?_
  refine g_callNn (As := []) (rest := [.ref (gad Γ 476), .ref (gad Γ 475)]) hF (mX4_init M R O (hE.new (by show 476 = 476; omega)) (fun c h => hE.out (hfr c (by omega) (by omega)) (by show ¬ (c = 476); omega)) hRC (by exact hM0 _)) ⟨va_cnB 0 hts gX6_init_X4_init_n9 rfl rfl rfl hK.2.1 k_6 (by decide +kernel) ⟨Nat.le_of_ble_eq_true rfl, Nat.le_of_ble_eq_true rfl⟩, rfl, k_8⟩ hK hZ hA hG hS rfl hl.1 (Nat.le_of_ble_eq_true rfl) dX6_init_9 ⟨(by show _ ≤ 482; decide), (by show _ ≤ 3044; decide)⟩ rfl (fun Γ H locs hE1 hG hK hRC hS => ?_)
  have hEo := hE
  replace hE := hE.trans (P := fun c => 476 ≤ c ∧ c ≤ 477) hE1 (fun c => by show (476 ≤ c ∧ c ≤ 477) ↔ (c = 476) ∨ (c = 477); omega)
  replace hl : lv_has ls 2 [(0, .ref (gad Γ 475))] := by rw [hE1.2.2.2 (475) hm]; exact hl
  refine W.eq (g2 := F0 m (12) ls [.ref (gad Γ 476), .ref (gad Γ 475)]) (by rw [hE1.2.2.2 (476) (hEo.new (by show 476 = 476; omega)), hE1.2.2.2 (475) hm]) ?_
  replace hm := hE1.mem hm
  replace hZ := hE1.toZ hZ
  refine g_putF (C := RX6) (T := TX6) (ci := 6) hx hb hts in_X6 tyX6 tyX6_ok nmX6 hown hK hG hS hm (show gC 475 = (6, 32, 0) from rfl) (by decide) rfl 0 (by decide) k_9 (fun _ h => h) rfl (by decide +kernel) hname (by decide +kernel) (tyX6_ok 0 (by decide)) rfl rfl dX6_init_12 (fun H locs hG hS => ?_)
  replace hRC := RC.up hRC (c := 475) (k := 0) (d := 476) (hE.new (by show 476 ≤ 476 ∧ 476 ≤ 477; omega))
  refine lv_aload_n hx hb dX6_init_15 rfl (lv_at hl 0 rfl) ?_
  refine g_newO (ci := 2) (C := RX2) (T := TX2) hx hb hts in_X2 tyX2 tyX2_ok hown k_11 k_12 k_13 hK hG hS hZ.2.2 (gC_Rd (r := 0) (by omega)) (by decide) rfl (hE.out (hfr _ (by omega) (by omega)) (by show ¬ (476 ≤ (25 * 0) ∧ (25 * 0) ≤ 477); omega)) hRC (by decide) (fun j _ _ => by exact congrFun (hM0 _) _) (fun j => by rw [up2R_ne (by omega), up2R_ne (by omega), hRn _ (by omega)]) (by have gz : gSz 2 = 15 := rfl; show _ ≤ 482; decide) (by have gz : gSz 2 = 15 := rfl; show _ ≤ 3044; decide) dX6_init_16 (fun Γ H hE1 hG hK hRC hS => ?_)
  have hEo := hE
  replace hE := hE.trans (P := fun c => c = 0 ∨ (476 ≤ c ∧ c ≤ 477)) hE1 (fun c => by show (c = 0 ∨ (476 ≤ c ∧ c ≤ 477)) ↔ (476 ≤ c ∧ c ≤ 477) ∨ (c = (25 * 0)); omega)
  replace hl : lv_has ls 2 [(0, .ref (gad Γ 475))] := by rw [hE1.2.2.2 (475) hm]; exact hl
  refine W.eq (g2 := F0 m (19) ls [.ref (gad Γ (25 * 0)), .ref (gad Γ 475)]) (by rw [hE1.2.2.2 (475) hm]) ?_
  replace hm := hE1.mem hm
  replace hZ := hE1.toZ hZ
  refine lv_dup hx hb dX6_init_19 rfl ?_
  refine g_callNw (As := []) (rest := [.ref (gad Γ (25 * 0)), .ref (gad Γ 475)]) hF (mX2_init M (up2R (up2R R 476 0 (some 477)) 475 0 (some 476)) O (r := 0) (by omega) (hE.new (by show (25 * 0) = 0 ∨ (476 ≤ (25 * 0) ∧ (25 * 0) ≤ 477); omega)) (fun c h1 h2 => hE.out (hfr c (by omega) (by omega)) (by show ¬ (c = 0 ∨ (476 ≤ c ∧ c ≤ 477)); omega)) hRC (fun c h1 h2 => by rw [up2R_ne (by omega), up2R_ne (by omega), hRn c (by omega)]) (by exact hM0 _)) (cwI 0 hts gX6_init_X2_init rfl rfl rfl k_13 k_15 k_16 rfl (by decide +kernel) ⟨Nat.le_of_ble_eq_true rfl, Nat.le_of_ble_eq_true rfl⟩) hK hZ hA hG hS rfl hl.1 (Nat.le_of_ble_eq_true rfl) dX6_init_20 ⟨(by show _ ≤ 482; decide), (by show _ ≤ 3044; decide)⟩ rfl (fun Γ H locs hE1 hG hK hRC hS => ?_)
  have hEo := hE
  replace hE := hE.trans (P := fun c => c < 25 ∨ (476 ≤ c ∧ c ≤ 477)) hE1 (fun c => by show (c < 25 ∨ (476 ≤ c ∧ c ≤ 477)) ↔ (c = 0 ∨ (476 ≤ c ∧ c ≤ 477)) ∨ (25 * (0) < c ∧ c < 25 * (0) + 1 + 24); omega)
  replace hl : lv_has ls 2 [(0, .ref (gad Γ 475))] := by rw [hE1.2.2.2 (475) hm]; exact hl
  refine W.eq (g2 := F0 m (23) ls [.ref (gad Γ (25 * 0)), .ref (gad Γ 475)]) (by rw [hE1.2.2.2 (25 * 0) (hEo.new (by show (25 * 0) = 0 ∨ (476 ≤ (25 * 0) ∧ (25 * 0) ≤ 477); omega)), hE1.2.2.2 (475) hm]) ?_
  replace hm := hE1.mem hm
  replace hZ := hE1.toZ hZ
  refine g_putF (C := RX6) (T := TX6) (ci := 6) hx hb hts in_X6 tyX6 tyX6_ok nmX6 hown hK hG hS hm (show gC 475 = (6, 32, 0) from rfl) (by decide) rfl 1 (by decide) k_17 (fun _ h => h) rfl (by decide +kernel) hname (by decide +kernel) (tyX6_ok 1 (by decide)) rfl rfl dX6_init_23 (fun H locs hG hS => ?_)
  replace hRC := RC.up hRC (c := 475) (k := 1) (d := (25 * 0)) (hE.new (by show (25 * 0) < 25 ∨ (476 ≤ (25 * 0) ∧ (25 * 0) ≤ 477); omega))
  refine lv_aload_n hx hb dX6_init_26 rfl (lv_at hl 0 rfl) ?_
  refine g_newO (ci := 2) (C := RX2) (T := TX2) hx hb hts in_X2 tyX2 tyX2_ok hown k_11 k_12 k_13 hK hG hS hZ.2.2 (gC_Rd (r := 1) (by omega)) (by decide) rfl (hE.out (hfr _ (by omega) (by omega)) (by show ¬ ((25 * 1) < 25 ∨ (476 ≤ (25 * 1) ∧ (25 * 1) ≤ 477)); omega)) hRC (by decide) (fun j _ _ => by rw [va_up_ne _ _ (by omega)]; exact congrFun (hM0 _) _) (fun j => by rw [up2R_ne (by omega), RoadR_ne (by omega), up2R_ne (by omega), up2R_ne (by omega), hRn _ (by omega)]) (by have gz : gSz 2 = 15 := rfl; show _ ≤ 482; decide) (by have gz : gSz 2 = 15 := rfl; show _ ≤ 3044; decide) dX6_init_27 (fun Γ H hE1 hG hK hRC hS => ?_)
  have hEo := hE
  replace hE := hE.trans (P := fun c => c < 26 ∨ (476 ≤ c ∧ c ≤ 477)) hE1 (fun c => by show (c < 26 ∨ (476 ≤ c ∧ c ≤ 477)) ↔ (c < 25 ∨ (476 ≤ c ∧ c ≤ 477)) ∨ (c = (25 * 1)); omega)
  replace hl : lv_has ls 2 [(0, .ref (gad Γ 475))] := by rw [hE1.2.2.2 (475) hm]; exact hl
  refine W.eq (g2 := F0 m (30) ls [.ref (gad Γ (25 * 1)), .ref (gad Γ 475)]) (by rw [hE1.2.2.2 (475) hm]) ?_
  replace hm := hE1.mem hm
  replace hZ := hE1.toZ hZ
  refine lv_dup hx hb dX6_init_30 rfl ?_
  refine g_callNw (As := []) (rest := [.ref (gad Γ (25 * 1)), .ref (gad Γ 475)]) hF (mX2_init (va_up M 0 newP) (up2R (RoadR (up2R (up2R R 476 0 (some 477)) 475 0 (some 476)) 0) 475 1 (some (25 * 0))) O (r := 1) (by omega) (hE.new (by show (25 * 1) < 26 ∨ (476 ≤ (25 * 1) ∧ (25 * 1) ≤ 477); omega)) (fun c h1 h2 => hE.out (hfr c (by omega) (by omega)) (by show ¬ (c < 26 ∨ (476 ≤ c ∧ c ≤ 477)); omega)) hRC (fun c h1 h2 => by rw [up2R_ne (by omega), RoadR_ne (by omega), up2R_ne (by omega), up2R_ne (by omega), hRn c (by omega)]) (by rw [va_up_ne _ _ (by omega)]; exact hM0 _)) (cwI 0 hts gX6_init_X2_init rfl rfl rfl k_13 k_15 k_16 rfl (by decide +kernel) ⟨Nat.le_of_ble_eq_true rfl, Nat.le_of_ble_eq_true rfl⟩) hK hZ hA hG hS rfl hl.1 (Nat.le_of_ble_eq_true rfl) dX6_init_31 ⟨(by show _ ≤ 482; decide), (by show _ ≤ 3044; decide)⟩ rfl (fun Γ H locs hE1 hG hK hRC hS => ?_)
  have hEo := hE
  replace hE := hE.trans (P := fun c => c < 50 ∨ (476 ≤ c ∧ c ≤ 477)) hE1 (fun c => by show (c < 50 ∨ (476 ≤ c ∧ c ≤ 477)) ↔ (c < 26 ∨ (476 ≤ c ∧ c ≤ 477)) ∨ (25 * (1) < c ∧ c < 25 * (1) + 1 + 24); omega)
  replace hl : lv_has ls 2 [(0, .ref (gad Γ 475))] := by rw [hE1.2.2.2 (475) hm]; exact hl
  refine W.eq (g2 := F0 m (34) ls [.ref (gad Γ (25 * 1)), .ref (gad Γ 475)]) (by rw [hE1.2.2.2 (25 * 1) (hEo.new (by show (25 * 1) < 26 ∨ (476 ≤ (25 * 1) ∧ (25 * 1) ≤ 477); omega)), hE1.2.2.2 (475) hm]) ?_
  replace hm := hE1.mem hm
  replace hZ := hE1.toZ hZ
  refine g_putF (C := RX6) (T := TX6) (ci := 6) hx hb hts in_X6 tyX6 tyX6_ok nmX6 hown hK hG hS hm (show gC 475 = (6, 32, 0) from rfl) (by decide) rfl 2 (by decide) k_18 (fun _ h => h) rfl (by decide +kernel) hname (by decide +kernel) (tyX6_ok 2 (by decide)) rfl rfl dX6_init_34 (fun H locs hG hS => ?_)
  replace hRC := RC.up hRC (c := 475) (k := 2) (d := (25 * 1)) (hE.new (by show (25 * 1) < 50 ∨ (476 ≤ (25 * 1) ∧ (25 * 1) ≤ 477); omega))
  refine lv_aload_n hx hb dX6_init_37 rfl (lv_at hl 0 rfl) ?_
  refine g_newO (ci := 0) (C := RX0) (T := TX0) hx hb hts in_X0 tyX0 tyX0_ok hown k_19 k_20 k_21 hK hG hS hZ.2.2 (show gC 478 = (0, 21, 0) from rfl) (by decide) rfl (hE.out (hfr _ (by omega) (by omega)) (by show ¬ (478 < 50 ∨ (476 ≤ 478 ∧ 478 ≤ 477)); omega)) hRC (by decide) (fun j _ _ => by rw [va_up_ne _ _ (by omega), va_up_ne _ _ (by omega)]; exact congrFun (hM0 _) _) (fun j => by rw [up2R_ne (by omega), RoadR_ne (by omega), up2R_ne (by omega), RoadR_ne (by omega), up2R_ne (by omega), up2R_ne (by omega), hRn _ (by omega)]) (by have gz : gSz 0 = 2 := rfl; show _ ≤ 482; decide) (by have gz : gSz 0 = 2 := rfl; show _ ≤ 3044; decide) dX6_init_38 (fun Γ H hE1 hG hK hRC hS => ?_)
  have hEo := hE
  replace hE := hE.trans (P := fun c => c < 50 ∨ (476 ≤ c ∧ c ≤ 478)) hE1 (fun c => by show (c < 50 ∨ (476 ≤ c ∧ c ≤ 478)) ↔ (c < 50 ∨ (476 ≤ c ∧ c ≤ 477)) ∨ (c = 478); omega)
  replace hl : lv_has ls 2 [(0, .ref (gad Γ 475))] := by rw [hE1.2.2.2 (475) hm]; exact hl
  refine W.eq (g2 := F0 m (41) ls [.ref (gad Γ 478), .ref (gad Γ 475)]) (by rw [hE1.2.2.2 (475) hm]) ?_
  replace hm := hE1.mem hm
  replace hZ := hE1.toZ hZ
  refine lv_dup hx hb dX6_init_41 rfl ?_
  refine g_callNw (As := []) (rest := [.ref (gad Γ 478), .ref (gad Γ 475)]) hF (mX0_init (va_up (va_up M 0 newP) 1 newP) (up2R (RoadR (up2R (RoadR (up2R (up2R R 476 0 (some 477)) 475 0 (some 476)) 0) 475 1 (some (25 * 0))) 1) 475 2 (some (25 * 1))) O (hE.new (by show 478 < 50 ∨ (476 ≤ 478 ∧ 478 ≤ 478); omega)) (fun c h => hE.out (hfr c (by omega) (by omega)) (by show ¬ (c < 50 ∨ (476 ≤ c ∧ c ≤ 478)); omega)) hRC (fun c h => by rw [up2R_ne (by omega), RoadR_ne (by omega), up2R_ne (by omega), RoadR_ne (by omega), up2R_ne (by omega), up2R_ne (by omega), hRn c (by omega)]) (fun r h1 h2 => by rw [va_up_ne _ _ (by omega), va_up_ne _ _ (by omega)]; exact hM0 _)) (cwI 0 hts gX6_init_X0_init rfl rfl rfl k_21 k_23 k_24 rfl (by decide +kernel) ⟨Nat.le_of_ble_eq_true rfl, Nat.le_of_ble_eq_true rfl⟩) hK hZ hA hG hS rfl hl.1 (Nat.le_of_ble_eq_true rfl) dX6_init_42 ⟨(by show _ ≤ 482; decide), (by show _ ≤ 3044; decide)⟩ rfl (fun Γ H locs hE1 hG hK hRC hS => ?_)
  have hEo := hE
  replace hE := hE.trans (P := fun c => c < 50 ∨ (100 ≤ c ∧ c < 475) ∨ (476 ≤ c ∧ c ≤ 479)) hE1 (fun c => by show (c < 50 ∨ (100 ≤ c ∧ c < 475) ∨ (476 ≤ c ∧ c ≤ 479)) ↔ (c < 50 ∨ (476 ≤ c ∧ c ≤ 478)) ∨ (c = 479 ∨ (100 ≤ c ∧ c < 100 + 25 * 15)); omega)
  replace hl : lv_has ls 2 [(0, .ref (gad Γ 475))] := by rw [hE1.2.2.2 (475) hm]; exact hl
  refine W.eq (g2 := F0 m (45) ls [.ref (gad Γ 478), .ref (gad Γ 475)]) (by rw [hE1.2.2.2 (478) (hEo.new (by show 478 < 50 ∨ (476 ≤ 478 ∧ 478 ≤ 478); omega)), hE1.2.2.2 (475) hm]) ?_
  replace hm := hE1.mem hm
  replace hZ := hE1.toZ hZ
  refine g_putF (C := RX6) (T := TX6) (ci := 6) hx hb hts in_X6 tyX6 tyX6_ok nmX6 hown hK hG hS hm (show gC 475 = (6, 32, 0) from rfl) (by decide) rfl 3 (by decide) k_25 (fun _ h => h) rfl (by decide +kernel) hname (by decide +kernel) (tyX6_ok 3 (by decide)) rfl rfl dX6_init_45 (fun H locs hG hS => ?_)
  replace hRC := RC.up hRC (c := 475) (k := 3) (d := 478) (hE.new (by show 478 < 50 ∨ (100 ≤ 478 ∧ 478 < 475) ∨ (476 ≤ 478 ∧ 478 ≤ 479); omega))
  refine lv_aload_n hx hb dX6_init_48 rfl (lv_at hl 0 rfl) ?_
  refine lv_iconst (v := 2) hx hb dX6_init_49 (by decide) ?_
  refine g_newR (C := RX2) hx hb hown k_11 hA.2.2.2 hK hG hS hZ.2.2 (show gC 480 = (12, 34, 0) from rfl) (by decide) (by decide) rfl (show gLen 480 = 2 from rfl) (hE.out (hfr _ (by omega) (by omega)) (by show ¬ (480 < 50 ∨ (100 ≤ 480 ∧ 480 < 475) ∨ (476 ≤ 480 ∧ 480 ≤ 479)); omega)) hRC (fun j => by rw [up2R_ne (by omega), hisR_hi _ (by omega) (by omega), up2R_ne (by omega), RoadR_ne (by omega), up2R_ne (by omega), RoadR_ne (by omega), up2R_ne (by omega), up2R_ne (by omega), hRn _ (by omega)]) (by decide) rfl (by decide) (by show _ ≤ 482; decide) (by show _ ≤ 3044; decide) dX6_init_50 (fun Γ H hE1 hG hK hRC hS => ?_)
  have hEo := hE
  replace hE := hE.trans (P := fun c => c < 50 ∨ (100 ≤ c ∧ c < 475) ∨ (476 ≤ c ∧ c ≤ 480)) hE1 (fun c => by show (c < 50 ∨ (100 ≤ c ∧ c < 475) ∨ (476 ≤ c ∧ c ≤ 480)) ↔ (c < 50 ∨ (100 ≤ c ∧ c < 475) ∨ (476 ≤ c ∧ c ≤ 479)) ∨ (c = 480); omega)
  replace hl : lv_has ls 2 [(0, .ref (gad Γ 475))] := by rw [hE1.2.2.2 (475) hm]; exact hl
  refine W.eq (g2 := F0 m (53) ls [.ref (gad Γ 480), .ref (gad Γ 475)]) (by rw [hE1.2.2.2 (475) hm]) ?_
  replace hm := hE1.mem hm
  replace hZ := hE1.toZ hZ
  refine g_putF (C := RX6) (T := TX6) (ci := 6) hx hb hts in_X6 tyX6 tyX6_ok nmX6 hown hK hG hS hm (show gC 475 = (6, 32, 0) from rfl) (by decide) rfl 4 (by decide) k_26 (fun _ h => h) rfl (by decide +kernel) hname (by decide +kernel) (tyX6_ok 4 (by decide)) rfl rfl dX6_init_53 (fun H locs hG hS => ?_)
  replace hRC := RC.up hRC (c := 475) (k := 4) (d := 480) (hE.new (by show 480 < 50 ∨ (100 ≤ 480 ∧ 480 < 475) ∨ (476 ≤ 480 ∧ 480 ≤ 480); omega))
  refine lv_aload_n hx hb dX6_init_56 rfl (lv_at hl 0 rfl) ?_
  refine lv_iconst (v := 2) hx hb dX6_init_57 (by decide) ?_
  refine g_newA (atype := .boolean) (ty := .boolean) hx hb k_27 rfl rfl hK hG hS hZ.2.2 (show gC 481 = (10, 22, 0) from rfl) (by decide) (by decide) rfl (show gLen 481 = 2 from rfl) (hE.out (hfr _ (by omega) (by omega)) (by show ¬ (481 < 50 ∨ (100 ≤ 481 ∧ 481 < 475) ∨ (476 ≤ 481 ∧ 481 ≤ 480)); omega)) hRC (by rw [hisM_hi _ (by omega), va_up_ne _ _ (by omega), va_up_ne _ _ (by omega)]; exact hM0 _) (by decide) rfl (by decide) (by show _ ≤ 482; decide) (by show _ ≤ 3044; decide) dX6_init_58 (fun Γ H hE1 hG hK hRC hS => ?_)
  have hEo := hE
  replace hE := hE.trans (P := fun c => c < 50 ∨ (100 ≤ c ∧ c < 475) ∨ (476 ≤ c ∧ c ≤ 481)) hE1 (fun c => by show (c < 50 ∨ (100 ≤ c ∧ c < 475) ∨ (476 ≤ c ∧ c ≤ 481)) ↔ (c < 50 ∨ (100 ≤ c ∧ c < 475) ∨ (476 ≤ c ∧ c ≤ 480)) ∨ (c = 481); omega)
  replace hl : lv_has ls 2 [(0, .ref (gad Γ 475))] := by rw [hE1.2.2.2 (475) hm]; exact hl
  refine W.eq (g2 := F0 m (60) ls [.ref (gad Γ 481), .ref (gad Γ 475)]) (by rw [hE1.2.2.2 (475) hm]) ?_
  replace hm := hE1.mem hm
  replace hZ := hE1.toZ hZ
  refine g_putF (C := RX6) (T := TX6) (ci := 6) hx hb hts in_X6 tyX6 tyX6_ok nmX6 hown hK hG hS hm (show gC 475 = (6, 32, 0) from rfl) (by decide) rfl 5 (by decide) k_28 (fun _ h => h) rfl (by decide +kernel) hname (by decide +kernel) (tyX6_ok 5 (by decide)) rfl rfl dX6_init_60 (fun H locs hG hS => ?_)
  replace hRC := RC.up hRC (c := 475) (k := 5) (d := 481) (hE.new (by show 481 < 50 ∨ (100 ≤ 481 ∧ 481 < 475) ∨ (476 ≤ 481 ∧ 481 ≤ 481); omega))
  refine lv_aload_n hx hb dX6_init_63 rfl (lv_at hl 0 rfl) ?_
  refine lv_iconst (v := 4) hx hb dX6_init_64 (by decide) ?_
  refine g_newA (atype := .int) (ty := .int) hx hb k_29 rfl rfl hK hG hS hZ.2.2 (show gC 482 = (9, 23, 0) from rfl) (by decide) (by decide) rfl (show gLen 482 = 4 from rfl) (hE.out (hfr _ (by omega) (by omega)) (by show ¬ (482 < 50 ∨ (100 ≤ 482 ∧ 482 < 475) ∨ (476 ≤ 482 ∧ 482 ≤ 481)); omega)) hRC (by rw [hisM_hi _ (by omega), va_up_ne _ _ (by omega), va_up_ne _ _ (by omega)]; exact hM0 _) (by decide) rfl (by decide) (by show _ ≤ 482; decide) (by show _ ≤ 3044; decide) dX6_init_65 (fun Γ H hE1 hG hK hRC hS => ?_)
  have hEo := hE
  replace hE := hE.trans (P := fun c => c < 50 ∨ (100 ≤ c ∧ c < 475) ∨ (476 ≤ c ∧ c ≤ 482)) hE1 (fun c => by show (c < 50 ∨ (100 ≤ c ∧ c < 475) ∨ (476 ≤ c ∧ c ≤ 482)) ↔ (c < 50 ∨ (100 ≤ c ∧ c < 475) ∨ (476 ≤ c ∧ c ≤ 481)) ∨ (c = 482); omega)
  replace hl : lv_has ls 2 [(0, .ref (gad Γ 475))] := by rw [hE1.2.2.2 (475) hm]; exact hl
  refine W.eq (g2 := F0 m (67) ls [.ref (gad Γ 482), .ref (gad Γ 475)]) (by rw [hE1.2.2.2 (475) hm]) ?_
  replace hm := hE1.mem hm
  replace hZ := hE1.toZ hZ
  refine g_putF (C := RX6) (T := TX6) (ci := 6) hx hb hts in_X6 tyX6 tyX6_ok nmX6 hown hK hG hS hm (show gC 475 = (6, 32, 0) from rfl) (by decide) rfl 6 (by decide) k_30 (fun _ h => h) rfl (by decide +kernel) hname (by decide +kernel) (tyX6_ok 6 (by decide)) rfl rfl dX6_init_67 (fun H locs hG hS => ?_)
  replace hRC := RC.up hRC (c := 475) (k := 6) (d := 482) (hE.new (by show 482 < 50 ∨ (100 ≤ 482 ∧ 482 < 475) ∨ (476 ≤ 482 ∧ 482 ≤ 482); omega))
  refine lv_iconst (v := 0) hx hb dX6_init_70 (by decide) ?_
  refine lv_istore_n (lv' := [(1, .int 0), (0, .ref (gad Γ 475))]) hx hb dX6_init_71 rfl hl (by decide) rfl (fun ls hl => ?_)
  replace hE : Ext Γ0 Γ (fun c => c < 50 + 25 * 0 ∨ (100 ≤ c ∧ c < 475) ∨ (476 ≤ c ∧ c ≤ 482)) := ⟨hE.1, hE.2.1, fun c => (hE.2.2.1 c).trans (by show _ ∨ (c < 50 ∨ (100 ≤ c ∧ c < 475) ∨ (476 ≤ c ∧ c ≤ 482)) ↔ _ ∨ (c < 50 + 25 * 0 ∨ (100 ≤ c ∧ c < 475) ∨ (476 ≤ c ∧ c ≤ 482)); exact or_congr Iff.rfl (by omega)), hE.2.2.2⟩
  refine g_loopC (N := 2) (fun k => 432 + 25 * k) (fun k => 2734 + 155 * k) (fun k H locs ls => ∃ Γ, Ext Γ0 Γ (fun c => c < 50 + 25 * k ∨ (100 ≤ c ∧ c < 475) ∨ (476 ≤ c ∧ c ≤ 482)) ∧ GH Γ (slM (hisM (va_up (va_up M 0 newP) 1 newP) 15) k) (slR (up2R (up2R (up2R (up2R (hisR (up2R (RoadR (up2R (RoadR (up2R (up2R R 476 0 (some 477)) 475 0 (some 476)) 0) 475 1 (some (25 * 0))) 1) 475 2 (some (25 * 1))) 15) 475 3 (some 478)) 475 4 (some 480)) 475 5 (some 481)) 475 6 (some 482)) k) O H ∧ GK Γ s ∧ RC (gcs Γ) (slR (up2R (up2R (up2R (up2R (hisR (up2R (RoadR (up2R (RoadR (up2R (up2R R 476 0 (some 477)) 475 0 (some 476)) 0) 475 1 (some (25 * 0))) 1) 475 2 (some (25 * 1))) 15) 475 3 (some 478)) 475 4 (some 480)) 475 5 (some 481)) 475 6 (some 482)) k) ∧ va_S (gA Γ) s.heap H locs ∧ lv_has ls 2 [(0, .ref (gad Γ 475)), (1, .int (nI k))]) ?_ ?_ _ _ _ ⟨Γ, hE, hG, hK, hRC, hS, lv_sub hl [1, 0] rfl⟩
  · rintro H locs ls ⟨Γ, hE, hG, hK, hRC, hS, hl⟩
    have hm := hE.mem hm0
    have hZ := hE.toZ hZ0
    refine lv_iload_n hx hb dX6_init_72 rfl (lv_at hl 1 rfl) ?_
    refine lv_iconst (v := 2) hx hb dX6_init_73 (by decide) ?_
    refine lv_icmp_ge (tgt := 96) hx hb dX6_init_74 (by decide) (fun c_1 => ?_) (fun c_1 => absurd (nI_le (Nat.le_refl _) (by decide)) c_1)
    exact g_nret hx hb hrt hlocks hE hK hRC hS hG (by show _ ≤ 482; decide) (by show _ ≤ 3044; decide) dX6_init_96
  · rintro k hk_k ih_k H locs ls ⟨Γ, hE, hG, hK, hRC, hS, hl⟩
    have hm := hE.mem hm0
    have hZ := hE.toZ hZ0
    refine lv_iload_n hx hb dX6_init_72 rfl (lv_at hl 1 rfl) ?_
    refine lv_iconst (v := 2) hx hb dX6_init_73 (by decide) ?_
    refine lv_icmp_ge (tgt := 96) hx hb dX6_init_74 (by decide) (fun c_2 => absurd c_2 (nI_ge hk_k (by decide))) (fun c_2 => ?_)
    refine lv_aload_n hx hb dX6_init_77 rfl (lv_at hl 0 rfl) ?_
    refine go_getr (C := RX6) (T := TX6) (ci := 6) hx hb hts in_X6 hown hK hG hm (show gC 475 = (6, 32, 0) from rfl) (by decide) rfl 4 (by decide) rfl (by rw [slR_hi _ (by omega) (by omega), up2R_nk (by decide), up2R_nk (by decide), up2R_eq]) k_26 (fun _ h => h) dX6_init_78 ?_
    refine lv_iload_n hx hb dX6_init_81 rfl (lv_at hl 1 rfl) ?_
    refine g_newO (ci := 2) (C := RX2) (T := TX2) hx hb hts in_X2 tyX2 tyX2_ok hown k_11 k_12 k_13 hK hG hS hZ.2.2 (gC_Rd (r := (2 + k)) (by omega)) (by decide) rfl (hE.out (hfr _ (by omega) (by omega)) (by show ¬ ((25 * (2 + k)) < 50 + 25 * k ∨ (100 ≤ (25 * (2 + k)) ∧ (25 * (2 + k)) < 475) ∨ (476 ≤ (25 * (2 + k)) ∧ (25 * (2 + k)) ≤ 482)); omega)) hRC (by decide) (fun j _ _ => by rw [slM_hi _ (by omega), hisM_hi _ (by omega), va_up_ne _ _ (by omega), va_up_ne _ _ (by omega)]; exact congrFun (hM0 _) _) (fun j => by rw [slR_hi _ (by omega) (by omega), up2R_ne (by omega), up2R_ne (by omega), up2R_ne (by omega), up2R_ne (by omega), hisR_hi _ (by omega) (by omega), up2R_ne (by omega), RoadR_ne (by omega), up2R_ne (by omega), RoadR_ne (by omega), up2R_ne (by omega), up2R_ne (by omega), hRn _ (by omega)]) (by have gz : gSz 2 = 15 := rfl; show _ ≤ 482; omega) (by have gz : gSz 2 = 15 := rfl; show _ ≤ 3044; omega) dX6_init_82 (fun Γ H hE1 hG hK hRC hS => ?_)
    have hEo := hE
    replace hE := hE.trans (P := fun c => c < 50 + 25 * k + 1 ∨ (100 ≤ c ∧ c < 475) ∨ (476 ≤ c ∧ c ≤ 482)) hE1 (fun c => by show (c < 50 + 25 * k + 1 ∨ (100 ≤ c ∧ c < 475) ∨ (476 ≤ c ∧ c ≤ 482)) ↔ (c < 50 + 25 * k ∨ (100 ≤ c ∧ c < 475) ∨ (476 ≤ c ∧ c ≤ 482)) ∨ (c = (25 * (2 + k))); omega)
    replace hl : lv_has ls 2 [(0, .ref (gad Γ 475)), (1, .int (nI k))] := by rw [hE1.2.2.2 (475) hm]; exact hl
    refine W.eq (g2 := F0 m (85) ls [.ref (gad Γ (25 * (2 + k))), .int (nI k), .ref (gad Γ 480)]) (by rw [hE1.2.2.2 (480) (hEo.new (by show 480 < 50 + 25 * k ∨ (100 ≤ 480 ∧ 480 < 475) ∨ (476 ≤ 480 ∧ 480 ≤ 482); omega))]) ?_
    replace hm := hE1.mem hm
    replace hZ := hE1.toZ hZ
    refine lv_dup hx hb dX6_init_85 rfl ?_
    refine g_callNw (As := []) (rest := [.ref (gad Γ (25 * (2 + k))), .int (nI k), .ref (gad Γ 480)]) hF (mX2_init (slM (hisM (va_up (va_up M 0 newP) 1 newP) 15) k) (slR (up2R (up2R (up2R (up2R (hisR (up2R (RoadR (up2R (RoadR (up2R (up2R R 476 0 (some 477)) 475 0 (some 476)) 0) 475 1 (some (25 * 0))) 1) 475 2 (some (25 * 1))) 15) 475 3 (some 478)) 475 4 (some 480)) 475 5 (some 481)) 475 6 (some 482)) k) O (r := 2 + k) (by omega) (hE.new (by show (25 * (2 + k)) < 50 + 25 * k + 1 ∨ (100 ≤ (25 * (2 + k)) ∧ (25 * (2 + k)) < 475) ∨ (476 ≤ (25 * (2 + k)) ∧ (25 * (2 + k)) ≤ 482); omega)) (fun c h1 h2 => hE.out (hfr c (by omega) (by omega)) (by show ¬ (c < 50 + 25 * k + 1 ∨ (100 ≤ c ∧ c < 475) ∨ (476 ≤ c ∧ c ≤ 482)); omega)) hRC (fun c h1 h2 => by rw [slR_hi _ (by omega) (by omega), up2R_ne (by omega), up2R_ne (by omega), up2R_ne (by omega), up2R_ne (by omega), hisR_hi _ (by omega) (by omega), up2R_ne (by omega), RoadR_ne (by omega), up2R_ne (by omega), RoadR_ne (by omega), up2R_ne (by omega), up2R_ne (by omega), hRn c (by omega)]) (by rw [slM_hi _ (by omega), hisM_hi _ (by omega), va_up_ne _ _ (by omega), va_up_ne _ _ (by omega)]; exact hM0 _)) (cwI 0 hts gX6_init_X2_init rfl rfl rfl k_13 k_15 k_16 rfl (by decide +kernel) ⟨Nat.le_of_ble_eq_true rfl, Nat.le_of_ble_eq_true rfl⟩) hK hZ hA hG hS rfl hl.1 (Nat.le_of_ble_eq_true rfl) dX6_init_86 ⟨(by show _ ≤ 482; omega), (by show _ ≤ 3044; omega)⟩ rfl (fun Γ H locs hE1 hG hK hRC hS => ?_)
    have hEo := hE
    replace hE := hE.trans (P := fun c => c < 50 + 25 * (k + 1) ∨ (100 ≤ c ∧ c < 475) ∨ (476 ≤ c ∧ c ≤ 482)) hE1 (fun c => by show (c < 50 + 25 * (k + 1) ∨ (100 ≤ c ∧ c < 475) ∨ (476 ≤ c ∧ c ≤ 482)) ↔ (c < 50 + 25 * k + 1 ∨ (100 ≤ c ∧ c < 475) ∨ (476 ≤ c ∧ c ≤ 482)) ∨ (25 * (2 + k) < c ∧ c < 25 * (2 + k) + 1 + 24); omega)
    replace hl : lv_has ls 2 [(0, .ref (gad Γ 475)), (1, .int (nI k))] := by rw [hE1.2.2.2 (475) hm]; exact hl
    refine W.eq (g2 := F0 m (89) ls [.ref (gad Γ (25 * (2 + k))), .int (nI k), .ref (gad Γ 480)]) (by rw [hE1.2.2.2 (25 * (2 + k)) (hEo.new (by show (25 * (2 + k)) < 50 + 25 * k + 1 ∨ (100 ≤ (25 * (2 + k)) ∧ (25 * (2 + k)) < 475) ∨ (476 ≤ (25 * (2 + k)) ∧ (25 * (2 + k)) ≤ 482); omega)), hE1.2.2.2 (480) (hEo.new (by show 480 < 50 + 25 * k + 1 ∨ (100 ≤ 480 ∧ 480 < 475) ∨ (476 ≤ 480 ∧ 480 ≤ 482); omega))]) ?_
    replace hm := hE1.mem hm
    replace hZ := hE1.toZ hZ
    refine g_aast hx hb hK hG hS (hE.new (by show 480 < 50 + 25 * (k + 1) ∨ (100 ≤ 480 ∧ 480 < 475) ∨ (476 ≤ 480 ∧ 480 ≤ 482); omega)) (show gC 480 = (12, 34, 0) from rfl) (by decide) (by decide) rfl (hE.new (by show (25 * (2 + k)) < 50 + 25 * (k + 1) ∨ (100 ≤ (25 * (2 + k)) ∧ (25 * (2 + k)) < 475) ∨ (476 ≤ (25 * (2 + k)) ∧ (25 * (2 + k)) ≤ 482); omega)) (gC_Rd (r := (2 + k)) (by omega)) (by decide) rfl (show gLen 480 = 2 from rfl) (j := k) (nI_clamp (by omega)) (vp_in_nI (by omega) (by decide)) dX6_init_89 (fun H locs hG hS => ?_)
    replace hRC := RC.up hRC (c := 480) (k := k) (d := (25 * (2 + k))) (hE.new (by show (25 * (2 + k)) < 50 + 25 * (k + 1) ∨ (100 ≤ (25 * (2 + k)) ∧ (25 * (2 + k)) < 475) ∨ (476 ≤ (25 * (2 + k)) ∧ (25 * (2 + k)) ≤ 482); omega))
    refine lv_iinc (v := nI (k + 1)) (lv' := [(1, .int (nI (k + 1))), (0, .ref (gad Γ 475))]) hx hb dX6_init_90 hl (k := 1) rfl (nI_1 _) (by decide) rfl (fun ls hl => ?_)
    refine lv_goto (tgt := 72) hx hb dX6_init_93 (by decide) ?_
    replace hE : Ext Γ0 Γ (fun c => c < 50 + 25 * (k + 1) ∨ (100 ≤ c ∧ c < 475) ∨ (476 ≤ c ∧ c ≤ 482)) := ⟨hE.1, hE.2.1, fun c => (hE.2.2.1 c).trans (by show _ ∨ (c < 50 + 25 * (k + 1) ∨ (100 ≤ c ∧ c < 475) ∨ (476 ≤ c ∧ c ≤ 482)) ↔ _ ∨ (c < 50 + 25 * (k + 1) ∨ (100 ≤ c ∧ c < 475) ∨ (476 ≤ c ∧ c ≤ 482)); exact or_congr Iff.rfl (by omega)), hE.2.2.2⟩
    exact W.widen (Nat.le_of_eq (by show _ = 432 + 25 * (k + 1); omega)) (Nat.le_of_eq (by show _ = 2734 + 155 * (k + 1); omega)) (ih_k _ _ _ ⟨Γ, hE, hG, hK, hRC, hS, lv_sub hl [1, 0] rfl⟩)

