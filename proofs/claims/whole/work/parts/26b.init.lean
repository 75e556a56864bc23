/-! CONSTRUCTORS: the reference. Laid by gen/p26.py. -/
def modR (R : Nat → Nat → Option Nat) : Nat → Nat → Option Nat := up2R (up2R (up2R (up2R (up2R (up2R (up2R R 483 1 (some 484)) 483 4 (some 485)) 483 5 (some 486)) 483 6 (some 487)) 483 7 (some 488)) 483 9 (some 489)) 483 10 (some 490)
def modM (M : Nat → Nat → Int32) : Nat → Nat → Int32 := va_up M 27 (upd (fX7_clear_P (fun _ => 0) 4) 17 1)
set_option maxHeartbeats 4000000 in
set_option maxRecDepth 100000 in
theorem mX7_init {l : Launch} {Γ0 : gX} (M : Nat → Nat → Int32) (R : Nat → Nat → Option Nat) (O : Int64) (hm : 483 ∈ gcs Γ0) (hfr : ∀ c, 484 ≤ c → c ≤ 490 → c ∉ gcs Γ0) (hRC : RC (gcs Γ0) R) (hMz : ∀ b, 24 ≤ b → M b = fun _ => 0) : gNew l Γ0 yX7_init wsX7_init 2 42 7 2693 [.ref (gad Γ0 483)] M R O (fun c => 484 ≤ c ∧ c ≤ 490) (modM M) (modR R) := by
  refine g_startN (cc := cX7_init) (maxL := 1) (ret := none) (by decide) rfl (Nat.le_of_ble_eq_true rfl) ?_
  intro p e s m below meth c ls hx hb hml hrt hts hown hlocks hname hK hZ hG hS hl hA
  have hl : lv_has ls 1 [(0, .ref (gad Γ0 483))] := hl
  have hown : s.vm.findClass RX7 = some m.cls := hown
  have hF : CallFix p m c cX7_init 1 s _ wsX7_init RX7 := ⟨hx, hb, hml, hown, hts⟩
  have k_1 : (Cond.methodLink RX7 1 objectInit).before _ s = true := hts _ (by decide +kernel)
  have k_2 : (Cond.instanceMethod objectInit).before _ s = true := hts _ (by decide +kernel)
  have k_3 : (Cond.code objectInit ⟨#[0xb1]⟩ 1 none).before _ s = true := hts _ (by decide +kernel)
  have k_4 : (Cond.arrayClass .int).before _ s = true := hts _ (by decide +kernel)
  have k_5 : (Cond.fieldLink RX7 7 "RoadDustModel" "text" "[I").before _ s = true := hts _ (by decide +kernel)
  have in_X7 : ∀ w ∈ wsX70, w ∈ wsX7_init := by decide +kernel
  have k_7 : (Cond.fieldLink RX7 13 "RoadDustModel" "read" "[I").before _ s = true := hts _ (by decide +kernel)
  have k_8 : (Cond.fieldLink RX7 16 "RoadDustModel" "now" "[I").before _ s = true := hts _ (by decide +kernel)
  have k_9 : (Cond.fieldLink RX7 19 "RoadDustModel" "trial" "[I").before _ s = true := hts _ (by decide +kernel)
  have k_10 : (Cond.fieldLink RX7 22 "RoadDustModel" "diary" "[I").before _ s = true := hts _ (by decide +kernel)
  have k_11 : (Cond.fieldLink RX7 25 "RoadDustModel" "kept" "[I").before _ s = true := hts _ (by decide +kernel)
  have k_12 : (Cond.arrayClass .boolean).before _ s = true := hts _ (by decide +kernel)
  have k_13 : (Cond.fieldLink RX7 28 "RoadDustModel" "isKept" "[Z").before _ s = true := hts _ (by decide +kernel)
  have gz0 : gSz 0 = 2 := rfl
  have gz1 : gSz 1 = 5 := rfl
  have gz2 : gSz 2 = 15 := rfl
  have gz3 : gSz 3 = 7 := rfl
  have gz4 : gSz 4 = 4 := rfl
  have gz5 : gSz 5 = 3 := rfl
  have gz6 : gSz 6 = 7 := rfl
  have gz7 : gSz 7 = 11 := rfl
  have hm0 := hm
  have hZ0 := hZ
  have hE : Ext Γ0 Γ0 (fun c => c < 0) := Ext.rf (fun _ h => Nat.not_lt_zero _ h)
  refine lv_aload_n hx hb dX7_init_0 rfl (lv_at hl 0 rfl) ?_
  refine W.objInit hx hb hown k_1 k_2 k_3 rfl (by rw [hml]; exact hl.1) rfl dX7_init_1 (Nat.le_of_ble_eq_true rfl) (Nat.le_of_ble_eq_true rfl) ?_
  refine W.eq (g2 := F0 m 4 ls []) rfl ?_
  refine lv_aload_n hx hb dX7_init_4 rfl (lv_at hl 0 rfl) ?_
  refine lv_bipush (v := 70) hx hb dX7_init_5 (by decide) ?_
  refine g_newA (atype := .int) (ty := .int) hx hb k_4 rfl rfl hK hG hS hZ.2.2 (show gC 484 = (9, 25, 0) from rfl) (by decide) (by decide) rfl (show gLen 484 = 70 from rfl) (hE.out (hfr _ (by omega) (by omega)) (by show ¬ (484 < 0); omega)) hRC (hMz _ (by decide)) (by decide) rfl (by decide) (by show _ ≤ 7; decide) (by show _ ≤ 2693; decide) dX7_init_7 (fun Γ H hE1 hG hK hRC hS => ?_)
  have hEo := hE
  replace hE := hE.trans (P := fun c => 484 ≤ c ∧ c ≤ 484) hE1 (fun c => by show (484 ≤ c ∧ c ≤ 484) ↔ (c < 0) ∨ (c = 484); omega)
  replace hl : lv_has ls 1 [(0, .ref (gad Γ 483))] := by rw [hE1.2.2.2 (483) hm]; exact hl
  refine W.eq (g2 := F0 m (9) ls [.ref (gad Γ 484), .ref (gad Γ 483)]) (by rw [hE1.2.2.2 (483) hm]) ?_
  replace hm := hE1.mem hm
  replace hZ := hE1.toZ hZ
  refine g_putF (C := RX7) (T := TX7) (ci := 7) hx hb hts in_X7 tyX7 tyX7_ok nmX7 hown hK hG hS hm (show gC 483 = (7, 24, 0) from rfl) (by decide) rfl 1 (by decide) k_5 (fun _ h => h) rfl (by decide +kernel) hname (by decide +kernel) (tyX7_ok 1 (by decide)) rfl rfl dX7_init_9 (fun H locs hG hS => ?_)
  replace hRC := RC.up hRC (c := 483) (k := 1) (d := 484) (hE.new (by show 484 ≤ 484 ∧ 484 ≤ 484; omega))
  refine lv_aload_n hx hb dX7_init_12 rfl (lv_at hl 0 rfl) ?_
  refine lv_sipush (v := 131) hx hb dX7_init_13 (by decide) ?_
  refine g_newA (atype := .int) (ty := .int) hx hb k_4 rfl rfl hK hG hS hZ.2.2 (show gC 485 = (9, 26, 0) from rfl) (by decide) (by decide) rfl (show gLen 485 = 131 from rfl) (hE.out (hfr _ (by omega) (by omega)) (by show ¬ (484 ≤ 485 ∧ 485 ≤ 484); omega)) hRC (hMz _ (by decide)) (by decide) rfl (by decide) (by show _ ≤ 7; decide) (by show _ ≤ 2693; decide) dX7_init_16 (fun Γ H hE1 hG hK hRC hS => ?_)
  have hEo := hE
  replace hE := hE.trans (P := fun c => 484 ≤ c ∧ c ≤ 485) hE1 (fun c => by show (484 ≤ c ∧ c ≤ 485) ↔ (484 ≤ c ∧ c ≤ 484) ∨ (c = 485); omega)
  replace hl : lv_has ls 1 [(0, .ref (gad Γ 483))] := by rw [hE1.2.2.2 (483) hm]; exact hl
  refine W.eq (g2 := F0 m (18) ls [.ref (gad Γ 485), .ref (gad Γ 483)]) (by rw [hE1.2.2.2 (483) hm]) ?_
  replace hm := hE1.mem hm
  replace hZ := hE1.toZ hZ
  refine g_putF (C := RX7) (T := TX7) (ci := 7) hx hb hts in_X7 tyX7 tyX7_ok nmX7 hown hK hG hS hm (show gC 483 = (7, 24, 0) from rfl) (by decide) rfl 4 (by decide) k_7 (fun _ h => h) rfl (by decide +kernel) hname (by decide +kernel) (tyX7_ok 4 (by decide)) rfl rfl dX7_init_18 (fun H locs hG hS => ?_)
  replace hRC := RC.up hRC (c := 483) (k := 4) (d := 485) (hE.new (by show 484 ≤ 485 ∧ 485 ≤ 485; omega))
  refine lv_aload_n hx hb dX7_init_21 rfl (lv_at hl 0 rfl) ?_
  refine lv_sipush (v := 131) hx hb dX7_init_22 (by decide) ?_
  refine g_newA (atype := .int) (ty := .int) hx hb k_4 rfl rfl hK hG hS hZ.2.2 (show gC 486 = (9, 27, 0) from rfl) (by decide) (by decide) rfl (show gLen 486 = 131 from rfl) (hE.out (hfr _ (by omega) (by omega)) (by show ¬ (484 ≤ 486 ∧ 486 ≤ 485); omega)) hRC (hMz _ (by decide)) (by decide) rfl (by decide) (by show _ ≤ 7; decide) (by show _ ≤ 2693; decide) dX7_init_25 (fun Γ H hE1 hG hK hRC hS => ?_)
  have hEo := hE
  replace hE := hE.trans (P := fun c => 484 ≤ c ∧ c ≤ 486) hE1 (fun c => by show (484 ≤ c ∧ c ≤ 486) ↔ (484 ≤ c ∧ c ≤ 485) ∨ (c = 486); omega)
  replace hl : lv_has ls 1 [(0, .ref (gad Γ 483))] := by rw [hE1.2.2.2 (483) hm]; exact hl
  refine W.eq (g2 := F0 m (27) ls [.ref (gad Γ 486), .ref (gad Γ 483)]) (by rw [hE1.2.2.2 (483) hm]) ?_
  replace hm := hE1.mem hm
  replace hZ := hE1.toZ hZ
  refine g_putF (C := RX7) (T := TX7) (ci := 7) hx hb hts in_X7 tyX7 tyX7_ok nmX7 hown hK hG hS hm (show gC 483 = (7, 24, 0) from rfl) (by decide) rfl 5 (by decide) k_8 (fun _ h => h) rfl (by decide +kernel) hname (by decide +kernel) (tyX7_ok 5 (by decide)) rfl rfl dX7_init_27 (fun H locs hG hS => ?_)
  replace hRC := RC.up hRC (c := 483) (k := 5) (d := 486) (hE.new (by show 484 ≤ 486 ∧ 486 ≤ 486; omega))
  refine lv_aload_n hx hb dX7_init_30 rfl (lv_at hl 0 rfl) ?_
  refine lv_sipush (v := 131) hx hb dX7_init_31 (by decide) ?_
  refine g_newA (atype := .int) (ty := .int) hx hb k_4 rfl rfl hK hG hS hZ.2.2 (show gC 487 = (9, 28, 0) from rfl) (by decide) (by decide) rfl (show gLen 487 = 131 from rfl) (hE.out (hfr _ (by omega) (by omega)) (by show ¬ (484 ≤ 487 ∧ 487 ≤ 486); omega)) hRC (hMz _ (by decide)) (by decide) rfl (by decide) (by show _ ≤ 7; decide) (by show _ ≤ 2693; decide) dX7_init_34 (fun Γ H hE1 hG hK hRC hS => ?_)
  have hEo := hE
  replace hE := hE.trans (P := fun c => 484 ≤ c ∧ c ≤ 487) hE1 (fun c => by show (484 ≤ c ∧ c ≤ 487) ↔ (484 ≤ c ∧ c ≤ 486) ∨ (c = 487); omega)
  replace hl : lv_has ls 1 [(0, .ref (gad Γ 483))] := by rw [hE1.2.2.2 (483) hm]; exact hl
  refine W.eq (g2 := F0 m (36) ls [.ref (gad Γ 487), .ref (gad Γ 483)]) (by rw [hE1.2.2.2 (483) hm]) ?_
  replace hm := hE1.mem hm
  replace hZ := hE1.toZ hZ
  refine g_putF (C := RX7) (T := TX7) (ci := 7) hx hb hts in_X7 tyX7 tyX7_ok nmX7 hown hK hG hS hm (show gC 483 = (7, 24, 0) from rfl) (by decide) rfl 6 (by decide) k_9 (fun _ h => h) rfl (by decide +kernel) hname (by decide +kernel) (tyX7_ok 6 (by decide)) rfl rfl dX7_init_36 (fun H locs hG hS => ?_)
  replace hRC := RC.up hRC (c := 483) (k := 6) (d := 487) (hE.new (by show 484 ≤ 487 ∧ 487 ≤ 487; omega))
  refine lv_aload_n hx hb dX7_init_39 rfl (lv_at hl 0 rfl) ?_
  refine lv_sipush (v := 1834) hx hb dX7_init_40 (by decide) ?_
  refine g_newA (atype := .int) (ty := .int) hx hb k_4 rfl rfl hK hG hS hZ.2.2 (show gC 488 = (9, 29, 0) from rfl) (by decide) (by decide) rfl (show gLen 488 = 1834 from rfl) (hE.out (hfr _ (by omega) (by omega)) (by show ¬ (484 ≤ 488 ∧ 488 ≤ 487); omega)) hRC (hMz _ (by decide)) (by decide) rfl (by decide) (by show _ ≤ 7; decide) (by show _ ≤ 2693; decide) dX7_init_43 (fun Γ H hE1 hG hK hRC hS => ?_)
  have hEo := hE
  replace hE := hE.trans (P := fun c => 484 ≤ c ∧ c ≤ 488) hE1 (fun c => by show (484 ≤ c ∧ c ≤ 488) ↔ (484 ≤ c ∧ c ≤ 487) ∨ (c = 488); omega)
  replace hl : lv_has ls 1 [(0, .ref (gad Γ 483))] := by rw [hE1.2.2.2 (483) hm]; exact hl
  refine W.eq (g2 := F0 m (45) ls [.ref (gad Γ 488), .ref (gad Γ 483)]) (by rw [hE1.2.2.2 (483) hm]) ?_
  replace hm := hE1.mem hm
  replace hZ := hE1.toZ hZ
  refine g_putF (C := RX7) (T := TX7) (ci := 7) hx hb hts in_X7 tyX7 tyX7_ok nmX7 hown hK hG hS hm (show gC 483 = (7, 24, 0) from rfl) (by decide) rfl 7 (by decide) k_10 (fun _ h => h) rfl (by decide +kernel) hname (by decide +kernel) (tyX7_ok 7 (by decide)) rfl rfl dX7_init_45 (fun H locs hG hS => ?_)
  replace hRC := RC.up hRC (c := 483) (k := 7) (d := 488) (hE.new (by show 484 ≤ 488 ∧ 488 ≤ 488; omega))
  refine lv_aload_n hx hb dX7_init_48 rfl (lv_at hl 0 rfl) ?_
  refine lv_sipush (v := 262) hx hb dX7_init_49 (by decide) ?_
  refine g_newA (atype := .int) (ty := .int) hx hb k_4 rfl rfl hK hG hS hZ.2.2 (show gC 489 = (9, 30, 0) from rfl) (by decide) (by decide) rfl (show gLen 489 = 262 from rfl) (hE.out (hfr _ (by omega) (by omega)) (by show ¬ (484 ≤ 489 ∧ 489 ≤ 488); omega)) hRC (hMz _ (by decide)) (by decide) rfl (by decide) (by show _ ≤ 7; decide) (by show _ ≤ 2693; decide) dX7_init_52 (fun Γ H hE1 hG hK hRC hS => ?_)
  have hEo := hE
  replace hE := hE.trans (P := fun c => 484 ≤ c ∧ c ≤ 489) hE1 (fun c => by show (484 ≤ c ∧ c ≤ 489) ↔ (484 ≤ c ∧ c ≤ 488) ∨ (c = 489); omega)
  replace hl : lv_has ls 1 [(0, .ref (gad Γ 483))] := by rw [hE1.2.2.2 (483) hm]; exact hl
  refine W.eq (g2 := F0 m (54) ls [.ref (gad Γ 489), .ref (gad Γ 483)]) (by rw [hE1.2.2.2 (483) hm]) ?_
  replace hm := hE1.mem hm
  replace hZ := hE1.toZ hZ
  refine g_putF (C := RX7) (T := TX7) (ci := 7) hx hb hts in_X7 tyX7 tyX7_ok nmX7 hown hK hG hS hm (show gC 483 = (7, 24, 0) from rfl) (by decide) rfl 9 (by decide) k_11 (fun _ h => h) rfl (by decide +kernel) hname (by decide +kernel) (tyX7_ok 9 (by decide)) rfl rfl dX7_init_54 (fun H locs hG hS => ?_)
  replace hRC := RC.up hRC (c := 483) (k := 9) (d := 489) (hE.new (by show 484 ≤ 489 ∧ 489 ≤ 489; omega))
  refine lv_aload_n hx hb dX7_init_57 rfl (lv_at hl 0 rfl) ?_
  refine lv_iconst (v := 2) hx hb dX7_init_58 (by decide) ?_
  refine g_newA (atype := .boolean) (ty := .boolean) hx hb k_12 rfl rfl hK hG hS hZ.2.2 (show gC 490 = (10, 31, 0) from rfl) (by decide) (by decide) rfl (show gLen 490 = 2 from rfl) (hE.out (hfr _ (by omega) (by omega)) (by show ¬ (484 ≤ 490 ∧ 490 ≤ 489); omega)) hRC (hMz _ (by decide)) (by decide) rfl (by decide) (by show _ ≤ 7; decide) (by show _ ≤ 2693; decide) dX7_init_59 (fun Γ H hE1 hG hK hRC hS => ?_)
  have hEo := hE
  replace hE := hE.trans (P := fun c => 484 ≤ c ∧ c ≤ 490) hE1 (fun c => by show (484 ≤ c ∧ c ≤ 490) ↔ (484 ≤ c ∧ c ≤ 489) ∨ (c = 490); omega)
  replace hl : lv_has ls 1 [(0, .ref (gad Γ 483))] := by rw [hE1.2.2.2 (483) hm]; exact hl
  refine W.eq (g2 := F0 m (61) ls [.ref (gad Γ 490), .ref (gad Γ 483)]) (by rw [hE1.2.2.2 (483) hm]) ?_
  replace hm := hE1.mem hm
  replace hZ := hE1.toZ hZ
  refine g_putF (C := RX7) (T := TX7) (ci := 7) hx hb hts in_X7 tyX7 tyX7_ok nmX7 hown hK hG hS hm (show gC 483 = (7, 24, 0) from rfl) (by decide) rfl 10 (by decide) k_13 (fun _ h => h) rfl (by decide +kernel) hname (by decide +kernel) (tyX7_ok 10 (by decide)) rfl rfl dX7_init_61 (fun H locs hG hS => ?_)
  replace hRC := RC.up hRC (c := 483) (k := 10) (d := 490) (hE.new (by show 484 ≤ 490 ∧ 490 ≤ 490; omega))
  refine lv_aload_n hx hb dX7_init_64 rfl (lv_at hl 0 rfl) ?_
  refine go_getr (C := RX7) (T := TX7) (ci := 7) hx hb hts in_X7 hown hK hG hm (show gC 483 = (7, 24, 0) from rfl) (by decide) rfl 5 (by decide) rfl (by rw [up2R_nk (by decide), up2R_nk (by decide), up2R_nk (by decide), up2R_nk (by decide), up2R_eq]) k_8 (fun _ h => h) dX7_init_65 ?_
  refine lv_iconst (v := 4) hx hb dX7_init_68 (by decide) ?_
  replace hG := g_st (va_up_id M 27).symm hG
  refine g_callS (As := [.ref (gad Γ 486), .int 4]) (rest := []) (st1 := []) hF (mX7_clear M (up2R (up2R (up2R (up2R (up2R (up2R (up2R R 483 1 (some 484)) 483 4 (some 485)) 483 5 (some 486)) 483 6 (some 487)) 483 7 (some 488)) 483 9 (some 489)) 483 10 (some 490)) O (hE.new (by show 484 ≤ 486 ∧ 486 ≤ 490; omega)) (show gC 486 = (9, 27, 0) from rfl) (show gLen 486 = 131 from rfl) (M 27) 4 rfl (by decide)) (va_cwS 2 hts gX7_init_X7_clear rfl rfl rfl (by decide +kernel) ⟨Nat.le_of_ble_eq_true rfl, Nat.le_of_ble_eq_true rfl⟩) hK hZ hG hS rfl hl.1 (Nat.le_of_ble_eq_true rfl) dX7_init_69 ⟨(by show _ ≤ 7; decide), (by show _ ≤ 2693; decide)⟩ rfl rfl (fun H locs hG hS => ?_)
  rw [hMz 27 (by decide)] at hG
  refine lv_aload_n hx hb dX7_init_72 rfl (lv_at hl 0 rfl) ?_
  refine go_getr (C := RX7) (T := TX7) (ci := 7) hx hb hts in_X7 hown hK hG hm (show gC 483 = (7, 24, 0) from rfl) (by decide) rfl 5 (by decide) rfl (by rw [up2R_nk (by decide), up2R_nk (by decide), up2R_nk (by decide), up2R_nk (by decide), up2R_eq]) k_8 (fun _ h => h) dX7_init_73 ?_
  refine lv_bipush (v := 17) hx hb dX7_init_76 (by decide) ?_
  refine lv_iconst (v := 1) hx hb dX7_init_78 (by decide) ?_
  refine ga_ast hx hb hK hG hS (hE.new (by show 484 ≤ 486 ∧ 486 ≤ 490; omega)) (show gC 486 = (9, 27, 0) from rfl) (show gLen 486 = 131 from rfl) (by decide) (j := 17) rfl (by decide) dX7_init_79 (fun H locs hG hS => ?_)
  exact g_nret hx hb hrt hlocks hE hK hRC hS hG (by show _ ≤ 7; decide) (by show _ ≤ 2693; decide) dX7_init_80

