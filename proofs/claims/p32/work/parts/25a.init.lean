/-! CONSTRUCTORS: a road. Laid by gen/p25.py. -/
/-- the first n of a road's cells behind the road itself -/
def nwP (r n : Nat) (c : Nat) : Prop := 25 * r < c ∧ c < 25 * r + 1 + n
theorem nwP_0 (r : Nat) : ∀ c, ¬ nwP r 0 c := fun c h => by unfold nwP at h; omega
theorem nwP_s {r n c0 : Nat} (h : c0 = 25 * r + 1 + n) : ∀ c, nwP r (n + 1) c ↔ nwP r n c ∨ c = c0 := fun c => by unfold nwP; omega
theorem nwP_i {r n c : Nat} (h : 25 * r < c) (h2 : c < 25 * r + 1 + n) : nwP r n c := ⟨h, h2⟩
theorem nwP_o {r n c : Nat} (h : c = 25 * r + 1 + n) : ¬ nwP r n c := fun q => by unfold nwP at q; omega
def RoadR3 (R : Nat → Nat → Option Nat) (r : Nat) : Nat → Nat → Option Nat := up2R (up2R (up2R R (25 * r) 12 (some (25 * r + 1))) (25 * r) 13 (some (25 * r + 2))) (25 * r) 14 (some (25 * r + 3))
/-- the references of a new road -/
def RoadR (R : Nat → Nat → Option Nat) (r : Nat) : Nat → Nat → Option Nat := rIt (rIt (rIt (RoadR3 R r) (25 * r + 1) (25 * r + 4) 10) (25 * r + 2) (25 * r + 14) 8) (25 * r + 3) (25 * r + 22) 3
/-- a new road's page -/
def newP : Nat → Int32 := fX2_beNew_P (fun _ => 0)
theorem RoadR_up {R : Nat → Nat → Option Nat} {r : Nat} : RoadR R r (25 * r) 12 = some (25 * r + 1) ∧ RoadR R r (25 * r) 13 = some (25 * r + 2) ∧ RoadR R r (25 * r) 14 = some (25 * r + 3) := by
  unfold RoadR
  rw [rIt_ne (by omega), rIt_ne (by omega), rIt_ne (by omega)]
  unfold RoadR3
  exact ⟨by rw [up2R_nk (by decide), up2R_nk (by decide), up2R_eq], by rw [up2R_nk (by decide), up2R_eq], up2R_eq⟩
theorem RoadR_ne {R : Nat → Nat → Option Nat} {r c : Nat} (h : c < 25 * r ∨ 25 * r + 3 < c) : RoadR R r c = R c := by
  unfold RoadR RoadR3
  rw [rIt_ne (by omega), rIt_ne (by omega), rIt_ne (by omega), up2R_ne (by omega), up2R_ne (by omega), up2R_ne (by omega)]
theorem LV_road {Γ : gX} {R : Nat → Nat → Option Nat} {r : Nat} (hr : r < 19) (hm : 25 * r ∈ gcs Γ) (hn : ∀ c, 25 * r < c → c < 25 * r + 25 → c ∈ gcs Γ) : LV Γ (RoadR R r) r := by
  refine ⟨hr, fun k hk => ?_, RoadR_up.1, RoadR_up.2.1, RoadR_up.2.2, fun i hi => ?_, fun i hi => ?_, fun i hi => ?_⟩
  · rcases Nat.eq_zero_or_pos k with e | e
    · subst e; exact hm
    · exact hn _ (by omega) (by omega)
  · unfold RoadR
    rw [rIt_ne (by omega), rIt_ne (by omega), rIt_lt 10 i hi]
  · unfold RoadR
    rw [rIt_ne (by omega), rIt_lt 8 i hi]
  · unfold RoadR
    rw [rIt_lt 3 i hi]
set_option maxHeartbeats 4000000 in
set_option maxRecDepth 100000 in
theorem mX2_init {l : Launch} {Γ0 : gX} (M : Nat → Nat → Int32) (R : Nat → Nat → Option Nat) (O : Int64) {r : Nat} (hr : r < 19) (hm : 25 * r ∈ gcs Γ0) (hfr : ∀ c, 25 * r < c → c < 25 * r + 25 → c ∉ gcs Γ0) (hRC : RC (gcs Γ0) R) (hRn : ∀ c, 25 * r ≤ c → c < 25 * r + 25 → R c = fun _ => none) (hMr : M r = fun _ => 0) : gNew l Γ0 yX2_init wsX2_init 2 46 24 140 [.ref (gad Γ0 (25 * r))] M R O (nwP r 24) (va_up M r newP) (RoadR R r) := by
  refine g_startN (cc := cX2_init) (maxL := 2) (ret := none) (by decide) rfl (Nat.le_of_ble_eq_true rfl) ?_
  intro p e s m below meth c ls hx hb hml hrt hts hown hlocks hname hK hZ hG hS hl hA
  have hl : lv_has ls 2 [(0, .ref (gad Γ0 (25 * r)))] := hl
  have hown : s.vm.findClass RX2 = some m.cls := hown
  have hF : CallFix p m c cX2_init 2 s _ wsX2_init RX2 := ⟨hx, hb, hml, hown, hts⟩
  have k_1 : (Cond.methodLink RX2 3 objectInit).before _ s = true := hts _ (by decide +kernel)
  have k_2 : (Cond.instanceMethod objectInit).before _ s = true := hts _ (by decide +kernel)
  have k_3 : (Cond.code objectInit ⟨#[0xb1]⟩ 1 none).before _ s = true := hts _ (by decide +kernel)
  have k_4 : (Cond.classLink RX2 9 RX3).before _ s = true := hts _ (by decide +kernel)
  have k_5 : (Cond.fieldLink RX2 11 "RoadDust$Road" "segmentRow" "[LRoadDust$Segment;").before _ s = true := hts _ (by decide +kernel)
  have in_X2 : ∀ w ∈ wsX20, w ∈ wsX2_init := by decide +kernel
  have k_7 : (Cond.classLink RX2 17 RX1).before _ s = true := hts _ (by decide +kernel)
  have k_8 : (Cond.fieldLink RX2 19 "RoadDust$Road" "houseRow" "[LRoadDust$House;").before _ s = true := hts _ (by decide +kernel)
  have k_9 : (Cond.classLink RX2 23 RX5).before _ s = true := hts _ (by decide +kernel)
  have k_10 : (Cond.fieldLink RX2 25 "RoadDust$Road" "wagonRow" "[LRoadDust$Wagon;").before _ s = true := hts _ (by decide +kernel)
  have k_11 : (Cond.instantiable RX5 3).before _ s = true := hts _ (by decide +kernel)
  have k_12 : (Cond.initialized RX5).before _ s = true := hts _ (by decide +kernel)
  have in_X5 : ∀ w ∈ wsX50, w ∈ wsX2_init := by decide +kernel
  have k_14 : (Cond.instanceMethod yX5_init).before _ s = true := hts _ (by decide +kernel)
  have k_15 : (Cond.instantiable RX1 5).before _ s = true := hts _ (by decide +kernel)
  have k_16 : (Cond.initialized RX1).before _ s = true := hts _ (by decide +kernel)
  have in_X1 : ∀ w ∈ wsX10, w ∈ wsX2_init := by decide +kernel
  have k_18 : (Cond.instanceMethod yX1_init).before _ s = true := hts _ (by decide +kernel)
  have k_19 : (Cond.instantiable RX3 7).before _ s = true := hts _ (by decide +kernel)
  have k_20 : (Cond.initialized RX3).before _ s = true := hts _ (by decide +kernel)
  have in_X3 : ∀ w ∈ wsX30, w ∈ wsX2_init := by decide +kernel
  have k_22 : (Cond.instanceMethod yX3_init).before _ s = true := hts _ (by decide +kernel)
  have gz0 : gSz 0 = 2 := rfl
  have gz1 : gSz 1 = 5 := rfl
  have gz2 : gSz 2 = 15 := rfl
  have gz3 : gSz 3 = 7 := rfl
  have gz4 : gSz 4 = 4 := rfl
  have gz5 : gSz 5 = 3 := rfl
  have gz6 : gSz 6 = 7 := rfl
  have gz7 : gSz 7 = 11 := rfl
  have hm0 := hm
  have hZ0 := hZ
  have hE : Ext Γ0 Γ0 (nwP r 0) := Ext.rf (nwP_0 r)
  refine lv_aload_n hx hb dX2_init_0 rfl (lv_at hl 0 rfl) ?_
  refine W.objInit hx hb hown k_1 k_2 k_3 rfl (by rw [hml]; exact hl.1) rfl dX2_init_1 (Nat.le_of_ble_eq_true rfl) (Nat.le_of_ble_eq_true rfl) ?_
  refine W.eq (g2 := F0 m 4 ls []) rfl ?_
  refine lv_aload_n hx hb dX2_init_4 rfl (lv_at hl 0 rfl) ?_
  refine lv_bipush (v := 10) hx hb dX2_init_5 (by decide) ?_
  refine g_newR (C := RX3) hx hb hown k_4 hA.1 hK hG hS hZ.2.2 (gC_row1 hr) (by decide) (by decide) rfl (gLen_row1 hr) (hE.out (hfr _ (by omega) (by omega)) (nwP_o (by omega))) hRC (fun j => by rw [hRn _ (by omega) (by omega)]) (by decide) rfl (by decide) (by show _ ≤ 24; decide) (by show _ ≤ 140; decide) dX2_init_7 (fun Γ H hE1 hG hK hRC hS => ?_)
  have hEo := hE
  replace hE := hE.trans hE1 (nwP_s (n := 0) (by omega))
  replace hl : lv_has ls 2 [(0, .ref (gad Γ (25 * r)))] := by rw [hE1.2.2.2 (25 * r) hm]; exact hl
  refine W.eq (g2 := F0 m (10) ls [.ref (gad Γ (25 * r + 1)), .ref (gad Γ (25 * r))]) (by rw [hE1.2.2.2 (25 * r) hm]) ?_
  replace hm := hE1.mem hm
  replace hZ := hE1.toZ hZ
  refine g_putF (C := RX2) (T := TX2) (ci := 2) hx hb hts in_X2 tyX2 tyX2_ok nmX2 hown hK hG hS hm (gC_Rd hr) (by decide) rfl 12 (by decide) k_5 (fun _ h => h) rfl (by decide +kernel) hname (by decide +kernel) (tyX2_ok 12 (by decide)) rfl rfl dX2_init_10 (fun H locs hG hS => ?_)
  replace hRC := RC.up hRC (c := (25 * r)) (k := 12) (d := (25 * r + 1)) (hE.new (nwP_i (by omega) (by omega)))
  refine lv_aload_n hx hb dX2_init_13 rfl (lv_at hl 0 rfl) ?_
  refine lv_bipush (v := 8) hx hb dX2_init_14 (by decide) ?_
  refine g_newR (C := RX1) hx hb hown k_7 hA.2.1 hK hG hS hZ.2.2 (gC_row2 hr) (by decide) (by decide) rfl (gLen_row2 hr) (hE.out (hfr _ (by omega) (by omega)) (nwP_o (by omega))) hRC (fun j => by rw [up2R_ne (by omega), hRn _ (by omega) (by omega)]) (by decide) rfl (by decide) (by show _ ≤ 24; decide) (by show _ ≤ 140; decide) dX2_init_16 (fun Γ H hE1 hG hK hRC hS => ?_)
  have hEo := hE
  replace hE := hE.trans hE1 (nwP_s (n := 1) (by omega))
  replace hl : lv_has ls 2 [(0, .ref (gad Γ (25 * r)))] := by rw [hE1.2.2.2 (25 * r) hm]; exact hl
  refine W.eq (g2 := F0 m (19) ls [.ref (gad Γ (25 * r + 2)), .ref (gad Γ (25 * r))]) (by rw [hE1.2.2.2 (25 * r) hm]) ?_
  replace hm := hE1.mem hm
  replace hZ := hE1.toZ hZ
  refine g_putF (C := RX2) (T := TX2) (ci := 2) hx hb hts in_X2 tyX2 tyX2_ok nmX2 hown hK hG hS hm (gC_Rd hr) (by decide) rfl 13 (by decide) k_8 (fun _ h => h) rfl (by decide +kernel) hname (by decide +kernel) (tyX2_ok 13 (by decide)) rfl rfl dX2_init_19 (fun H locs hG hS => ?_)
  replace hRC := RC.up hRC (c := (25 * r)) (k := 13) (d := (25 * r + 2)) (hE.new (nwP_i (by omega) (by omega)))
  refine lv_aload_n hx hb dX2_init_22 rfl (lv_at hl 0 rfl) ?_
  refine lv_iconst (v := 3) hx hb dX2_init_23 (by decide) ?_
  refine g_newR (C := RX5) hx hb hown k_9 hA.2.2.1 hK hG hS hZ.2.2 (gC_row3 hr) (by decide) (by decide) rfl (gLen_row3 hr) (hE.out (hfr _ (by omega) (by omega)) (nwP_o (by omega))) hRC (fun j => by rw [up2R_ne (by omega), up2R_ne (by omega), hRn _ (by omega) (by omega)]) (by decide) rfl (by decide) (by show _ ≤ 24; decide) (by show _ ≤ 140; decide) dX2_init_24 (fun Γ H hE1 hG hK hRC hS => ?_)
  have hEo := hE
  replace hE := hE.trans hE1 (nwP_s (n := 2) (by omega))
  replace hl : lv_has ls 2 [(0, .ref (gad Γ (25 * r)))] := by rw [hE1.2.2.2 (25 * r) hm]; exact hl
  refine W.eq (g2 := F0 m (27) ls [.ref (gad Γ (25 * r + 3)), .ref (gad Γ (25 * r))]) (by rw [hE1.2.2.2 (25 * r) hm]) ?_
  replace hm := hE1.mem hm
  replace hZ := hE1.toZ hZ
  refine g_putF (C := RX2) (T := TX2) (ci := 2) hx hb hts in_X2 tyX2 tyX2_ok nmX2 hown hK hG hS hm (gC_Rd hr) (by decide) rfl 14 (by decide) k_10 (fun _ h => h) rfl (by decide +kernel) hname (by decide +kernel) (tyX2_ok 14 (by decide)) rfl rfl dX2_init_27 (fun H locs hG hS => ?_)
  replace hRC := RC.up hRC (c := (25 * r)) (k := 14) (d := (25 * r + 3)) (hE.new (nwP_i (by omega) (by omega)))
  refine lv_iconst (v := 0) hx hb dX2_init_30 (by decide) ?_
  refine lv_istore_n (lv' := [(1, .int 0), (0, .ref (gad Γ (25 * r)))]) hx hb dX2_init_31 rfl hl (by decide) rfl (fun ls hl => ?_)
  refine g_loopC (N := 10) (fun k => 3 + k) (fun k => 21 + 7 * k) (fun k H locs ls => ∃ Γ, Ext Γ0 Γ (nwP r (3 + k)) ∧ GH Γ M (rIt (up2R (up2R (up2R R (25 * r) 12 (some (25 * r + 1))) (25 * r) 13 (some (25 * r + 2))) (25 * r) 14 (some (25 * r + 3))) (25 * r + 1) (25 * r + 4) k) O H ∧ GK Γ s ∧ RC (gcs Γ) (rIt (up2R (up2R (up2R R (25 * r) 12 (some (25 * r + 1))) (25 * r) 13 (some (25 * r + 2))) (25 * r) 14 (some (25 * r + 3))) (25 * r + 1) (25 * r + 4) k) ∧ va_S (gA Γ) s.heap H locs ∧ lv_has ls 2 [(0, .ref (gad Γ (25 * r))), (1, .int (nI k))]) ?_ ?_ _ _ _ ⟨Γ, hE, hG, hK, hRC, hS, lv_sub hl [1, 0] rfl⟩
  · rintro H locs ls ⟨Γ, hE, hG, hK, hRC, hS, hl⟩
    have hm := hE.mem hm0
    have hZ := hE.toZ hZ0
    refine lv_iload_n hx hb dX2_init_32 rfl (lv_at hl 1 rfl) ?_
    refine lv_bipush (v := 10) hx hb dX2_init_33 (by decide) ?_
    refine lv_icmp_ge (tgt := 57) hx hb dX2_init_35 (by decide) (fun c_1 => ?_) (fun c_1 => absurd (nI_le (Nat.le_refl _) (by decide)) c_1)
    refine lv_iconst (v := 0) hx hb dX2_init_57 (by decide) ?_
    refine lv_istore_n (lv' := [(1, .int 0), (0, .ref (gad Γ (25 * r)))]) hx hb dX2_init_58 rfl hl (by decide) rfl (fun ls hl => ?_)
    refine g_loopC (N := 8) (fun k => 13 + k) (fun k => 91 + 5 * k) (fun k H locs ls => ∃ Γ, Ext Γ0 Γ (nwP r (13 + k)) ∧ GH Γ M (rIt (rIt (up2R (up2R (up2R R (25 * r) 12 (some (25 * r + 1))) (25 * r) 13 (some (25 * r + 2))) (25 * r) 14 (some (25 * r + 3))) (25 * r + 1) (25 * r + 4) 10) (25 * r + 2) (25 * r + 14) k) O H ∧ GK Γ s ∧ RC (gcs Γ) (rIt (rIt (up2R (up2R (up2R R (25 * r) 12 (some (25 * r + 1))) (25 * r) 13 (some (25 * r + 2))) (25 * r) 14 (some (25 * r + 3))) (25 * r + 1) (25 * r + 4) 10) (25 * r + 2) (25 * r + 14) k) ∧ va_S (gA Γ) s.heap H locs ∧ lv_has ls 2 [(0, .ref (gad Γ (25 * r))), (1, .int (nI k))]) ?_ ?_ _ _ _ ⟨Γ, hE, hG, hK, hRC, hS, lv_sub hl [1, 0] rfl⟩
    · rintro H locs ls ⟨Γ, hE, hG, hK, hRC, hS, hl⟩
      have hm := hE.mem hm0
      have hZ := hE.toZ hZ0
      refine lv_iload_n hx hb dX2_init_59 rfl (lv_at hl 1 rfl) ?_
      refine lv_bipush (v := 8) hx hb dX2_init_60 (by decide) ?_
      refine lv_icmp_ge (tgt := 84) hx hb dX2_init_62 (by decide) (fun c_2 => ?_) (fun c_2 => absurd (nI_le (Nat.le_refl _) (by decide)) c_2)
      refine lv_iconst (v := 0) hx hb dX2_init_84 (by decide) ?_
      refine lv_istore_n (lv' := [(1, .int 0), (0, .ref (gad Γ (25 * r)))]) hx hb dX2_init_85 rfl hl (by decide) rfl (fun ls hl => ?_)
      refine g_loopC (N := 3) (fun k => 21 + k) (fun k => 131 + 3 * k) (fun k H locs ls => ∃ Γ, Ext Γ0 Γ (nwP r (21 + k)) ∧ GH Γ M (rIt (rIt (rIt (up2R (up2R (up2R R (25 * r) 12 (some (25 * r + 1))) (25 * r) 13 (some (25 * r + 2))) (25 * r) 14 (some (25 * r + 3))) (25 * r + 1) (25 * r + 4) 10) (25 * r + 2) (25 * r + 14) 8) (25 * r + 3) (25 * r + 22) k) O H ∧ GK Γ s ∧ RC (gcs Γ) (rIt (rIt (rIt (up2R (up2R (up2R R (25 * r) 12 (some (25 * r + 1))) (25 * r) 13 (some (25 * r + 2))) (25 * r) 14 (some (25 * r + 3))) (25 * r + 1) (25 * r + 4) 10) (25 * r + 2) (25 * r + 14) 8) (25 * r + 3) (25 * r + 22) k) ∧ va_S (gA Γ) s.heap H locs ∧ lv_has ls 2 [(0, .ref (gad Γ (25 * r))), (1, .int (nI k))]) ?_ ?_ _ _ _ ⟨Γ, hE, hG, hK, hRC, hS, lv_sub hl [1, 0] rfl⟩
      · rintro H locs ls ⟨Γ, hE, hG, hK, hRC, hS, hl⟩
        have hm := hE.mem hm0
        have hZ := hE.toZ hZ0
        refine lv_iload_n hx hb dX2_init_86 rfl (lv_at hl 1 rfl) ?_
        refine lv_iconst (v := 3) hx hb dX2_init_87 (by decide) ?_
        refine lv_icmp_ge (tgt := 110) hx hb dX2_init_88 (by decide) (fun c_3 => ?_) (fun c_3 => absurd (nI_le (Nat.le_refl _) (by decide)) c_3)
        change GH Γ M (RoadR R r) O _ at hG
        change RC (gcs Γ) (RoadR R r) at hRC
        have hV : LV Γ (RoadR R r) r := LV_road hr hm (fun c h1 h2 => hE.new (nwP_i h1 (by omega)))
        replace hG := g_st (va_up_id M r).symm hG
        refine lv_aload_n hx hb dX2_init_110 rfl (lv_at hl 0 rfl) ?_
        refine g_callV (As := []) (rest := []) (st1 := []) hF (mX2_beNew M (RoadR R r) O hV (M r)) (cwV 0 hts gX2_init_X2_beNew rfl rfl rfl (by decide +kernel) ⟨Nat.le_of_ble_eq_true rfl, Nat.le_of_ble_eq_true rfl⟩) hK hZ hG hS hm (gC_Rd hr) (by decide) rfl rfl hl.1 (Nat.le_of_ble_eq_true rfl) dX2_init_111 ⟨(by show _ ≤ 24; decide), (by show _ ≤ 140; decide)⟩ rfl rfl (fun H locs hG hS => ?_)
        rw [hMr] at hG
        exact g_nret hx hb hrt hlocks hE hK hRC hS hG (by show _ ≤ 24; decide) (by show _ ≤ 140; decide) dX2_init_114
      · rintro k hk_k ih_k H locs ls ⟨Γ, hE, hG, hK, hRC, hS, hl⟩
        have hm := hE.mem hm0
        have hZ := hE.toZ hZ0
        refine lv_iload_n hx hb dX2_init_86 rfl (lv_at hl 1 rfl) ?_
        refine lv_iconst (v := 3) hx hb dX2_init_87 (by decide) ?_
        refine lv_icmp_ge (tgt := 110) hx hb dX2_init_88 (by decide) (fun c_4 => absurd c_4 (nI_ge hk_k (by decide))) (fun c_4 => ?_)
        refine lv_aload_n hx hb dX2_init_91 rfl (lv_at hl 0 rfl) ?_
        refine go_getr (C := RX2) (T := TX2) (ci := 2) hx hb hts in_X2 hown hK hG hm (gC_Rd hr) (by decide) rfl 14 (by decide) rfl (by rw [rIt_ne (by omega), rIt_ne (by omega), rIt_ne (by omega), up2R_eq]) k_10 (fun _ h => h) dX2_init_92 ?_
        refine lv_iload_n hx hb dX2_init_95 rfl (lv_at hl 1 rfl) ?_
        refine g_newO (ci := 5) (C := RX5) (T := TX5) hx hb hts in_X5 tyX5 tyX5_ok hown k_9 k_11 k_12 hK hG hS hZ.2.2 (gC_Wg hr (by omega)) (by decide) rfl (hE.out (hfr _ (by omega) (by omega)) (nwP_o (by omega))) hRC (by decide) (fun j _ _ => congrFun hMr _) (fun j => by rw [rIt_ne (by omega), rIt_ne (by omega), rIt_ne (by omega), up2R_ne (by omega), up2R_ne (by omega), up2R_ne (by omega), hRn _ (by omega) (by omega)]) (by have gz : gSz 5 = 3 := rfl; show _ ≤ 24; omega) (by have gz : gSz 5 = 3 := rfl; show _ ≤ 140; omega) dX2_init_96 (fun Γ H hE1 hG hK hRC hS => ?_)
        have hEo := hE
        replace hE := hE.trans hE1 (nwP_s (n := 21 + k) (by omega))
        replace hl : lv_has ls 2 [(0, .ref (gad Γ (25 * r))), (1, .int (nI k))] := by rw [hE1.2.2.2 (25 * r) hm]; exact hl
        refine W.eq (g2 := F0 m (99) ls [.ref (gad Γ (25 * r + 22 + k)), .int (nI k), .ref (gad Γ (25 * r + 3))]) (by rw [hE1.2.2.2 (25 * r + 3) (hEo.new (nwP_i (by omega) (by omega)))]) ?_
        replace hm := hE1.mem hm
        replace hZ := hE1.toZ hZ
        refine lv_dup hx hb dX2_init_99 rfl ?_
        refine g_callIN (As := []) (rest := [.ref (gad Γ (25 * r + 22 + k)), .int (nI k), .ref (gad Γ (25 * r + 3))]) (st1 := [.ref (gad Γ (25 * r + 22 + k)), .int (nI k), .ref (gad Γ (25 * r + 3))]) hF (mX5_init _ _ O _) ⟨va_cnB 0 hts gX2_init_X5_init_n31 rfl rfl rfl hK.2.2.2.2.1 k_12 (by decide +kernel) ⟨Nat.le_of_ble_eq_true rfl, Nat.le_of_ble_eq_true rfl⟩, rfl, k_14⟩ hK hZ hG hS rfl hl.1 (Nat.le_of_ble_eq_true rfl) dX2_init_100 ⟨(by show _ ≤ 24; omega), (by show _ ≤ 140; omega)⟩ rfl rfl (fun H locs hG hS => ?_)
        refine g_aast hx hb hK hG hS (hE.new (nwP_i (by omega) (by omega))) (gC_row3 hr) (by decide) (by decide) rfl (hE.new (nwP_i (by omega) (by omega))) (gC_Wg hr (by omega)) (by decide) rfl (gLen_row3 hr) (j := k) (nI_clamp (by omega)) (vp_in_nI (by omega) (by decide)) dX2_init_103 (fun H locs hG hS => ?_)
        replace hRC := RC.up hRC (c := (25 * r + 3)) (k := k) (d := (25 * r + 22 + k)) (hE.new (nwP_i (by omega) (by omega)))
        refine lv_iinc (v := nI (k + 1)) (lv' := [(1, .int (nI (k + 1))), (0, .ref (gad Γ (25 * r)))]) hx hb dX2_init_104 hl (k := 1) rfl (nI_1 _) (by decide) rfl (fun ls hl => ?_)
        refine lv_goto (tgt := 86) hx hb dX2_init_107 (by decide) ?_
        exact W.widen (Nat.le_of_eq (by show _ = 21 + (k + 1); omega)) (Nat.le_of_eq (by show _ = 131 + 3 * (k + 1); omega)) (ih_k _ _ _ ⟨Γ, hE, hG, hK, hRC, hS, lv_sub hl [1, 0] rfl⟩)
    · rintro k hk_k ih_k H locs ls ⟨Γ, hE, hG, hK, hRC, hS, hl⟩
      have hm := hE.mem hm0
      have hZ := hE.toZ hZ0
      refine lv_iload_n hx hb dX2_init_59 rfl (lv_at hl 1 rfl) ?_
      refine lv_bipush (v := 8) hx hb dX2_init_60 (by decide) ?_
      refine lv_icmp_ge (tgt := 84) hx hb dX2_init_62 (by decide) (fun c_5 => absurd c_5 (nI_ge hk_k (by decide))) (fun c_5 => ?_)
      refine lv_aload_n hx hb dX2_init_65 rfl (lv_at hl 0 rfl) ?_
      refine go_getr (C := RX2) (T := TX2) (ci := 2) hx hb hts in_X2 hown hK hG hm (gC_Rd hr) (by decide) rfl 13 (by decide) rfl (by rw [rIt_ne (by omega), rIt_ne (by omega), up2R_nk (by decide), up2R_eq]) k_8 (fun _ h => h) dX2_init_66 ?_
      refine lv_iload_n hx hb dX2_init_69 rfl (lv_at hl 1 rfl) ?_
      refine g_newO (ci := 1) (C := RX1) (T := TX1) hx hb hts in_X1 tyX1 tyX1_ok hown k_7 k_15 k_16 hK hG hS hZ.2.2 (gC_Hs hr (by omega)) (by decide) rfl (hE.out (hfr _ (by omega) (by omega)) (nwP_o (by omega))) hRC (by decide) (fun j _ _ => congrFun hMr _) (fun j => by rw [rIt_ne (by omega), rIt_ne (by omega), up2R_ne (by omega), up2R_ne (by omega), up2R_ne (by omega), hRn _ (by omega) (by omega)]) (by have gz : gSz 1 = 5 := rfl; show _ ≤ 24; omega) (by have gz : gSz 1 = 5 := rfl; show _ ≤ 140; omega) dX2_init_70 (fun Γ H hE1 hG hK hRC hS => ?_)
      have hEo := hE
      replace hE := hE.trans hE1 (nwP_s (n := 13 + k) (by omega))
      replace hl : lv_has ls 2 [(0, .ref (gad Γ (25 * r))), (1, .int (nI k))] := by rw [hE1.2.2.2 (25 * r) hm]; exact hl
      refine W.eq (g2 := F0 m (73) ls [.ref (gad Γ (25 * r + 14 + k)), .int (nI k), .ref (gad Γ (25 * r + 2))]) (by rw [hE1.2.2.2 (25 * r + 2) (hEo.new (nwP_i (by omega) (by omega)))]) ?_
      replace hm := hE1.mem hm
      replace hZ := hE1.toZ hZ
      refine lv_dup hx hb dX2_init_73 rfl ?_
      refine g_callIN (As := []) (rest := [.ref (gad Γ (25 * r + 14 + k)), .int (nI k), .ref (gad Γ (25 * r + 2))]) (st1 := [.ref (gad Γ (25 * r + 14 + k)), .int (nI k), .ref (gad Γ (25 * r + 2))]) hF (mX1_init _ _ O _) ⟨va_cnB 0 hts gX2_init_X1_init_n30 rfl rfl rfl hK.2.2.2.1 k_16 (by decide +kernel) ⟨Nat.le_of_ble_eq_true rfl, Nat.le_of_ble_eq_true rfl⟩, rfl, k_18⟩ hK hZ hG hS rfl hl.1 (Nat.le_of_ble_eq_true rfl) dX2_init_74 ⟨(by show _ ≤ 24; omega), (by show _ ≤ 140; omega)⟩ rfl rfl (fun H locs hG hS => ?_)
      refine g_aast hx hb hK hG hS (hE.new (nwP_i (by omega) (by omega))) (gC_row2 hr) (by decide) (by decide) rfl (hE.new (nwP_i (by omega) (by omega))) (gC_Hs hr (by omega)) (by decide) rfl (gLen_row2 hr) (j := k) (nI_clamp (by omega)) (vp_in_nI (by omega) (by decide)) dX2_init_77 (fun H locs hG hS => ?_)
      replace hRC := RC.up hRC (c := (25 * r + 2)) (k := k) (d := (25 * r + 14 + k)) (hE.new (nwP_i (by omega) (by omega)))
      refine lv_iinc (v := nI (k + 1)) (lv' := [(1, .int (nI (k + 1))), (0, .ref (gad Γ (25 * r)))]) hx hb dX2_init_78 hl (k := 1) rfl (nI_1 _) (by decide) rfl (fun ls hl => ?_)
      refine lv_goto (tgt := 59) hx hb dX2_init_81 (by decide) ?_
      exact W.widen (Nat.le_of_eq (by show _ = 13 + (k + 1); omega)) (Nat.le_of_eq (by show _ = 91 + 5 * (k + 1); omega)) (ih_k _ _ _ ⟨Γ, hE, hG, hK, hRC, hS, lv_sub hl [1, 0] rfl⟩)
  · rintro k hk_k ih_k H locs ls ⟨Γ, hE, hG, hK, hRC, hS, hl⟩
    have hm := hE.mem hm0
    have hZ := hE.toZ hZ0
    refine lv_iload_n hx hb dX2_init_32 rfl (lv_at hl 1 rfl) ?_
    refine lv_bipush (v := 10) hx hb dX2_init_33 (by decide) ?_
    refine lv_icmp_ge (tgt := 57) hx hb dX2_init_35 (by decide) (fun c_6 => absurd c_6 (nI_ge hk_k (by decide))) (fun c_6 => ?_)
    refine lv_aload_n hx hb dX2_init_38 rfl (lv_at hl 0 rfl) ?_
    refine go_getr (C := RX2) (T := TX2) (ci := 2) hx hb hts in_X2 hown hK hG hm (gC_Rd hr) (by decide) rfl 12 (by decide) rfl (by rw [rIt_ne (by omega), up2R_nk (by decide), up2R_nk (by decide), up2R_eq]) k_5 (fun _ h => h) dX2_init_39 ?_
    refine lv_iload_n hx hb dX2_init_42 rfl (lv_at hl 1 rfl) ?_
    refine g_newO (ci := 3) (C := RX3) (T := TX3) hx hb hts in_X3 tyX3 tyX3_ok hown k_4 k_19 k_20 hK hG hS hZ.2.2 (gC_S hr (by omega)) (by decide) rfl (hE.out (hfr _ (by omega) (by omega)) (nwP_o (by omega))) hRC (by decide) (fun j _ _ => congrFun hMr _) (fun j => by rw [rIt_ne (by omega), up2R_ne (by omega), up2R_ne (by omega), up2R_ne (by omega), hRn _ (by omega) (by omega)]) (by have gz : gSz 3 = 7 := rfl; show _ ≤ 24; omega) (by have gz : gSz 3 = 7 := rfl; show _ ≤ 140; omega) dX2_init_43 (fun Γ H hE1 hG hK hRC hS => ?_)
    have hEo := hE
    replace hE := hE.trans hE1 (nwP_s (n := 3 + k) (by omega))
    replace hl : lv_has ls 2 [(0, .ref (gad Γ (25 * r))), (1, .int (nI k))] := by rw [hE1.2.2.2 (25 * r) hm]; exact hl
    refine W.eq (g2 := F0 m (46) ls [.ref (gad Γ (25 * r + 4 + k)), .int (nI k), .ref (gad Γ (25 * r + 1))]) (by rw [hE1.2.2.2 (25 * r + 1) (hEo.new (nwP_i (by omega) (by omega)))]) ?_
    replace hm := hE1.mem hm
    replace hZ := hE1.toZ hZ
    refine lv_dup hx hb dX2_init_46 rfl ?_
    refine g_callIN (As := []) (rest := [.ref (gad Γ (25 * r + 4 + k)), .int (nI k), .ref (gad Γ (25 * r + 1))]) (st1 := [.ref (gad Γ (25 * r + 4 + k)), .int (nI k), .ref (gad Γ (25 * r + 1))]) hF (mX3_init _ _ O _) ⟨va_cnB 0 hts gX2_init_X3_init_n29 rfl rfl rfl hK.2.2.1 k_20 (by decide +kernel) ⟨Nat.le_of_ble_eq_true rfl, Nat.le_of_ble_eq_true rfl⟩, rfl, k_22⟩ hK hZ hG hS rfl hl.1 (Nat.le_of_ble_eq_true rfl) dX2_init_47 ⟨(by show _ ≤ 24; omega), (by show _ ≤ 140; omega)⟩ rfl rfl (fun H locs hG hS => ?_)
    refine g_aast hx hb hK hG hS (hE.new (nwP_i (by omega) (by omega))) (gC_row1 hr) (by decide) (by decide) rfl (hE.new (nwP_i (by omega) (by omega))) (gC_S hr (by omega)) (by decide) rfl (gLen_row1 hr) (j := k) (nI_clamp (by omega)) (vp_in_nI (by omega) (by decide)) dX2_init_50 (fun H locs hG hS => ?_)
    replace hRC := RC.up hRC (c := (25 * r + 1)) (k := k) (d := (25 * r + 4 + k)) (hE.new (nwP_i (by omega) (by omega)))
    refine lv_iinc (v := nI (k + 1)) (lv' := [(1, .int (nI (k + 1))), (0, .ref (gad Γ (25 * r)))]) hx hb dX2_init_51 hl (k := 1) rfl (nI_1 _) (by decide) rfl (fun ls hl => ?_)
    refine lv_goto (tgt := 32) hx hb dX2_init_54 (by decide) ?_
    exact W.widen (Nat.le_of_eq (by show _ = 3 + (k + 1); omega)) (Nat.le_of_eq (by show _ = 21 + 7 * (k + 1); omega)) (ih_k _ _ _ ⟨Γ, hE, hG, hK, hRC, hS, lv_sub hl [1, 0] rfl⟩)

