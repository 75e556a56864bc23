/-! THE CLASS: what is remembered. Laid by gen/p19.py. -/
/-- the filling places of a page are bits -/
def BL (P : Nat → Int32) : Prop := ∀ i, i < 10 → P (12 + 7 * i + 5) &&& 1 = P (12 + 7 * i + 5)
theorem mX2_copyFrom_q {l : Launch} {Γ : gX} (M : Nat → Nat → Int32) (R : Nat → Nat → Option Nat) (O : Int64) {r r2 : Nat} (hV : LV Γ R r) (hV2 : LV Γ R r2) (hne : r2 ≠ r) (Q P : Nat → Int32) (hQ : M r2 = Q) (hB : BL Q) : gMet l Γ yX2_copyFrom wsX2_copyFrom 1 21 [.ref (gad Γ (25 * r)), .ref (gad Γ (25 * r2))] (va_up M r P) R O none (va_up M r (fX2_copyFrom_P Q P)) R O := by
  subst hQ
  exact mX2_copyFrom M R O hV hV2 hne hB P
/-- the remembered roads: a road for each place -/
def HP (R : Nat → Nat → Option Nat) (pm : Nat → Nat) : Prop := ∀ k, k < 15 → R 479 k = some (25 * pm k) ∧ 4 ≤ pm k ∧ pm k < 19
theorem cS_v {M : Nat → Nat → Int32} {X G J S C P Q : Nat → Int32} {r : Nat} (h : 2 ≤ r) (h2 : r < 19) : cS M X G J S C P Q = va_up (cS M X G J S C P Q) r (M r) := by
  have e := va_up_id (cS M X G J S C P Q) r
  rw [cS_M h h2] at e
  exact e.symm
theorem cnt_ge {x : Int32} {k : Nat} (h : x = nI k) (hk : k < 2 ^ 31) : ¬ x < 0 := by subst h; exact nI_nlt (b := 0) (Nat.zero_le _) hk
theorem cnt_le {x : Int32} {k m : Nat} (h : x = nI k) (hk : k ≤ m) (hm : m < 2 ^ 31) : x ≤ nI m := by subst h; exact nI_le hk hm
theorem cnt_nlt {x : Int32} {k m : Nat} (h : x = nI k) (hk : k ≤ m) (hm : m < 2 ^ 31) : ¬ nI m < x := by subst h; exact nI_nlt hk hm
theorem cnt_lt {x : Int32} {k m : Nat} (h : x = nI k) (hk : m < k) (hm : k < 2 ^ 31) : nI m < x := by subst h; exact nI_lt hk hm
theorem cnt_nle {x : Int32} {k m : Nat} (h : x = nI k) (hk : m < k) (hm : k < 2 ^ 31) : ¬ x ≤ nI m := i32_lt_nle (cnt_lt h hk hm)
theorem cnt_p1 {x : Int32} {k : Nat} (h : x = nI k) : x + 1 = nI (k + 1) := by subst h; exact nI_1 _
theorem cnt_m1 {x : Int32} {k : Nat} (h : x = nI (k + 1)) : x - 1 = nI k := by subst h; exact nI_pred k
set_option maxHeartbeats 4000000 in
set_option maxRecDepth 100000 in
theorem mX0_draft {l : Launch} {Γ : gX} (M : Nat → Nat → Int32) (R : Nat → Nat → Option Nat) (O : Int64) (hC : LC Γ R) (X G J S C P Q : Nat → Int32) (pm : Nat → Nat) (hp : HP R pm) (k : Nat) (hk : J 1 = nI k) (hk14 : k ≤ 14) (hB : BL P) : gMet l Γ yX0_draft wsX0_draft 2 43 [.ref (gad Γ 478), .ref (gad Γ (25 * 0))] (cS M X G J S C P Q) R O none (cS (va_up M (pm k) (fX2_copyFrom_P P (M (pm k)))) X G J S C P Q) R O := by
  refine g_start (cc := cX0_draft) (maxL := 2) (ret := none) (by decide) rfl (Nat.le_of_ble_eq_true rfl) ?_
  intro p e s m below meth c ls hx hb hml hrt hts hown hlocks hname hK hZ hG hS hl
  have hl : lv_has ls 2 [(0, .ref (gad Γ 478)), (1, .ref (gad Γ (25 * 0)))] := hl
  have hown : s.vm.findClass RX0 = some m.cls := hown
  have hF : CallFix p m c cX0_draft 2 s _ wsX0_draft RX0 := ⟨hx, hb, hml, hown, hts⟩
  have k_1 : (Cond.fieldLink RX0 18 "RoadDust$History" "count" "I").before _ s = true := hts _ (by decide +kernel)
  have in_X0 : ∀ w ∈ wsX00, w ∈ wsX0_draft := by decide +kernel
  have k_3 : (Cond.fieldLink RX0 11 "RoadDust$History" "past" "[LRoadDust$Road;").before _ s = true := hts _ (by decide +kernel)
  have hV0 := hC.2.1 0 (by decide)
  have hV1 := hC.2.1 1 (by decide)
  refine lv_aload_n hx hb dX0_draft_0 rfl (lv_at hl 0 rfl) ?_
  refine go_get (C := RX0) (T := TX0) (ci := 0) hx hb hts in_X0 hown hK hG (hC.1 478 (by decide) (by decide)) (show gC 478 = (0, 21, 0) from rfl) (by decide) rfl 1 (by decide) rfl k_1 (fun _ h => h) (v := J 1) (cS_a21 _ _ _ _ _ _ _ _ _) dX0_draft_1 ?_
  refine lv_if_lt (tgt := 29) hx hb dX0_draft_4 (by decide) (fun c_1 => absurd c_1 (cnt_ge hk (by omega))) (fun c_1 => ?_)
  refine lv_aload_n hx hb dX0_draft_7 rfl (lv_at hl 0 rfl) ?_
  refine go_get (C := RX0) (T := TX0) (ci := 0) hx hb hts in_X0 hown hK hG (hC.1 478 (by decide) (by decide)) (show gC 478 = (0, 21, 0) from rfl) (by decide) rfl 1 (by decide) rfl k_1 (fun _ h => h) (v := J 1) (cS_a21 _ _ _ _ _ _ _ _ _) dX0_draft_8 ?_
  refine lv_bipush (v := 14) hx hb dX0_draft_11 (by decide) ?_
  refine lv_icmp_gt (tgt := 29) hx hb dX0_draft_13 (by decide) (fun c_2 => absurd c_2 (cnt_nlt (m := 14) hk hk14 (by decide))) (fun c_2 => ?_)
  refine lv_aload_n hx hb dX0_draft_16 rfl (lv_at hl 0 rfl) ?_
  refine go_getr (C := RX0) (T := TX0) (ci := 0) hx hb hts in_X0 hown hK hG (hC.1 478 (by decide) (by decide)) (show gC 478 = (0, 21, 0) from rfl) (by decide) rfl 0 (by decide) rfl hC.2.2.2.2.2.2.2.2.2.2.1 k_3 (fun _ h => h) dX0_draft_17 ?_
  refine lv_aload_n hx hb dX0_draft_20 rfl (lv_at hl 0 rfl) ?_
  refine go_get (C := RX0) (T := TX0) (ci := 0) hx hb hts in_X0 hown hK hG (hC.1 478 (by decide) (by decide)) (show gC 478 = (0, 21, 0) from rfl) (by decide) rfl 1 (by decide) rfl k_1 (fun _ h => h) (v := J 1) (cS_a21 _ _ _ _ _ _ _ _ _) dX0_draft_21 ?_
  refine g_aald hx hb hK hG (hC.1 479 (by decide) (by decide)) (show gC 479 = (12, 33, 0) from rfl) (by decide) (by decide) rfl (show gLen 479 = 15 from rfl) (j := k) (by rw [hk]; exact nI_clamp (by omega)) (by rw [hk]; exact vp_in_nI (by omega) (by decide)) (hp k (by omega)).1 dX0_draft_24 ?_
  refine lv_aload_n hx hb dX0_draft_25 rfl (lv_at hl 1 rfl) ?_
  replace hG := g_st (cS_v (M := M) (by have := (hp k (by omega)).2.1; omega) (hp k (by omega)).2.2) hG
  refine g_callV (As := [.ref (gad Γ (25 * 0))]) (rest := []) (st1 := []) hF (mX2_copyFrom_q (cS M X G J S C P Q) R O (hC.2.1 (pm k) (hp k (by omega)).2.2) hV0 (by have := (hp k (by omega)).2.1; omega) P (M (pm k)) (cS_b0 _ _ _ _ _ _ _ _) hB) (cwV 1 hts gX0_draft_X2_copyFrom rfl rfl rfl (by decide +kernel) ⟨Nat.le_of_ble_eq_true rfl, Nat.le_of_ble_eq_true rfl⟩) hK hZ hG hS ((hC.2.1 (pm k) (hp k (by omega)).2.2).c0) (gC_Rd ((hC.2.1 (pm k) (hp k (by omega)).2.2).1)) (by decide) rfl rfl hl.1 (Nat.le_of_ble_eq_true rfl) dX0_draft_26 ⟨Nat.zero_le _, Nat.zero_le _⟩ rfl rfl (fun H locs hG hS => ?_)
  replace hG : GH Γ (cS (va_up M (pm k) (fX2_copyFrom_P P (M (pm k)))) X G J S C P Q) R O _ := g_st (cS_up (by have := (hp k (by omega)).2.1; omega) (hp k (by omega)).2.2) hG
  exact g_vret hx hb hrt hlocks hS hG rfl rfl dX0_draft_29

set_option maxHeartbeats 4000000 in
set_option maxRecDepth 100000 in
theorem mX0_takeBack_y {l : Launch} {Γ : gX} (M : Nat → Nat → Int32) (R : Nat → Nat → Option Nat) (O : Int64) (hC : LC Γ R) (X G J S C P Q : Nat → Int32) (pm : Nat → Nat) (hp : HP R pm) (k : Nat) (hk : J 1 = nI (k + 1)) (hk14 : k + 1 ≤ 14) (hB : BL (M (pm k))) : gMet l Γ yX0_takeBack wsX0_takeBack 2 43 [.ref (gad Γ 478), .ref (gad Γ (25 * 0))] (cS M X G J S C P Q) R O (some (.int 1)) (cS M X G (upd J 1 ((J 1) - 1)) S C (fX2_copyFrom_P (M (pm k)) P) Q) R O := by
  refine g_start (cc := cX0_takeBack) (maxL := 2) (ret := (some .boolean)) (by decide) rfl (Nat.le_of_ble_eq_true rfl) ?_
  intro p e s m below meth c ls hx hb hml hrt hts hown hlocks hname hK hZ hG hS hl
  have hl : lv_has ls 2 [(0, .ref (gad Γ 478)), (1, .ref (gad Γ (25 * 0)))] := hl
  have hown : s.vm.findClass RX0 = some m.cls := hown
  have hF : CallFix p m c cX0_takeBack 2 s _ wsX0_takeBack RX0 := ⟨hx, hb, hml, hown, hts⟩
  have k_1 : (Cond.fieldLink RX0 18 "RoadDust$History" "count" "I").before _ s = true := hts _ (by decide +kernel)
  have in_X0 : ∀ w ∈ wsX00, w ∈ wsX0_takeBack := by decide +kernel
  have k_3 : (Cond.fieldLink RX0 11 "RoadDust$History" "past" "[LRoadDust$Road;").before _ s = true := hts _ (by decide +kernel)
  have hV0 := hC.2.1 0 (by decide)
  have hV1 := hC.2.1 1 (by decide)
  refine lv_aload_n hx hb dX0_takeBack_0 rfl (lv_at hl 0 rfl) ?_
  refine go_get (C := RX0) (T := TX0) (ci := 0) hx hb hts in_X0 hown hK hG (hC.1 478 (by decide) (by decide)) (show gC 478 = (0, 21, 0) from rfl) (by decide) rfl 1 (by decide) rfl k_1 (fun _ h => h) (v := J 1) (cS_a21 _ _ _ _ _ _ _ _ _) dX0_takeBack_1 ?_
  refine lv_if_le (tgt := 16) hx hb dX0_takeBack_4 (by decide) (fun c_1 => absurd c_1 (cnt_nle (m := 0) hk (by omega) (by omega))) (fun c_1 => ?_)
  refine lv_aload_n hx hb dX0_takeBack_7 rfl (lv_at hl 0 rfl) ?_
  refine go_get (C := RX0) (T := TX0) (ci := 0) hx hb hts in_X0 hown hK hG (hC.1 478 (by decide) (by decide)) (show gC 478 = (0, 21, 0) from rfl) (by decide) rfl 1 (by decide) rfl k_1 (fun _ h => h) (v := J 1) (cS_a21 _ _ _ _ _ _ _ _ _) dX0_takeBack_8 ?_
  refine lv_bipush (v := 14) hx hb dX0_takeBack_11 (by decide) ?_
  refine lv_icmp_le (tgt := 18) hx hb dX0_takeBack_13 (by decide) (fun c_2 => ?_) (fun c_2 => absurd (cnt_le (m := 14) hk hk14 (by decide)) c_2)
  refine lv_aload_n hx hb dX0_takeBack_18 rfl (lv_at hl 0 rfl) ?_
  refine lv_dup hx hb dX0_takeBack_19 rfl ?_
  refine go_get (C := RX0) (T := TX0) (ci := 0) hx hb hts in_X0 hown hK hG (hC.1 478 (by decide) (by decide)) (show gC 478 = (0, 21, 0) from rfl) (by decide) rfl 1 (by decide) rfl k_1 (fun _ h => h) (v := J 1) (cS_a21 _ _ _ _ _ _ _ _ _) dX0_takeBack_20 ?_
  refine lv_iconst (v := 1) hx hb dX0_takeBack_23 (by decide) ?_
  refine lv_isub hx hb dX0_takeBack_24 ?_
  refine go_put (M2 := cS M X G (upd J 1 ((J 1) - 1)) S C P Q) (C := RX0) (T := TX0) (ci := 0) hx hb hts in_X0 tyX0 tyX0_ok nmX0 hown hK hG hS (hC.1 478 (by decide) (by decide)) (show gC 478 = (0, 21, 0) from rfl) (by decide) rfl 1 (by decide) k_1 (fun _ h => h) rfl rfl (by decide +kernel) (cS_p21 _ _ _ _ _ _ _ _ _ _) dX0_takeBack_25 (fun H locs hG hS => ?_)
  refine lv_aload_n hx hb dX0_takeBack_28 rfl (lv_at hl 1 rfl) ?_
  refine lv_aload_n hx hb dX0_takeBack_29 rfl (lv_at hl 0 rfl) ?_
  refine go_getr (C := RX0) (T := TX0) (ci := 0) hx hb hts in_X0 hown hK hG (hC.1 478 (by decide) (by decide)) (show gC 478 = (0, 21, 0) from rfl) (by decide) rfl 0 (by decide) rfl hC.2.2.2.2.2.2.2.2.2.2.1 k_3 (fun _ h => h) dX0_takeBack_30 ?_
  refine lv_aload_n hx hb dX0_takeBack_33 rfl (lv_at hl 0 rfl) ?_
  refine go_get (C := RX0) (T := TX0) (ci := 0) hx hb hts in_X0 hown hK hG (hC.1 478 (by decide) (by decide)) (show gC 478 = (0, 21, 0) from rfl) (by decide) rfl 1 (by decide) rfl k_1 (fun _ h => h) (v := (upd J 1 ((J 1) - 1)) 1) (cS_a21 _ _ _ _ _ _ _ _ _) dX0_takeBack_34 ?_
  refine g_aald hx hb hK hG (hC.1 479 (by decide) (by decide)) (show gC 479 = (12, 33, 0) from rfl) (by decide) (by decide) rfl (show gLen 479 = 15 from rfl) (j := k) (by rw [(show upd J 1 ((J 1) - 1) 1 = nI k from cnt_m1 hk)]; exact nI_clamp (by omega)) (by rw [(show upd J 1 ((J 1) - 1) 1 = nI k from cnt_m1 hk)]; exact vp_in_nI (by omega) (by decide)) (hp k (by omega)).1 dX0_takeBack_37 ?_
  replace hG := g_st (show _ = va_up (cS M X G (upd J 1 ((J 1) - 1)) S C P Q) 0 P from (cS_u0 _ _ _ _ _ _ _ _ _).symm) hG
  refine g_callV (As := [.ref (gad Γ (25 * (pm k)))]) (rest := []) (st1 := []) hF (mX2_copyFrom_q (cS M X G (upd J 1 ((J 1) - 1)) S C P Q) R O hV0 (hC.2.1 (pm k) (hp k (by omega)).2.2) (by have := (hp k (by omega)).2.1; omega) (M (pm k)) P (cS_M (by have := (hp k (by omega)).2.1; omega) (hp k (by omega)).2.2) hB) (cwV 1 hts gX0_takeBack_X2_copyFrom rfl rfl rfl (by decide +kernel) ⟨Nat.le_of_ble_eq_true rfl, Nat.le_of_ble_eq_true rfl⟩) hK hZ hG hS hV0.c0 (gC_Rd hV0.1) (by decide) rfl rfl hl.1 (Nat.le_of_ble_eq_true rfl) dX0_takeBack_38 ⟨Nat.zero_le _, Nat.zero_le _⟩ rfl rfl (fun H locs hG hS => ?_)
  replace hG : GH Γ (cS M X G (upd J 1 ((J 1) - 1)) S C (fX2_copyFrom_P (M (pm k)) P) Q) R O _ := g_st (cS_u0 _ _ _ _ _ _ _ _ _) hG
  refine lv_iconst (v := 1) hx hb dX0_takeBack_41 (by decide) ?_
  exact g_zret hx hb hrt hlocks hS hG (by decide) rfl rfl dX0_takeBack_42

set_option maxHeartbeats 4000000 in
set_option maxRecDepth 100000 in
theorem mX0_takeBack_n {l : Launch} {Γ : gX} (M : Nat → Nat → Int32) (R : Nat → Nat → Option Nat) (O : Int64) (hC : LC Γ R) (X G J S C P Q : Nat → Int32) (hk : J 1 = nI 0) : gMet l Γ yX0_takeBack wsX0_takeBack 2 43 [.ref (gad Γ 478), .ref (gad Γ (25 * 0))] (cS M X G J S C P Q) R O (some (.int 0)) (cS M X G J S C P Q) R O := by
  refine g_start (cc := cX0_takeBack) (maxL := 2) (ret := (some .boolean)) (by decide) rfl (Nat.le_of_ble_eq_true rfl) ?_
  intro p e s m below meth c ls hx hb hml hrt hts hown hlocks hname hK hZ hG hS hl
  have hl : lv_has ls 2 [(0, .ref (gad Γ 478)), (1, .ref (gad Γ (25 * 0)))] := hl
  have hown : s.vm.findClass RX0 = some m.cls := hown
  have hF : CallFix p m c cX0_takeBack 2 s _ wsX0_takeBack RX0 := ⟨hx, hb, hml, hown, hts⟩
  have k_1 : (Cond.fieldLink RX0 18 "RoadDust$History" "count" "I").before _ s = true := hts _ (by decide +kernel)
  have in_X0 : ∀ w ∈ wsX00, w ∈ wsX0_takeBack := by decide +kernel
  have hV0 := hC.2.1 0 (by decide)
  have hV1 := hC.2.1 1 (by decide)
  refine lv_aload_n hx hb dX0_takeBack_0 rfl (lv_at hl 0 rfl) ?_
  refine go_get (C := RX0) (T := TX0) (ci := 0) hx hb hts in_X0 hown hK hG (hC.1 478 (by decide) (by decide)) (show gC 478 = (0, 21, 0) from rfl) (by decide) rfl 1 (by decide) rfl k_1 (fun _ h => h) (v := J 1) (cS_a21 _ _ _ _ _ _ _ _ _) dX0_takeBack_1 ?_
  refine lv_if_le (tgt := 16) hx hb dX0_takeBack_4 (by decide) (fun c_1 => ?_) (fun c_1 => absurd (cnt_le (m := 0) hk (Nat.le_refl _) (by decide)) c_1)
  refine lv_iconst (v := 0) hx hb dX0_takeBack_16 (by decide) ?_
  exact g_zret hx hb hrt hlocks hS hG (by decide) rfl rfl dX0_takeBack_17

def fX0_forgetAll_J (J : Nat → Int32)  : Nat → Int32 := upd J 1 0
set_option maxHeartbeats 4000000 in
set_option maxRecDepth 100000 in
theorem mX0_forgetAll {l : Launch} {Γ : gX} (M : Nat → Nat → Int32) (R : Nat → Nat → Option Nat) (O : Int64) (hC : LC Γ R) (X G J S C P Q : Nat → Int32)  : gMet l Γ yX0_forgetAll wsX0_forgetAll 0 0 [.ref (gad Γ 478)] (cS M X G J S C P Q) R O none (cS M X G (fX0_forgetAll_J J ) S C P Q) R O := by
  refine g_start (cc := cX0_forgetAll) (maxL := 1) (ret := none) (by decide) rfl (Nat.le_of_ble_eq_true rfl) ?_
  intro p e s m below meth c ls hx hb hml hrt hts hown hlocks hname hK hZ hG hS hl
  have hl : lv_has ls 1 [(0, .ref (gad Γ 478))] := hl
  have hown : s.vm.findClass RX0 = some m.cls := hown
  have hF : CallFix p m c cX0_forgetAll 1 s _ wsX0_forgetAll RX0 := ⟨hx, hb, hml, hown, hts⟩
  have k_1 : (Cond.fieldLink RX0 18 "RoadDust$History" "count" "I").before _ s = true := hts _ (by decide +kernel)
  have in_X0 : ∀ w ∈ wsX00, w ∈ wsX0_forgetAll := by decide +kernel
  have hV0 := hC.2.1 0 (by decide)
  have hV1 := hC.2.1 1 (by decide)
  refine lv_aload_n hx hb dX0_forgetAll_0 rfl (lv_at hl 0 rfl) ?_
  refine lv_iconst (v := 0) hx hb dX0_forgetAll_1 (by decide) ?_
  refine go_put (M2 := cS M X G (upd J 1 0) S C P Q) (C := RX0) (T := TX0) (ci := 0) hx hb hts in_X0 tyX0 tyX0_ok nmX0 hown hK hG hS (hC.1 478 (by decide) (by decide)) (show gC 478 = (0, 21, 0) from rfl) (by decide) rfl 1 (by decide) k_1 (fun _ h => h) rfl rfl (by decide +kernel) (cS_p21 _ _ _ _ _ _ _ _ _ _) dX0_forgetAll_2 (fun H locs hG hS => ?_)
  exact g_vret hx hb hrt hlocks hS hG (cS_c rfl rfl rfl rfl rfl rfl rfl) rfl dX0_forgetAll_5

