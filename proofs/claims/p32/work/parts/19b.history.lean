/-! THE CLASS: a state is kept. Laid by gen/p19.py. -/
theorem g_rw {Γ : gX} {M : Nat → Nat → Int32} {R R2 : Nat → Nat → Option Nat} {O : Int64} {H : Heap} (h : R = R2) (hG : GH Γ M R O H) : GH Γ M R2 O H := h ▸ hG
def rotK (R : Nat → Nat → Option Nat) (j : Nat) : Nat → Nat → Option Nat := va_up R 479 (fun i => if i < j then R 479 (i + 1) else R 479 i)
/-- the remembered roads, the first one last -/
def rotR (R : Nat → Nat → Option Nat) : Nat → Nat → Option Nat := va_up R 479 (fun i => if i < 14 then R 479 (i + 1) else if i = 14 then R 479 0 else R 479 i)
theorem rotK_0 (R : Nat → Nat → Option Nat) : rotK R 0 = R := by
  funext c i
  unfold rotK va_up
  by_cases h : c = 479
  · subst h; rw [if_pos rfl]; rfl
  · rw [if_neg h]
theorem rotK_s (R : Nat → Nat → Option Nat) (k : Nat) {x : Option Nat} (hx : R 479 (k + 1) = x) : up2R (rotK R k) 479 k x = rotK R (k + 1) := by
  subst hx
  funext c i
  unfold up2R rotK va_up
  by_cases h : c = 479
  · subst h
    rw [if_pos rfl, if_pos rfl, if_pos rfl]
    show (if i = k then R 479 (k + 1) else if i < k then R 479 (i + 1) else R 479 i) = if i < k + 1 then R 479 (i + 1) else R 479 i
    by_cases e : i = k
    · subst e; rw [if_pos rfl, if_pos (by omega)]
    · rw [if_neg e]
      by_cases q : i < k
      · rw [if_pos q, if_pos (by omega)]
      · rw [if_neg q, if_neg (by omega)]
  · rw [if_neg h, if_neg h, if_neg h]
theorem rotK_e (R : Nat → Nat → Option Nat) {x : Option Nat} (hx : R 479 0 = x) : up2R (rotK R 14) 479 14 x = rotR R := by
  subst hx
  funext c i
  unfold up2R rotK rotR va_up
  by_cases h : c = 479
  · subst h
    rw [if_pos rfl, if_pos rfl, if_pos rfl]
    show (if i = 14 then R 479 0 else if i < 14 then R 479 (i + 1) else R 479 i) = if i < 14 then R 479 (i + 1) else if i = 14 then R 479 0 else R 479 i
    by_cases e : i = 14
    · subst e; rfl
    · rw [if_neg e, if_neg e]
  · rw [if_neg h, if_neg h, if_neg h]
theorem LV_up {Γ : gX} {R : Nat → Nat → Option Nat} {r : Nat} (h : LV Γ R r) (f : Nat → Option Nat) : LV Γ (va_up R 479 f) r := by
  obtain ⟨h1, h2, h3, h4, h5, h6, h7, h8⟩ := h
  have e : ∀ k, k < 25 → va_up R 479 f (25 * r + k) = R (25 * r + k) := fun k hk => if_neg (by omega)
  have e0 := e 0 (by decide)
  rw [Nat.add_zero] at e0
  refine ⟨h1, h2, ?_, ?_, ?_, ?_, ?_, ?_⟩
  · rw [e0]; exact h3
  · rw [e0]; exact h4
  · rw [e0]; exact h5
  · rw [e 1 (by decide)]; exact h6
  · rw [e 2 (by decide)]; exact h7
  · rw [e 3 (by decide)]; exact h8
theorem LC_up {Γ : gX} {R : Nat → Nat → Option Nat} (h : LC Γ R) (f : Nat → Option Nat) : LC Γ (va_up R 479 f) := by
  obtain ⟨h1, h2, h3⟩ := h
  exact ⟨h1, fun r hr => LV_up (h2 r hr) f, h3⟩
def rotP (pm : Nat → Nat) (i : Nat) : Nat := if i < 14 then pm (i + 1) else pm 0
theorem HP_rot {R : Nat → Nat → Option Nat} {pm : Nat → Nat} (hp : HP R pm) : HP (rotR R) (rotP pm) := by
  intro k hk
  unfold rotR rotP
  rw [show va_up R 479 (fun i => if i < 14 then R 479 (i + 1) else if i = 14 then R 479 0 else R 479 i) 479 k = (if k < 14 then R 479 (k + 1) else if k = 14 then R 479 0 else R 479 k) from rfl]
  by_cases q : k < 14
  · rw [if_pos q, if_pos q]; exact hp (k + 1) (by omega)
  · rw [if_neg q, if_neg q, if_pos (by omega)]; exact hp 0 (by omega)
set_option maxHeartbeats 4000000 in
set_option maxRecDepth 100000 in
theorem mX0_forgetOldest {l : Launch} {Γ : gX} (M : Nat → Nat → Int32) (R : Nat → Nat → Option Nat) (O : Int64) (hC : LC Γ R) (X G J S C P Q : Nat → Int32) (pm : Nat → Nat) (hp : HP R pm) : gMet l Γ yX0_forgetOldest wsX0_forgetOldest 0 0 [.ref (gad Γ 478)] (cS M X G J S C P Q) R O none (cS M X G (upd J 1 14) S C P Q) (rotR R) O := by
  refine g_start (cc := cX0_forgetOldest) (maxL := 3) (ret := none) (by decide) rfl (Nat.le_of_ble_eq_true rfl) ?_
  intro p e s m below meth c ls hx hb hml hrt hts hown hlocks hname hK hZ hG hS hl
  have hl : lv_has ls 3 [(0, .ref (gad Γ 478))] := hl
  have hown : s.vm.findClass RX0 = some m.cls := hown
  have hF : CallFix p m c cX0_forgetOldest 3 s _ wsX0_forgetOldest RX0 := ⟨hx, hb, hml, hown, hts⟩
  have k_1 : (Cond.fieldLink RX0 11 "RoadDust$History" "past" "[LRoadDust$Road;").before _ s = true := hts _ (by decide +kernel)
  have in_X0 : ∀ w ∈ wsX00, w ∈ wsX0_forgetOldest := by decide +kernel
  have k_3 : (Cond.fieldLink RX0 18 "RoadDust$History" "count" "I").before _ s = true := hts _ (by decide +kernel)
  have hV0 := hC.2.1 0 (by decide)
  have hV1 := hC.2.1 1 (by decide)
  have hC0 := hC
  refine lv_aload_n hx hb dX0_forgetOldest_0 rfl (lv_at hl 0 rfl) ?_
  refine go_getr (C := RX0) (T := TX0) (ci := 0) hx hb hts in_X0 hown hK hG (hC.1 478 (by decide) (by decide)) (show gC 478 = (0, 21, 0) from rfl) (by decide) rfl 0 (by decide) rfl hC.2.2.2.2.2.2.2.2.2.2.1 k_1 (fun _ h => h) dX0_forgetOldest_1 ?_
  refine lv_iconst (v := 0) hx hb dX0_forgetOldest_4 (by decide) ?_
  refine g_aald hx hb hK hG (hC.1 479 (by decide) (by decide)) (show gC 479 = (12, 33, 0) from rfl) (by decide) (by decide) rfl (show gLen 479 = 15 from rfl) (j := 0) rfl (show vp_in (nI 0) 15 from vp_in_nI (by decide) (by decide)) (hp 0 (by omega)).1 dX0_forgetOldest_5 ?_
  refine lv_astore_n (lv' := [(1, .ref (gad Γ (25 * (pm 0)))), (0, .ref (gad Γ 478))]) hx hb dX0_forgetOldest_6 rfl hl (by decide) rfl (fun ls hl => ?_)
  refine lv_iconst (v := 0) hx hb dX0_forgetOldest_7 (by decide) ?_
  refine lv_istore_n (lv' := [(2, .int 0), (1, .ref (gad Γ (25 * (pm 0)))), (0, .ref (gad Γ 478))]) hx hb dX0_forgetOldest_8 rfl hl (by decide) rfl (fun ls hl => ?_)
  replace hG := g_rw (rotK_0 R).symm hG
  refine g_loop (N := 14) (fun k H locs ls => GH Γ (cS M X G J S C P Q) (rotK R k) O H ∧ va_S (gA Γ) s.heap H locs ∧ lv_has ls 3 [(0, .ref (gad Γ 478)), (1, .ref (gad Γ (25 * (pm 0)))), (2, .int (nI k))]) ?_ ?_ 0 (Nat.zero_le _) _ _ _ ⟨hG, hS, lv_sub hl [2, 1, 0] rfl⟩
  · rintro H locs ls ⟨hG, hS, hl⟩
    have hC := LC_up hC (fun i => if i < 14 then R 479 (i + 1) else R 479 i)
    change LC Γ (rotK R 14) at hC
    refine lv_iload_n hx hb dX0_forgetOldest_9 rfl (lv_at hl 2 rfl) ?_
    refine lv_bipush (v := 14) hx hb dX0_forgetOldest_10 (by decide) ?_
    refine lv_icmp_ge (tgt := 35) hx hb dX0_forgetOldest_12 (by decide) (fun c_1 => ?_) (fun c_1 => absurd (nI_le (Nat.le_refl _) (by decide)) c_1)
    refine lv_aload_n hx hb dX0_forgetOldest_35 rfl (lv_at hl 0 rfl) ?_
    refine go_getr (C := RX0) (T := TX0) (ci := 0) hx hb hts in_X0 hown hK hG (hC.1 478 (by decide) (by decide)) (show gC 478 = (0, 21, 0) from rfl) (by decide) rfl 0 (by decide) rfl hC.2.2.2.2.2.2.2.2.2.2.1 k_1 (fun _ h => h) dX0_forgetOldest_36 ?_
    refine lv_bipush (v := 14) hx hb dX0_forgetOldest_39 (by decide) ?_
    refine lv_aload_n hx hb dX0_forgetOldest_41 rfl (lv_at hl 1 rfl) ?_
    refine g_aast hx hb hK hG hS (hC.1 479 (by decide) (by decide)) (show gC 479 = (12, 33, 0) from rfl) (by decide) (by decide) rfl (hC0.2.1 (pm 0) (hp 0 (by omega)).2.2).c0 (gC_Rd ((hC0.2.1 (pm 0) (hp 0 (by omega)).2.2).1)) (by decide) rfl (show gLen 479 = 15 from rfl) (j := 14) rfl (show vp_in (nI 14) 15 from vp_in_nI (by decide) (by decide)) dX0_forgetOldest_42 (fun H locs hG hS => ?_)
    replace hG := g_rw (rotK_e R (hp 0 (by omega)).1) hG
    refine lv_aload_n hx hb dX0_forgetOldest_43 rfl (lv_at hl 0 rfl) ?_
    refine lv_bipush (v := 14) hx hb dX0_forgetOldest_44 (by decide) ?_
    refine go_put (M2 := cS M X G (upd J 1 14) S C P Q) (C := RX0) (T := TX0) (ci := 0) hx hb hts in_X0 tyX0 tyX0_ok nmX0 hown hK hG hS (hC.1 478 (by decide) (by decide)) (show gC 478 = (0, 21, 0) from rfl) (by decide) rfl 1 (by decide) k_3 (fun _ h => h) rfl rfl (by decide +kernel) (cS_p21 _ _ _ _ _ _ _ _ _ _) dX0_forgetOldest_46 (fun H locs hG hS => ?_)
    exact g_vret hx hb hrt hlocks hS hG rfl rfl dX0_forgetOldest_49
  · rintro k hk_k ih_k H locs ls ⟨hG, hS, hl⟩
    have hC := LC_up hC (fun i => if i < k then R 479 (i + 1) else R 479 i)
    change LC Γ (rotK R k) at hC
    refine lv_iload_n hx hb dX0_forgetOldest_9 rfl (lv_at hl 2 rfl) ?_
    refine lv_bipush (v := 14) hx hb dX0_forgetOldest_10 (by decide) ?_
    refine lv_icmp_ge (tgt := 35) hx hb dX0_forgetOldest_12 (by decide) (fun c_2 => absurd c_2 (nI_ge hk_k (by decide))) (fun c_2 => ?_)
    refine lv_aload_n hx hb dX0_forgetOldest_15 rfl (lv_at hl 0 rfl) ?_
    refine go_getr (C := RX0) (T := TX0) (ci := 0) hx hb hts in_X0 hown hK hG (hC.1 478 (by decide) (by decide)) (show gC 478 = (0, 21, 0) from rfl) (by decide) rfl 0 (by decide) rfl hC.2.2.2.2.2.2.2.2.2.2.1 k_1 (fun _ h => h) dX0_forgetOldest_16 ?_
    refine lv_iload_n hx hb dX0_forgetOldest_19 rfl (lv_at hl 2 rfl) ?_
    refine lv_aload_n hx hb dX0_forgetOldest_20 rfl (lv_at hl 0 rfl) ?_
    refine go_getr (C := RX0) (T := TX0) (ci := 0) hx hb hts in_X0 hown hK hG (hC.1 478 (by decide) (by decide)) (show gC 478 = (0, 21, 0) from rfl) (by decide) rfl 0 (by decide) rfl hC.2.2.2.2.2.2.2.2.2.2.1 k_1 (fun _ h => h) dX0_forgetOldest_21 ?_
    refine lv_iload_n hx hb dX0_forgetOldest_24 rfl (lv_at hl 2 rfl) ?_
    refine lv_iconst (v := 1) hx hb dX0_forgetOldest_25 (by decide) ?_
    refine lv_iadd hx hb dX0_forgetOldest_26 ?_
    refine g_top (show _ = nI (k + 1) from nI_add _ _) ?_
    refine g_aald hx hb hK hG (hC.1 479 (by decide) (by decide)) (show gC 479 = (12, 33, 0) from rfl) (by decide) (by decide) rfl (show gLen 479 = 15 from rfl) (j := (k + 1)) (nI_clamp (by omega)) (vp_in_nI (by omega) (by decide)) ((show rotK R k 479 (k + 1) = R 479 (k + 1) from (by unfold rotK; rw [va_up_eq]; exact if_neg (by omega))).trans (hp (k + 1) (by omega)).1) dX0_forgetOldest_27 ?_
    refine g_aast hx hb hK hG hS (hC.1 479 (by decide) (by decide)) (show gC 479 = (12, 33, 0) from rfl) (by decide) (by decide) rfl (hC0.2.1 (pm (k + 1)) (hp (k + 1) (by omega)).2.2).c0 (gC_Rd ((hC0.2.1 (pm (k + 1)) (hp (k + 1) (by omega)).2.2).1)) (by decide) rfl (show gLen 479 = 15 from rfl) (j := k) (nI_clamp (by omega)) (vp_in_nI (by omega) (by decide)) dX0_forgetOldest_28 (fun H locs hG hS => ?_)
    replace hG := g_rw (rotK_s R k (hp (k + 1) (by omega)).1) hG
    refine lv_iinc (v := nI (k + 1)) (lv' := [(2, .int (nI (k + 1))), (0, .ref (gad Γ 478)), (1, .ref (gad Γ (25 * (pm 0))))]) hx hb dX0_forgetOldest_29 hl (k := 2) rfl (nI_1 _) (by decide) rfl (fun ls hl => ?_)
    refine lv_goto (tgt := 9) hx hb dX0_forgetOldest_32 (by decide) ?_
    exact ih_k _ _ _ ⟨hG, hS, lv_sub hl [1, 2, 0] rfl⟩

set_option maxHeartbeats 4000000 in
set_option maxRecDepth 100000 in
theorem mX0_keepDraft_a {l : Launch} {Γ : gX} (M : Nat → Nat → Int32) (R : Nat → Nat → Option Nat) (O : Int64) (hC : LC Γ R) (X G J S C P Q : Nat → Int32) (pm : Nat → Nat) (hp : HP R pm) (k : Nat) (hk : J 1 = nI k) (hk13 : k < 14) : gMet l Γ yX0_keepDraft wsX0_keepDraft 1 22 [.ref (gad Γ 478)] (cS M X G J S C P Q) R O none (cS M X G (upd J 1 ((J 1) + 1)) S C P Q) R O := by
  refine g_start (cc := cX0_keepDraft) (maxL := 1) (ret := none) (by decide) rfl (Nat.le_of_ble_eq_true rfl) ?_
  intro p e s m below meth c ls hx hb hml hrt hts hown hlocks hname hK hZ hG hS hl
  have hl : lv_has ls 1 [(0, .ref (gad Γ 478))] := hl
  have hown : s.vm.findClass RX0 = some m.cls := hown
  have hF : CallFix p m c cX0_keepDraft 1 s _ wsX0_keepDraft RX0 := ⟨hx, hb, hml, hown, hts⟩
  have k_1 : (Cond.fieldLink RX0 18 "RoadDust$History" "count" "I").before _ s = true := hts _ (by decide +kernel)
  have in_X0 : ∀ w ∈ wsX00, w ∈ wsX0_keepDraft := by decide +kernel
  have hV0 := hC.2.1 0 (by decide)
  have hV1 := hC.2.1 1 (by decide)
  refine lv_aload_n hx hb dX0_keepDraft_0 rfl (lv_at hl 0 rfl) ?_
  refine lv_dup hx hb dX0_keepDraft_1 rfl ?_
  refine go_get (C := RX0) (T := TX0) (ci := 0) hx hb hts in_X0 hown hK hG (hC.1 478 (by decide) (by decide)) (show gC 478 = (0, 21, 0) from rfl) (by decide) rfl 1 (by decide) rfl k_1 (fun _ h => h) (v := J 1) (cS_a21 _ _ _ _ _ _ _ _ _) dX0_keepDraft_2 ?_
  refine lv_iconst (v := 1) hx hb dX0_keepDraft_5 (by decide) ?_
  refine lv_iadd hx hb dX0_keepDraft_6 ?_
  refine go_put (M2 := cS M X G (upd J 1 ((J 1) + 1)) S C P Q) (C := RX0) (T := TX0) (ci := 0) hx hb hts in_X0 tyX0 tyX0_ok nmX0 hown hK hG hS (hC.1 478 (by decide) (by decide)) (show gC 478 = (0, 21, 0) from rfl) (by decide) rfl 1 (by decide) k_1 (fun _ h => h) rfl rfl (by decide +kernel) (cS_p21 _ _ _ _ _ _ _ _ _ _) dX0_keepDraft_7 (fun H locs hG hS => ?_)
  refine lv_aload_n hx hb dX0_keepDraft_10 rfl (lv_at hl 0 rfl) ?_
  refine go_get (C := RX0) (T := TX0) (ci := 0) hx hb hts in_X0 hown hK hG (hC.1 478 (by decide) (by decide)) (show gC 478 = (0, 21, 0) from rfl) (by decide) rfl 1 (by decide) rfl k_1 (fun _ h => h) (v := (upd J 1 ((J 1) + 1)) 1) (cS_a21 _ _ _ _ _ _ _ _ _) dX0_keepDraft_11 ?_
  refine lv_bipush (v := 14) hx hb dX0_keepDraft_14 (by decide) ?_
  refine lv_icmp_le (tgt := 23) hx hb dX0_keepDraft_16 (by decide) (fun c_1 => ?_) (fun c_1 => absurd (show upd J 1 ((J 1) + 1) 1 ≤ 14 from cnt_le (m := 14) (cnt_p1 hk) (by omega) (by decide)) c_1)
  exact g_vret hx hb hrt hlocks hS hG rfl rfl dX0_keepDraft_23

set_option maxHeartbeats 4000000 in
set_option maxRecDepth 100000 in
theorem mX0_keepDraft_b {l : Launch} {Γ : gX} (M : Nat → Nat → Int32) (R : Nat → Nat → Option Nat) (O : Int64) (hC : LC Γ R) (X G J S C P Q : Nat → Int32) (pm : Nat → Nat) (hp : HP R pm) (k : Nat) (hk : J 1 = nI k) (hk14 : k = 14) : gMet l Γ yX0_keepDraft wsX0_keepDraft 1 22 [.ref (gad Γ 478)] (cS M X G J S C P Q) R O none (cS M X G (upd (upd J 1 ((J 1) + 1)) 1 14) S C P Q) (rotR R) O := by
  refine g_start (cc := cX0_keepDraft) (maxL := 1) (ret := none) (by decide) rfl (Nat.le_of_ble_eq_true rfl) ?_
  intro p e s m below meth c ls hx hb hml hrt hts hown hlocks hname hK hZ hG hS hl
  have hl : lv_has ls 1 [(0, .ref (gad Γ 478))] := hl
  have hown : s.vm.findClass RX0 = some m.cls := hown
  have hF : CallFix p m c cX0_keepDraft 1 s _ wsX0_keepDraft RX0 := ⟨hx, hb, hml, hown, hts⟩
  have k_1 : (Cond.fieldLink RX0 18 "RoadDust$History" "count" "I").before _ s = true := hts _ (by decide +kernel)
  have in_X0 : ∀ w ∈ wsX00, w ∈ wsX0_keepDraft := by decide +kernel
  have hV0 := hC.2.1 0 (by decide)
  have hV1 := hC.2.1 1 (by decide)
  refine lv_aload_n hx hb dX0_keepDraft_0 rfl (lv_at hl 0 rfl) ?_
  refine lv_dup hx hb dX0_keepDraft_1 rfl ?_
  refine go_get (C := RX0) (T := TX0) (ci := 0) hx hb hts in_X0 hown hK hG (hC.1 478 (by decide) (by decide)) (show gC 478 = (0, 21, 0) from rfl) (by decide) rfl 1 (by decide) rfl k_1 (fun _ h => h) (v := J 1) (cS_a21 _ _ _ _ _ _ _ _ _) dX0_keepDraft_2 ?_
  refine lv_iconst (v := 1) hx hb dX0_keepDraft_5 (by decide) ?_
  refine lv_iadd hx hb dX0_keepDraft_6 ?_
  refine go_put (M2 := cS M X G (upd J 1 ((J 1) + 1)) S C P Q) (C := RX0) (T := TX0) (ci := 0) hx hb hts in_X0 tyX0 tyX0_ok nmX0 hown hK hG hS (hC.1 478 (by decide) (by decide)) (show gC 478 = (0, 21, 0) from rfl) (by decide) rfl 1 (by decide) k_1 (fun _ h => h) rfl rfl (by decide +kernel) (cS_p21 _ _ _ _ _ _ _ _ _ _) dX0_keepDraft_7 (fun H locs hG hS => ?_)
  refine lv_aload_n hx hb dX0_keepDraft_10 rfl (lv_at hl 0 rfl) ?_
  refine go_get (C := RX0) (T := TX0) (ci := 0) hx hb hts in_X0 hown hK hG (hC.1 478 (by decide) (by decide)) (show gC 478 = (0, 21, 0) from rfl) (by decide) rfl 1 (by decide) rfl k_1 (fun _ h => h) (v := (upd J 1 ((J 1) + 1)) 1) (cS_a21 _ _ _ _ _ _ _ _ _) dX0_keepDraft_11 ?_
  refine lv_bipush (v := 14) hx hb dX0_keepDraft_14 (by decide) ?_
  refine lv_icmp_le (tgt := 23) hx hb dX0_keepDraft_16 (by decide) (fun c_1 => absurd c_1 (show ¬ upd J 1 ((J 1) + 1) 1 ≤ 14 from cnt_nle (m := 14) (cnt_p1 hk) (by omega) (by omega))) (fun c_1 => ?_)
  refine lv_aload_n hx hb dX0_keepDraft_19 rfl (lv_at hl 0 rfl) ?_
  refine g_callV (As := []) (rest := []) (st1 := []) hF (mX0_forgetOldest M R O hC X G (upd J 1 ((J 1) + 1)) S C P Q pm hp) (cwV 0 hts gX0_keepDraft_X0_forgetOldest rfl rfl rfl (by decide +kernel) ⟨Nat.le_of_ble_eq_true rfl, Nat.le_of_ble_eq_true rfl⟩) hK hZ hG hS (hC.1 478 (by decide) (by decide)) (show gC 478 = (0, 21, 0) from rfl) (by decide) rfl rfl hl.1 (Nat.le_of_ble_eq_true rfl) dX0_keepDraft_20 ⟨Nat.zero_le _, Nat.zero_le _⟩ rfl rfl (fun H locs hG hS => ?_)
  exact g_vret hx hb hrt hlocks hS hG rfl rfl dX0_keepDraft_23

def keepR (R : Nat → Nat → Option Nat) (J : Nat → Int32) : Nat → Nat → Option Nat := if J 1 = 14 then rotR R else R
def keepJ (J : Nat → Int32) : Nat → Int32 := if J 1 = 14 then upd (upd J 1 ((J 1) + 1)) 1 14 else upd J 1 ((J 1) + 1)
theorem mX0_keepDraft {l : Launch} {Γ : gX} (M : Nat → Nat → Int32) (R : Nat → Nat → Option Nat) (O : Int64) (hC : LC Γ R) (X G J S C P Q : Nat → Int32) (pm : Nat → Nat) (hp : HP R pm) (k : Nat) (hk : J 1 = nI k) (hk14 : k ≤ 14) : gMet l Γ yX0_keepDraft wsX0_keepDraft 1 22 [.ref (gad Γ 478)] (cS M X G J S C P Q) R O none (cS M X G (keepJ J) S C P Q) (keepR R J) O := by
  unfold keepJ keepR
  by_cases h : k = 14
  · rw [if_pos (show J 1 = 14 by rw [hk, h]; rfl), if_pos (show J 1 = 14 by rw [hk, h]; rfl)]
    exact mX0_keepDraft_b M R O hC X G J S C P Q pm hp k hk h
  · have e : ¬ J 1 = 14 := fun q => h (by
      have := congrArg Int32.toNatClampNeg (hk.symm.trans q)
      rw [nI_clamp (by omega)] at this
      exact this)
    rw [if_neg e, if_neg e]
    exact mX0_keepDraft_a M R O hC X G J S C P Q pm hp k hk (by omega)
