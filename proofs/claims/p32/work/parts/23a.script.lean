/-! THE CLASS: a script is split. Laid by gen/p23.py. -/
theorem spl_d {n k : Nat} (h : k < n) : (nI (n - k) - 1) + (-1) = nI (n - (k + 1)) - 1 := by
  rw [show n - k = (n - (k + 1)) + 1 by omega, nI_pred]
  generalize n - (k + 1) = j
  rw [show nI j + (-1) = nI j - 1 from (Int32.sub_eq_add_neg _ _).symm]
theorem spl_i {n k : Nat} (h : k < n) : nI (n - k) - 1 = nI (n - k - 1) := by
  rw [show n - k = (n - k - 1) + 1 by omega, nI_pred]
  rfl
def fX6_spl_R (sc : Int64) : Nat → Int64
  | 0 => sc
  | k + 1 => fX6_spl_R sc k / 10000
def fX6_spl_S (sc : Int64) (n : Nat) (Pk : Nat → Int32) (k : Nat) : Nat → Int32 := upd Pk (n - k - 1) ((remL (fX6_spl_R sc k) 10000).toInt32)
def fX6_spl_L (sc : Int64) (n : Nat) (P : Nat → Int32) : Nat → Nat → Int32
  | 0 => P
  | k + 1 => fX6_spl_S sc n (fX6_spl_L sc n P k) k
set_option maxHeartbeats 4000000 in
set_option maxRecDepth 100000 in
theorem mX6_splitScript {l : Launch} {Γ : gX} (M : Nat → Nat → Int32) (R : Nat → Nat → Option Nat) (O : Int64) (hC : LC Γ R) (X G J S C P Q : Nat → Int32) (n : Nat) (hn4 : n ≤ 4) {t : Int32} (ht : t = nI n) (sc : Int64) : gMet l Γ yX6_splitScript wsX6_splitScript 0 0 [.ref (gad Γ 475), .int t, .long sc] (cS M X G J S C P Q) R O (some (.int (if fX6_spl_R sc n = 0 then 1 else 0))) (cS M X G J S (fX6_spl_L sc n C n) P Q) R O := by
  subst ht
  refine g_start (cc := cX6_splitScript) (maxL := 7) (ret := (some .boolean)) (by decide) rfl (Nat.le_of_ble_eq_true rfl) ?_
  intro p e s m below meth c ls hx hb hml hrt hts hown hlocks hname hK hZ hG hS hl
  have hl : lv_has ls 7 [(0, .ref (gad Γ 475)), (1, .int (nI n)), (2, .long sc)] := hl
  have hown : s.vm.findClass RX6 = some m.cls := hown
  have hF : CallFix p m c cX6_splitScript 7 s _ wsX6_splitScript RX6 := ⟨hx, hb, hml, hown, hts⟩
  have k_1 : (Cond.fieldLink RX6 41 "RoadDust" "commands" "[I").before _ s = true := hts _ (by decide +kernel)
  have in_X6 : ∀ w ∈ wsX60, w ∈ wsX6_splitScript := by decide +kernel
  have k_3 : (Cond.constantLong RX6 249 (10000)).before _ s = true := hts _ (by decide +kernel)
  have hV0 := hC.2.1 0 (by decide)
  have hV1 := hC.2.1 1 (by decide)
  refine lv_lload_n hx hb dX6_splitScript_0 rfl (lv_at hl 2 rfl) ?_
  refine lv_lstore (lv' := [(4, .long sc), (0, .ref (gad Γ 475)), (1, .int (nI n)), (2, .long sc)]) hx hb dX6_splitScript_1 hl (by decide) rfl (fun ls hl => ?_)
  refine lv_iload_n hx hb dX6_splitScript_3 rfl (lv_at hl 2 rfl) ?_
  refine lv_iconst (v := 1) hx hb dX6_splitScript_4 (by decide) ?_
  refine lv_isub hx hb dX6_splitScript_5 ?_
  refine lv_istore (lv' := [(6, .int ((nI n) - 1)), (4, .long sc), (0, .ref (gad Γ 475)), (1, .int (nI n)), (2, .long sc)]) hx hb dX6_splitScript_6 hl (by decide) rfl (fun ls hl => ?_)
  refine g_loop (N := n) (fun k H locs ls => GH Γ (cS M X G J S (fX6_spl_L sc n C k) P Q) R O H ∧ va_S (gA Γ) s.heap H locs ∧ lv_has ls 7 [(0, .ref (gad Γ 475)), (1, .int (nI n)), (2, .long sc), (4, .long (fX6_spl_R sc k)), (6, .int (nI (n - k) - 1))]) ?_ ?_ 0 (Nat.zero_le _) _ _ _ ⟨hG, hS, lv_sub hl [2, 3, 4, 1, 0] rfl⟩
  · rintro H locs ls ⟨hG, hS, hl⟩
    refine lv_iload hx hb dX6_splitScript_8 (lv_at hl 4 rfl) ?_
    refine lv_if_lt (tgt := 47) hx hb dX6_splitScript_10 (by decide) (fun c_1 => ?_) (fun c_1 => absurd (by rw [Nat.sub_self]; decide) c_1)
    refine lv_lload hx hb dX6_splitScript_47 (lv_at hl 3 rfl) ?_
    refine lv_lconst (v := 0) hx hb dX6_splitScript_49 (by decide) ?_
    refine W.lcmp hx hb dX6_splitScript_50 ?_
    refine gl_ne (tgt := 58) hx hb dX6_splitScript_51 (by decide) (fun c_2 => ?_) (fun c_2 => ?_)
    · --T
      refine lv_iconst (v := 0) hx hb dX6_splitScript_58 (by decide) ?_
      exact g_zret hx hb hrt hlocks hS hG (by decide) (by rw [if_neg c_2]) rfl dX6_splitScript_59
    · --F
      refine lv_iconst (v := 1) hx hb dX6_splitScript_54 (by decide) ?_
      refine lv_goto (tgt := 59) hx hb dX6_splitScript_55 (by decide) ?_
      exact g_zret hx hb hrt hlocks hS hG (by decide) (by rw [if_pos c_2]) rfl dX6_splitScript_59
  · rintro k hk_k ih_k H locs ls ⟨hG, hS, hl⟩
    refine lv_iload hx hb dX6_splitScript_8 (lv_at hl 4 rfl) ?_
    refine lv_if_lt (tgt := 47) hx hb dX6_splitScript_10 (by decide) (fun c_3 => absurd c_3 (by rw [spl_i hk_k]; exact nI_nlt (b := 0) (Nat.zero_le _) (by omega))) (fun c_3 => ?_)
    refine lv_iload hx hb dX6_splitScript_13 (lv_at hl 4 rfl) ?_
    refine lv_iconst (v := 4) hx hb dX6_splitScript_15 (by decide) ?_
    refine lv_icmp_ge (tgt := 33) hx hb dX6_splitScript_16 (by decide) (fun c_4 => absurd c_4 (by rw [spl_i hk_k]; exact i32_lt_nle (nI_lt (a := n - k - 1) (b := 4) (by omega) (by decide)))) (fun c_4 => ?_)
    refine lv_aload_n hx hb dX6_splitScript_19 rfl (lv_at hl 0 rfl) ?_
    refine go_getr (C := RX6) (T := TX6) (ci := 6) hx hb hts in_X6 hown hK hG (hC.1 475 (by decide) (by decide)) (show gC 475 = (6, 32, 0) from rfl) (by decide) rfl 6 (by decide) rfl hC.2.2.2.2.2.2.2.2.1 k_1 (fun _ h => h) dX6_splitScript_20 ?_
    refine lv_iload hx hb dX6_splitScript_23 (lv_at hl 4 rfl) ?_
    refine lv_lload hx hb dX6_splitScript_25 (lv_at hl 3 rfl) ?_
    refine lv_ldc2 hx hb hown k_3 dX6_splitScript_27 ?_
    refine lv_lrem hx hb dX6_splitScript_30 (by decide) ?_
    refine lv_l2i hx hb dX6_splitScript_31 rfl ?_
    refine gm_ast (M2 := cS M X G J S (upd (fX6_spl_L sc n C k) (n - k - 1) ((remL (fX6_spl_R sc k) 10000).toInt32)) P Q) hx hb hK hG hS (hC.1 482 (by decide) (by decide)) (show gC 482 = (9, 23, 0) from rfl) (show gLen 482 = 4 from rfl) (by decide) (j := n - k - 1) (spl_i hk_k) (by omega) (cS_p23 _ _ _ _ _ _ _ _ _ _) dX6_splitScript_32 (fun H locs hG hS => ?_)
    refine lv_lload hx hb dX6_splitScript_33 (lv_at hl 3 rfl) ?_
    refine lv_ldc2 hx hb hown k_3 dX6_splitScript_35 ?_
    refine lv_ldiv hx hb dX6_splitScript_38 (by decide) ?_
    refine lv_lstore (lv' := [(4, .long ((fX6_spl_R sc k) / 10000)), (0, .ref (gad Γ 475)), (1, .int (nI n)), (2, .long sc), (6, .int (nI (n - k) - 1))]) hx hb dX6_splitScript_39 hl (by decide) rfl (fun ls hl => ?_)
    refine lv_iinc (v := nI (n - (k + 1)) - 1) (lv' := [(6, .int (nI (n - (k + 1)) - 1)), (4, .long ((fX6_spl_R sc k) / 10000)), (0, .ref (gad Γ 475)), (1, .int (nI n)), (2, .long sc)]) hx hb dX6_splitScript_41 hl (k := 4) rfl (spl_d hk_k) (by decide) rfl (fun ls hl => ?_)
    refine lv_goto (tgt := 8) hx hb dX6_splitScript_44 (by decide) ?_
    exact ih_k _ _ _ ⟨hG, hS, lv_sub hl [2, 3, 4, 1, 0] rfl⟩

