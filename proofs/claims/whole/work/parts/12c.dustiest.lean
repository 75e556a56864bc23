/-! THE REFERENCE: dustiest. Laid by gen/p12.py. -/
def fX7_du_T4  (P : Nat → Int32) (j : Nat) (a4 : Int32) : Int32 := a4 + (fX7_gets_v P j)
def fX7_du_A4  (P : Nat → Int32) : Nat → Int32
  | 0 => 0
  | k + 1 => fX7_du_T4  P k (fX7_du_A4  P k)
def fX7_dus_S (N : Nat → Int32) (Pk : Nat → Int32) (k : Nat) : Nat → Int32 := upd (fX7_raise_P (fX7_dry_P (fX7_copyPage_P N Pk 0 0))) ((12 + 7 * k) + 3) 0
def fX7_dus_L (N : Nat → Int32) (P : Nat → Int32) : Nat → Nat → Int32
  | 0 => P
  | k + 1 => fX7_dus_S N (fX7_dus_L N P k) k
def fX7_dus_T1 (N : Nat → Int32) (Pk : Nat → Int32) (k : Nat) (a1 : Int32) (a2 : Int32) : Int32 := if (nI k) = 0 then nI k else if a2 ≤ (fX7_du_A4  (upd (fX7_raise_P (fX7_dry_P (fX7_copyPage_P N Pk 0 0))) ((12 + 7 * k) + 3) 0) ((N 1).toNatClampNeg)) then a1 else nI k
def fX7_dus_T2 (N : Nat → Int32) (Pk : Nat → Int32) (k : Nat) (a1 : Int32) (a2 : Int32) : Int32 := if (nI k) = 0 then fX7_du_A4  (upd (fX7_raise_P (fX7_dry_P (fX7_copyPage_P N Pk 0 0))) ((12 + 7 * k) + 3) 0) ((N 1).toNatClampNeg) else if a2 ≤ (fX7_du_A4  (upd (fX7_raise_P (fX7_dry_P (fX7_copyPage_P N Pk 0 0))) ((12 + 7 * k) + 3) 0) ((N 1).toNatClampNeg)) then a2 else fX7_du_A4  (upd (fX7_raise_P (fX7_dry_P (fX7_copyPage_P N Pk 0 0))) ((12 + 7 * k) + 3) 0) ((N 1).toNatClampNeg)
def fX7_dus_A (N : Nat → Int32) (P : Nat → Int32) : Nat → Int32 × Int32
  | 0 => (0, 0)
  | k + 1 => (fX7_dus_T1 N (fX7_dus_L N P k) k (fX7_dus_A N P k).1 (fX7_dus_A N P k).2, fX7_dus_T2 N (fX7_dus_L N P k) k (fX7_dus_A N P k).1 (fX7_dus_A N P k).2)
def fX7_dustiest_v (A T D N V I K B : Nat → Int32)  : Int32 := (fX7_dus_A N V ((N 0).toNatClampNeg)).1
def fX7_dustiest_A (A T D N V I K B : Nat → Int32)  : Nat → Int32 := upd A 0 0
def fX7_dustiest_V (A T D N V I K B : Nat → Int32)  : Nat → Int32 := fX7_dus_L N V ((N 0).toNatClampNeg)
set_option maxHeartbeats 4000000 in
set_option maxRecDepth 100000 in
theorem mX7_dustiest {l : Launch} {Γ : gX} (M : Nat → Nat → Int32) (R : Nat → Nat → Option Nat) (O : Int64) (hL : LM Γ R) (A T D N V I K B : Nat → Int32) (hN : WS N) : gMet l Γ yX7_dustiest wsX7_dustiest 4 89 [.ref (gad Γ 483)] (mS M A T D N V I K B) R O (some (.int (fX7_dustiest_v A T D N V I K B ))) (mS M (fX7_dustiest_A A T D N V I K B ) T D N (fX7_dustiest_V A T D N V I K B ) I K B) R O := by
  refine g_start (cc := cX7_dustiest) (maxL := 6) (ret := (some .int)) (by decide) rfl (Nat.le_of_ble_eq_true rfl) ?_
  intro p e s m below meth c ls hx hb hml hrt hts hown hlocks hname hK hZ hG hS hl
  have hl : lv_has ls 6 [(0, .ref (gad Γ 483))] := hl
  have hown : s.vm.findClass RX7 = some m.cls := hown
  have hF : CallFix p m c cX7_dustiest 6 s _ wsX7_dustiest RX7 := ⟨hx, hb, hml, hown, hts⟩
  have k_1 : (Cond.fieldLink RX7 36 "RoadDustModel" "refusal" "I").before _ s = true := hts _ (by decide +kernel)
  have in_X7 : ∀ w ∈ wsX70, w ∈ wsX7_dustiest := by decide +kernel
  have k_3 : (Cond.fieldLink RX7 16 "RoadDustModel" "now" "[I").before _ s = true := hts _ (by decide +kernel)
  have k_4 : (Cond.fieldLink RX7 19 "RoadDustModel" "trial" "[I").before _ s = true := hts _ (by decide +kernel)
  have n0 := hN.1.2
  have n1 := hN.2.1.2
  have n2 := hN.2.2.1.2
  refine lv_aload_n hx hb dX7_dustiest_0 rfl (lv_at hl 0 rfl) ?_
  refine lv_iconst (v := 0) hx hb dX7_dustiest_1 (by decide) ?_
  refine gM_put hx hb hts in_X7 hown hK hL hG hS 0 (by decide) rfl k_1 (fun _ h => h) rfl (by decide +kernel) dX7_dustiest_2 (fun H locs hG hS => ?_)
  refine lv_iconst (v := 0) hx hb dX7_dustiest_5 (by decide) ?_
  refine lv_istore_n (lv' := [(1, .int 0), (0, .ref (gad Γ 483))]) hx hb dX7_dustiest_6 rfl hl (by decide) rfl (fun ls hl => ?_)
  refine lv_iconst (v := 0) hx hb dX7_dustiest_7 (by decide) ?_
  refine lv_istore_n (lv' := [(2, .int 0), (1, .int 0), (0, .ref (gad Γ 483))]) hx hb dX7_dustiest_8 rfl hl (by decide) rfl (fun ls hl => ?_)
  refine lv_iconst (v := 0) hx hb dX7_dustiest_9 (by decide) ?_
  refine lv_istore_n (lv' := [(3, .int 0), (2, .int 0), (1, .int 0), (0, .ref (gad Γ 483))]) hx hb dX7_dustiest_10 rfl hl (by decide) rfl (fun ls hl => ?_)
  refine g_loop (N := (N 0).toNatClampNeg) (fun k H locs ls => GH Γ (mS M (upd A 0 0) T D N (fX7_dus_L N V k) I K B) R O H ∧ va_S (gA Γ) s.heap H locs ∧ lv_has ls 6 [(0, .ref (gad Γ 483)), (1, .int ((fX7_dus_A N V k).1)), (2, .int ((fX7_dus_A N V k).2)), (3, .int (nI k))]) ?_ ?_ 0 (Nat.zero_le _) _ _ _ ⟨hG, hS, lv_sub hl [3, 2, 1, 0] rfl⟩
  · rintro H locs ls ⟨hG, hS, hl⟩
    refine lv_iload_n hx hb dX7_dustiest_11 rfl (lv_at hl 3 rfl) ?_
    refine lv_aload_n hx hb dX7_dustiest_12 rfl (lv_at hl 0 rfl) ?_
    refine gM_getr hx hb hts in_X7 hown hK hL hG 5 (by decide) rfl hL.2.2.2.1 k_3 (fun _ h => h) dX7_dustiest_13 ?_
    refine lv_iconst (v := 0) hx hb dX7_dustiest_16 (by decide) ?_
    refine gm_ald hx hb hK hG (hL.1 486 (by decide) (by decide)) (show gC 486 = (9, 27, 0) from rfl) (show gLen 486 = 131 from rfl) (by decide) (j := 0) rfl (by omega) (v := N 0) (mS_a27 _ _ _ _ _ _ _ _ _ _) dX7_dustiest_17 ?_
    refine lv_icmp_ge (tgt := 136) hx hb dX7_dustiest_18 (by decide) (fun c_1 => ?_) (fun c_1 => absurd (cl_le _) c_1)
    refine lv_iload_n hx hb dX7_dustiest_136 rfl (lv_at hl 1 rfl) ?_
    exact g_iret hx hb hrt hlocks hS hG (by unfold fX7_dustiest_v; rfl) (mS_c rfl rfl rfl rfl rfl rfl rfl rfl) dX7_dustiest_137
  · rintro k hk_k ih_k H locs ls ⟨hG, hS, hl⟩
    refine lv_iload_n hx hb dX7_dustiest_11 rfl (lv_at hl 3 rfl) ?_
    refine lv_aload_n hx hb dX7_dustiest_12 rfl (lv_at hl 0 rfl) ?_
    refine gM_getr hx hb hts in_X7 hown hK hL hG 5 (by decide) rfl hL.2.2.2.1 k_3 (fun _ h => h) dX7_dustiest_13 ?_
    refine lv_iconst (v := 0) hx hb dX7_dustiest_16 (by decide) ?_
    refine gm_ald hx hb hK hG (hL.1 486 (by decide) (by decide)) (show gC 486 = (9, 27, 0) from rfl) (show gLen 486 = 131 from rfl) (by decide) (j := 0) rfl (by omega) (v := N 0) (mS_a27 _ _ _ _ _ _ _ _ _ _) dX7_dustiest_17 ?_
    refine lv_icmp_ge (tgt := 136) hx hb dX7_dustiest_18 (by decide) (fun c_2 => absurd c_2 (cl_ge hk_k)) (fun c_2 => ?_)
    refine lv_aload_n hx hb dX7_dustiest_21 rfl (lv_at hl 0 rfl) ?_
    refine gM_getr hx hb hts in_X7 hown hK hL hG 5 (by decide) rfl hL.2.2.2.1 k_3 (fun _ h => h) dX7_dustiest_22 ?_
    refine lv_iconst (v := 0) hx hb dX7_dustiest_25 (by decide) ?_
    refine lv_aload_n hx hb dX7_dustiest_26 rfl (lv_at hl 0 rfl) ?_
    refine gM_getr hx hb hts in_X7 hown hK hL hG 6 (by decide) rfl hL.2.2.2.2.1 k_4 (fun _ h => h) dX7_dustiest_27 ?_
    refine lv_iconst (v := 0) hx hb dX7_dustiest_30 (by decide) ?_
    refine g_callS (As := [.ref (gad Γ 486), .int 0, .ref (gad Γ 487), .int 0]) (rest := []) (st1 := []) hF (mX7_copyPage_q (mS M (upd A 0 0) T D N (fX7_dus_L N V k) I K B) R O (hL.1 486 (by decide) (by decide)) (show gC 486 = (9, 27, 0) from rfl) (show gLen 486 = 131 from rfl) (hL.1 487 (by decide) (by decide)) (show gC 487 = (9, 28, 0) from rfl) (show gLen 487 = 131 from rfl) (by decide) 0 0 rfl rfl (by omega) (by omega) (by decide) (by decide) (fX7_dus_L N V k) _ (mS_b27 _ _ _ _ _ _ _ _ _)) (va_cwS 4 hts gX7_dustiest_X7_copyPage rfl rfl rfl (by decide +kernel) ⟨Nat.le_of_ble_eq_true rfl, Nat.le_of_ble_eq_true rfl⟩) hK hZ (g_st (show _ = va_up (mS M (upd A 0 0) T D N (fX7_dus_L N V k) I K B) 28 (fX7_dus_L N V k) from (mS_u28 _ _ _ _ _ _ _ _ _ _).symm) hG) hS rfl hl.1 (Nat.le_of_ble_eq_true rfl) dX7_dustiest_31 ⟨Nat.zero_le _, Nat.zero_le _⟩ rfl rfl (fun H locs hG hS => ?_)
    replace hG : GH Γ (mS M (upd A 0 0) T D N (fX7_copyPage_P N (fX7_dus_L N V k) 0 0) I K B) R O H := g_st (mS_u28 _ _ _ _ _ _ _ _ _ _) hG
    refine lv_aload_n hx hb dX7_dustiest_34 rfl (lv_at hl 0 rfl) ?_
    refine gM_getr hx hb hts in_X7 hown hK hL hG 6 (by decide) rfl hL.2.2.2.2.1 k_4 (fun _ h => h) dX7_dustiest_35 ?_
    refine g_callS (As := [.ref (gad Γ 487)]) (rest := []) (st1 := []) hF (mX7_dry (mS M (upd A 0 0) T D N (fX7_copyPage_P N (fX7_dus_L N V k) 0 0) I K B) R O (hL.1 487 (by decide) (by decide)) (show gC 487 = (9, 28, 0) from rfl) (show gLen 487 = 131 from rfl) (fX7_copyPage_P N (fX7_dus_L N V k) 0 0) ((WS_cp hN)).1.2) (va_cwS 1 hts gX7_dustiest_X7_dry rfl rfl rfl (by decide +kernel) ⟨Nat.le_of_ble_eq_true rfl, Nat.le_of_ble_eq_true rfl⟩) hK hZ (g_st (show _ = va_up (mS M (upd A 0 0) T D N (fX7_copyPage_P N (fX7_dus_L N V k) 0 0) I K B) 28 (fX7_copyPage_P N (fX7_dus_L N V k) 0 0) from (mS_u28 _ _ _ _ _ _ _ _ _ _).symm) hG) hS rfl hl.1 (Nat.le_of_ble_eq_true rfl) dX7_dustiest_38 ⟨Nat.zero_le _, Nat.zero_le _⟩ rfl rfl (fun H locs hG hS => ?_)
    replace hG : GH Γ (mS M (upd A 0 0) T D N (fX7_dry_P (fX7_copyPage_P N (fX7_dus_L N V k) 0 0)) I K B) R O H := g_st (mS_u28 _ _ _ _ _ _ _ _ _ _) hG
    refine lv_aload_n hx hb dX7_dustiest_41 rfl (lv_at hl 0 rfl) ?_
    refine gM_getr hx hb hts in_X7 hown hK hL hG 6 (by decide) rfl hL.2.2.2.2.1 k_4 (fun _ h => h) dX7_dustiest_42 ?_
    refine g_callS (As := [.ref (gad Γ 487)]) (rest := []) (st1 := []) hF (mX7_raise (mS M (upd A 0 0) T D N (fX7_dry_P (fX7_copyPage_P N (fX7_dus_L N V k) 0 0)) I K B) R O (hL.1 487 (by decide) (by decide)) (show gC 487 = (9, 28, 0) from rfl) (show gLen 487 = 131 from rfl) (fX7_dry_P (fX7_copyPage_P N (fX7_dus_L N V k) 0 0)) ((WS_dry (WS_cp hN))).1.2) (va_cwS 1 hts gX7_dustiest_X7_raise rfl rfl rfl (by decide +kernel) ⟨Nat.le_of_ble_eq_true rfl, Nat.le_of_ble_eq_true rfl⟩) hK hZ (g_st (show _ = va_up (mS M (upd A 0 0) T D N (fX7_dry_P (fX7_copyPage_P N (fX7_dus_L N V k) 0 0)) I K B) 28 (fX7_dry_P (fX7_copyPage_P N (fX7_dus_L N V k) 0 0)) from (mS_u28 _ _ _ _ _ _ _ _ _ _).symm) hG) hS rfl hl.1 (Nat.le_of_ble_eq_true rfl) dX7_dustiest_45 ⟨Nat.zero_le _, Nat.zero_le _⟩ rfl rfl (fun H locs hG hS => ?_)
    replace hG : GH Γ (mS M (upd A 0 0) T D N (fX7_raise_P (fX7_dry_P (fX7_copyPage_P N (fX7_dus_L N V k) 0 0))) I K B) R O H := g_st (mS_u28 _ _ _ _ _ _ _ _ _ _) hG
    refine lv_aload_n hx hb dX7_dustiest_48 rfl (lv_at hl 0 rfl) ?_
    refine gM_getr hx hb hts in_X7 hown hK hL hG 6 (by decide) rfl hL.2.2.2.2.1 k_4 (fun _ h => h) dX7_dustiest_49 ?_
    refine lv_iload_n hx hb dX7_dustiest_52 rfl (lv_at hl 3 rfl) ?_
    refine g_callS (As := [.int (nI k)]) (rest := [.ref (gad Γ 487)]) (st1 := [.int (nI (12 + 7 * k)), .ref (gad Γ 487)]) hF (mX7_segmentAt _ R O k rfl) (va_cwS 1 hts gX7_dustiest_X7_segmentAt rfl rfl rfl (by decide +kernel) ⟨Nat.le_of_ble_eq_true rfl, Nat.le_of_ble_eq_true rfl⟩) hK hZ hG hS rfl hl.1 (Nat.le_of_ble_eq_true rfl) dX7_dustiest_53 ⟨Nat.zero_le _, Nat.zero_le _⟩ rfl rfl (fun H locs hG hS => ?_)
    refine lv_iconst (v := 3) hx hb dX7_dustiest_56 (by decide) ?_
    refine lv_iadd hx hb dX7_dustiest_57 ?_
    refine g_top (show _ = nI ((12 + 7 * k) + 3) from nI_add _ _) ?_
    refine lv_iconst (v := 0) hx hb dX7_dustiest_58 (by decide) ?_
    refine gm_ast (M2 := mS M (upd A 0 0) T D N (upd (fX7_raise_P (fX7_dry_P (fX7_copyPage_P N (fX7_dus_L N V k) 0 0))) ((12 + 7 * k) + 3) 0) I K B) hx hb hK hG hS (hL.1 487 (by decide) (by decide)) (show gC 487 = (9, 28, 0) from rfl) (show gLen 487 = 131 from rfl) (by decide) (j := (12 + 7 * k) + 3) rfl (by omega) (mS_p28 _ _ _ _ _ _ _ _ _ _ _) dX7_dustiest_59 (fun H locs hG hS => ?_)
    refine lv_iconst (v := 0) hx hb dX7_dustiest_60 (by decide) ?_
    refine lv_istore (lv' := [(4, .int 0), (0, .ref (gad Γ 483)), (1, .int ((fX7_dus_A N V k).1)), (2, .int ((fX7_dus_A N V k).2)), (3, .int (nI k))]) hx hb dX7_dustiest_61 hl (by decide) rfl (fun ls hl => ?_)
    refine lv_iconst (v := 0) hx hb dX7_dustiest_63 (by decide) ?_
    refine lv_istore (lv' := [(5, .int 0), (4, .int 0), (0, .ref (gad Γ 483)), (1, .int ((fX7_dus_A N V k).1)), (2, .int ((fX7_dus_A N V k).2)), (3, .int (nI k))]) hx hb dX7_dustiest_64 hl (by decide) rfl (fun ls hl => ?_)
    refine g_loop (N := (N 1).toNatClampNeg) (fun j H locs ls => GH Γ (mS M (upd A 0 0) T D N (upd (fX7_raise_P (fX7_dry_P (fX7_copyPage_P N (fX7_dus_L N V k) 0 0))) ((12 + 7 * k) + 3) 0) I K B) R O H ∧ va_S (gA Γ) s.heap H locs ∧ lv_has ls 6 [(0, .ref (gad Γ 483)), (1, .int ((fX7_dus_A N V k).1)), (2, .int ((fX7_dus_A N V k).2)), (3, .int (nI k)), (4, .int (fX7_du_A4  (upd (fX7_raise_P (fX7_dry_P (fX7_copyPage_P N (fX7_dus_L N V k) 0 0))) ((12 + 7 * k) + 3) 0) j)), (5, .int (nI j))]) ?_ ?_ 0 (Nat.zero_le _) _ _ _ ⟨hG, hS, lv_sub hl [2, 3, 4, 5, 1, 0] rfl⟩
    · rintro H locs ls ⟨hG, hS, hl⟩
      refine lv_iload hx hb dX7_dustiest_66 (lv_at hl 5 rfl) ?_
      refine lv_aload_n hx hb dX7_dustiest_68 rfl (lv_at hl 0 rfl) ?_
      refine gM_getr hx hb hts in_X7 hown hK hL hG 5 (by decide) rfl hL.2.2.2.1 k_3 (fun _ h => h) dX7_dustiest_69 ?_
      refine lv_iconst (v := 1) hx hb dX7_dustiest_72 (by decide) ?_
      refine gm_ald hx hb hK hG (hL.1 486 (by decide) (by decide)) (show gC 486 = (9, 27, 0) from rfl) (show gLen 486 = 131 from rfl) (by decide) (j := 1) rfl (by omega) (v := N 1) (mS_a27 _ _ _ _ _ _ _ _ _ _) dX7_dustiest_73 ?_
      refine lv_icmp_ge (tgt := 97) hx hb dX7_dustiest_74 (by decide) (fun c_3 => ?_) (fun c_3 => absurd (cl_le _) c_3)
      refine lv_iload_n hx hb dX7_dustiest_97 rfl (lv_at hl 3 rfl) ?_
      refine lv_if_eq (tgt := 107) hx hb dX7_dustiest_98 (by decide) (fun c_4 => ?_) (fun c_4 => ?_)
      · --T
        refine lv_iload_n hx hb dX7_dustiest_107 rfl (lv_at hl 3 rfl) ?_
        refine lv_goto (tgt := 112) hx hb dX7_dustiest_108 (by decide) ?_
        refine lv_istore_n (lv' := [(1, .int (nI k)), (0, .ref (gad Γ 483)), (2, .int ((fX7_dus_A N V k).2)), (3, .int (nI k)), (4, .int (fX7_du_A4  (upd (fX7_raise_P (fX7_dry_P (fX7_copyPage_P N (fX7_dus_L N V k) 0 0))) ((12 + 7 * k) + 3) 0) ((N 1).toNatClampNeg))), (5, .int (nI ((N 1).toNatClampNeg)))]) hx hb dX7_dustiest_112 rfl hl (by decide) rfl (fun ls hl => ?_)
        refine lv_iload_n hx hb dX7_dustiest_113 rfl (lv_at hl 3 rfl) ?_
        refine lv_if_eq (tgt := 123) hx hb dX7_dustiest_114 (by decide) (fun c_5 => ?_) (fun c_5 => absurd c_4 c_5)
        refine lv_iload hx hb dX7_dustiest_123 (lv_at hl 4 rfl) ?_
        refine lv_goto (tgt := 129) hx hb dX7_dustiest_125 (by decide) ?_
        refine lv_istore_n (lv' := [(2, .int (fX7_du_A4  (upd (fX7_raise_P (fX7_dry_P (fX7_copyPage_P N (fX7_dus_L N V k) 0 0))) ((12 + 7 * k) + 3) 0) ((N 1).toNatClampNeg))), (1, .int (nI k)), (0, .ref (gad Γ 483)), (3, .int (nI k)), (4, .int (fX7_du_A4  (upd (fX7_raise_P (fX7_dry_P (fX7_copyPage_P N (fX7_dus_L N V k) 0 0))) ((12 + 7 * k) + 3) 0) ((N 1).toNatClampNeg))), (5, .int (nI ((N 1).toNatClampNeg)))]) hx hb dX7_dustiest_129 rfl hl (by decide) rfl (fun ls hl => ?_)
        refine lv_iinc (v := nI (k + 1)) (lv' := [(3, .int (nI (k + 1))), (2, .int (fX7_du_A4  (upd (fX7_raise_P (fX7_dry_P (fX7_copyPage_P N (fX7_dus_L N V k) 0 0))) ((12 + 7 * k) + 3) 0) ((N 1).toNatClampNeg))), (1, .int (nI k)), (0, .ref (gad Γ 483)), (4, .int (fX7_du_A4  (upd (fX7_raise_P (fX7_dry_P (fX7_copyPage_P N (fX7_dus_L N V k) 0 0))) ((12 + 7 * k) + 3) 0) ((N 1).toNatClampNeg))), (5, .int (nI ((N 1).toNatClampNeg)))]) hx hb dX7_dustiest_130 hl (k := 3) rfl (nI_1 _) (by decide) rfl (fun ls hl => ?_)
        refine lv_goto (tgt := 11) hx hb dX7_dustiest_133 (by decide) ?_
        have e_1 : (fX7_dus_A N V (k + 1)).1 = nI k := by
          show fX7_dus_T1 N (fX7_dus_L N V k) k ((fX7_dus_A N V k).1) ((fX7_dus_A N V k).2) = _
          unfold fX7_dus_T1
          rw [if_pos c_4]
        have e_2 : (fX7_dus_A N V (k + 1)).2 = fX7_du_A4  (upd (fX7_raise_P (fX7_dry_P (fX7_copyPage_P N (fX7_dus_L N V k) 0 0))) ((12 + 7 * k) + 3) 0) ((N 1).toNatClampNeg) := by
          show fX7_dus_T2 N (fX7_dus_L N V k) k ((fX7_dus_A N V k).1) ((fX7_dus_A N V k).2) = _
          unfold fX7_dus_T2
          rw [if_pos c_4]
        have hl9 : lv_has ls 6 [(0, .ref (gad Γ 483)), (1, .int (nI k)), (2, .int (fX7_du_A4  (upd (fX7_raise_P (fX7_dry_P (fX7_copyPage_P N (fX7_dus_L N V k) 0 0))) ((12 + 7 * k) + 3) 0) ((N 1).toNatClampNeg))), (3, .int (nI (k + 1)))] := lv_sub hl [3, 2, 1, 0] rfl
        exact ih_k _ _ _ ⟨g_st (mS_c rfl rfl rfl rfl rfl rfl rfl rfl) hG, hS, (by rw [e_1, e_2]; exact hl9)⟩
      · --F
        refine lv_iload hx hb dX7_dustiest_101 (lv_at hl 4 rfl) ?_
        refine lv_iload_n hx hb dX7_dustiest_103 rfl (lv_at hl 2 rfl) ?_
        refine lv_icmp_ge (tgt := 111) hx hb dX7_dustiest_104 (by decide) (fun c_6 => ?_) (fun c_6 => ?_)
        · --T
          refine lv_iload_n hx hb dX7_dustiest_111 rfl (lv_at hl 1 rfl) ?_
          refine lv_istore_n (lv' := [(1, .int ((fX7_dus_A N V k).1)), (0, .ref (gad Γ 483)), (2, .int ((fX7_dus_A N V k).2)), (3, .int (nI k)), (4, .int (fX7_du_A4  (upd (fX7_raise_P (fX7_dry_P (fX7_copyPage_P N (fX7_dus_L N V k) 0 0))) ((12 + 7 * k) + 3) 0) ((N 1).toNatClampNeg))), (5, .int (nI ((N 1).toNatClampNeg)))]) hx hb dX7_dustiest_112 rfl hl (by decide) rfl (fun ls hl => ?_)
          refine lv_iload_n hx hb dX7_dustiest_113 rfl (lv_at hl 3 rfl) ?_
          refine lv_if_eq (tgt := 123) hx hb dX7_dustiest_114 (by decide) (fun c_7 => absurd c_7 c_4) (fun c_7 => ?_)
          refine lv_iload hx hb dX7_dustiest_117 (lv_at hl 4 rfl) ?_
          refine lv_iload_n hx hb dX7_dustiest_119 rfl (lv_at hl 2 rfl) ?_
          refine lv_icmp_ge (tgt := 128) hx hb dX7_dustiest_120 (by decide) (fun c_8 => ?_) (fun c_8 => absurd c_6 c_8)
          refine lv_iload_n hx hb dX7_dustiest_128 rfl (lv_at hl 2 rfl) ?_
          refine lv_istore_n (lv' := [(2, .int ((fX7_dus_A N V k).2)), (1, .int ((fX7_dus_A N V k).1)), (0, .ref (gad Γ 483)), (3, .int (nI k)), (4, .int (fX7_du_A4  (upd (fX7_raise_P (fX7_dry_P (fX7_copyPage_P N (fX7_dus_L N V k) 0 0))) ((12 + 7 * k) + 3) 0) ((N 1).toNatClampNeg))), (5, .int (nI ((N 1).toNatClampNeg)))]) hx hb dX7_dustiest_129 rfl hl (by decide) rfl (fun ls hl => ?_)
          refine lv_iinc (v := nI (k + 1)) (lv' := [(3, .int (nI (k + 1))), (2, .int ((fX7_dus_A N V k).2)), (1, .int ((fX7_dus_A N V k).1)), (0, .ref (gad Γ 483)), (4, .int (fX7_du_A4  (upd (fX7_raise_P (fX7_dry_P (fX7_copyPage_P N (fX7_dus_L N V k) 0 0))) ((12 + 7 * k) + 3) 0) ((N 1).toNatClampNeg))), (5, .int (nI ((N 1).toNatClampNeg)))]) hx hb dX7_dustiest_130 hl (k := 3) rfl (nI_1 _) (by decide) rfl (fun ls hl => ?_)
          refine lv_goto (tgt := 11) hx hb dX7_dustiest_133 (by decide) ?_
          have e_1 : (fX7_dus_A N V (k + 1)).1 = (fX7_dus_A N V k).1 := by
            show fX7_dus_T1 N (fX7_dus_L N V k) k ((fX7_dus_A N V k).1) ((fX7_dus_A N V k).2) = _
            unfold fX7_dus_T1
            rw [if_neg c_4, if_pos c_6]
          have e_2 : (fX7_dus_A N V (k + 1)).2 = (fX7_dus_A N V k).2 := by
            show fX7_dus_T2 N (fX7_dus_L N V k) k ((fX7_dus_A N V k).1) ((fX7_dus_A N V k).2) = _
            unfold fX7_dus_T2
            rw [if_neg c_4, if_pos c_6]
          have hl9 : lv_has ls 6 [(0, .ref (gad Γ 483)), (1, .int ((fX7_dus_A N V k).1)), (2, .int ((fX7_dus_A N V k).2)), (3, .int (nI (k + 1)))] := lv_sub hl [3, 2, 1, 0] rfl
          exact ih_k _ _ _ ⟨g_st (mS_c rfl rfl rfl rfl rfl rfl rfl rfl) hG, hS, (by rw [e_1, e_2]; exact hl9)⟩
        · --F
          refine lv_iload_n hx hb dX7_dustiest_107 rfl (lv_at hl 3 rfl) ?_
          refine lv_goto (tgt := 112) hx hb dX7_dustiest_108 (by decide) ?_
          refine lv_istore_n (lv' := [(1, .int (nI k)), (0, .ref (gad Γ 483)), (2, .int ((fX7_dus_A N V k).2)), (3, .int (nI k)), (4, .int (fX7_du_A4  (upd (fX7_raise_P (fX7_dry_P (fX7_copyPage_P N (fX7_dus_L N V k) 0 0))) ((12 + 7 * k) + 3) 0) ((N 1).toNatClampNeg))), (5, .int (nI ((N 1).toNatClampNeg)))]) hx hb dX7_dustiest_112 rfl hl (by decide) rfl (fun ls hl => ?_)
          refine lv_iload_n hx hb dX7_dustiest_113 rfl (lv_at hl 3 rfl) ?_
          refine lv_if_eq (tgt := 123) hx hb dX7_dustiest_114 (by decide) (fun c_9 => absurd c_9 c_4) (fun c_9 => ?_)
          refine lv_iload hx hb dX7_dustiest_117 (lv_at hl 4 rfl) ?_
          refine lv_iload_n hx hb dX7_dustiest_119 rfl (lv_at hl 2 rfl) ?_
          refine lv_icmp_ge (tgt := 128) hx hb dX7_dustiest_120 (by decide) (fun c_10 => absurd c_10 c_6) (fun c_10 => ?_)
          refine lv_iload hx hb dX7_dustiest_123 (lv_at hl 4 rfl) ?_
          refine lv_goto (tgt := 129) hx hb dX7_dustiest_125 (by decide) ?_
          refine lv_istore_n (lv' := [(2, .int (fX7_du_A4  (upd (fX7_raise_P (fX7_dry_P (fX7_copyPage_P N (fX7_dus_L N V k) 0 0))) ((12 + 7 * k) + 3) 0) ((N 1).toNatClampNeg))), (1, .int (nI k)), (0, .ref (gad Γ 483)), (3, .int (nI k)), (4, .int (fX7_du_A4  (upd (fX7_raise_P (fX7_dry_P (fX7_copyPage_P N (fX7_dus_L N V k) 0 0))) ((12 + 7 * k) + 3) 0) ((N 1).toNatClampNeg))), (5, .int (nI ((N 1).toNatClampNeg)))]) hx hb dX7_dustiest_129 rfl hl (by decide) rfl (fun ls hl => ?_)
          refine lv_iinc (v := nI (k + 1)) (lv' := [(3, .int (nI (k + 1))), (2, .int (fX7_du_A4  (upd (fX7_raise_P (fX7_dry_P (fX7_copyPage_P N (fX7_dus_L N V k) 0 0))) ((12 + 7 * k) + 3) 0) ((N 1).toNatClampNeg))), (1, .int (nI k)), (0, .ref (gad Γ 483)), (4, .int (fX7_du_A4  (upd (fX7_raise_P (fX7_dry_P (fX7_copyPage_P N (fX7_dus_L N V k) 0 0))) ((12 + 7 * k) + 3) 0) ((N 1).toNatClampNeg))), (5, .int (nI ((N 1).toNatClampNeg)))]) hx hb dX7_dustiest_130 hl (k := 3) rfl (nI_1 _) (by decide) rfl (fun ls hl => ?_)
          refine lv_goto (tgt := 11) hx hb dX7_dustiest_133 (by decide) ?_
          have e_1 : (fX7_dus_A N V (k + 1)).1 = nI k := by
            show fX7_dus_T1 N (fX7_dus_L N V k) k ((fX7_dus_A N V k).1) ((fX7_dus_A N V k).2) = _
            unfold fX7_dus_T1
            rw [if_neg c_4, if_neg c_6]
          have e_2 : (fX7_dus_A N V (k + 1)).2 = fX7_du_A4  (upd (fX7_raise_P (fX7_dry_P (fX7_copyPage_P N (fX7_dus_L N V k) 0 0))) ((12 + 7 * k) + 3) 0) ((N 1).toNatClampNeg) := by
            show fX7_dus_T2 N (fX7_dus_L N V k) k ((fX7_dus_A N V k).1) ((fX7_dus_A N V k).2) = _
            unfold fX7_dus_T2
            rw [if_neg c_4, if_neg c_6]
          have hl9 : lv_has ls 6 [(0, .ref (gad Γ 483)), (1, .int (nI k)), (2, .int (fX7_du_A4  (upd (fX7_raise_P (fX7_dry_P (fX7_copyPage_P N (fX7_dus_L N V k) 0 0))) ((12 + 7 * k) + 3) 0) ((N 1).toNatClampNeg))), (3, .int (nI (k + 1)))] := lv_sub hl [3, 2, 1, 0] rfl
          exact ih_k _ _ _ ⟨g_st (mS_c rfl rfl rfl rfl rfl rfl rfl rfl) hG, hS, (by rw [e_1, e_2]; exact hl9)⟩
    · rintro j hk_j ih_j H locs ls ⟨hG, hS, hl⟩
      refine lv_iload hx hb dX7_dustiest_66 (lv_at hl 5 rfl) ?_
      refine lv_aload_n hx hb dX7_dustiest_68 rfl (lv_at hl 0 rfl) ?_
      refine gM_getr hx hb hts in_X7 hown hK hL hG 5 (by decide) rfl hL.2.2.2.1 k_3 (fun _ h => h) dX7_dustiest_69 ?_
      refine lv_iconst (v := 1) hx hb dX7_dustiest_72 (by decide) ?_
      refine gm_ald hx hb hK hG (hL.1 486 (by decide) (by decide)) (show gC 486 = (9, 27, 0) from rfl) (show gLen 486 = 131 from rfl) (by decide) (j := 1) rfl (by omega) (v := N 1) (mS_a27 _ _ _ _ _ _ _ _ _ _) dX7_dustiest_73 ?_
      refine lv_icmp_ge (tgt := 97) hx hb dX7_dustiest_74 (by decide) (fun c_11 => absurd c_11 (cl_ge hk_j)) (fun c_11 => ?_)
      refine lv_iload hx hb dX7_dustiest_77 (lv_at hl 4 rfl) ?_
      refine lv_aload_n hx hb dX7_dustiest_79 rfl (lv_at hl 0 rfl) ?_
      refine gM_getr hx hb hts in_X7 hown hK hL hG 6 (by decide) rfl hL.2.2.2.2.1 k_4 (fun _ h => h) dX7_dustiest_80 ?_
      refine lv_iload hx hb dX7_dustiest_83 (lv_at hl 5 rfl) ?_
      refine g_callS (As := [.ref (gad Γ 487), .int (nI j)]) (rest := [.int (fX7_du_A4  (upd (fX7_raise_P (fX7_dry_P (fX7_copyPage_P N (fX7_dus_L N V k) 0 0))) ((12 + 7 * k) + 3) 0) j)]) (st1 := [.int (fX7_gets_v (upd (fX7_raise_P (fX7_dry_P (fX7_copyPage_P N (fX7_dus_L N V k) 0 0))) ((12 + 7 * k) + 3) 0) j), .int (fX7_du_A4  (upd (fX7_raise_P (fX7_dry_P (fX7_copyPage_P N (fX7_dus_L N V k) 0 0))) ((12 + 7 * k) + 3) 0) j)]) hF (mX7_gets (mS M (upd A 0 0) T D N (upd (fX7_raise_P (fX7_dry_P (fX7_copyPage_P N (fX7_dus_L N V k) 0 0))) ((12 + 7 * k) + 3) 0) I K B) R O (hL.1 487 (by decide) (by decide)) (show gC 487 = (9, 28, 0) from rfl) (show gLen 487 = 131 from rfl) (upd (fX7_raise_P (fX7_dry_P (fX7_copyPage_P N (fX7_dus_L N V k) 0 0))) ((12 + 7 * k) + 3) 0) j rfl (by omega) (WS.up (by unfold kw; omega) (WS_raise (WS_dry (WS_cp hN))))) (va_cwS 2 hts gX7_dustiest_X7_gets rfl rfl rfl (by decide +kernel) ⟨Nat.le_of_ble_eq_true rfl, Nat.le_of_ble_eq_true rfl⟩) hK hZ (g_st (show _ = va_up (mS M (upd A 0 0) T D N (upd (fX7_raise_P (fX7_dry_P (fX7_copyPage_P N (fX7_dus_L N V k) 0 0))) ((12 + 7 * k) + 3) 0) I K B) 28 (upd (fX7_raise_P (fX7_dry_P (fX7_copyPage_P N (fX7_dus_L N V k) 0 0))) ((12 + 7 * k) + 3) 0) from (mS_u28 _ _ _ _ _ _ _ _ _ _).symm) hG) hS rfl hl.1 (Nat.le_of_ble_eq_true rfl) dX7_dustiest_85 ⟨Nat.zero_le _, Nat.zero_le _⟩ rfl rfl (fun H locs hG hS => ?_)
      replace hG : GH Γ (mS M (upd A 0 0) T D N (upd (fX7_raise_P (fX7_dry_P (fX7_copyPage_P N (fX7_dus_L N V k) 0 0))) ((12 + 7 * k) + 3) 0) I K B) R O H := g_st (mS_u28 _ _ _ _ _ _ _ _ _ _) hG
      refine lv_iadd hx hb dX7_dustiest_88 ?_
      refine lv_istore (lv' := [(4, .int ((fX7_du_A4  (upd (fX7_raise_P (fX7_dry_P (fX7_copyPage_P N (fX7_dus_L N V k) 0 0))) ((12 + 7 * k) + 3) 0) j) + (fX7_gets_v (upd (fX7_raise_P (fX7_dry_P (fX7_copyPage_P N (fX7_dus_L N V k) 0 0))) ((12 + 7 * k) + 3) 0) j))), (0, .ref (gad Γ 483)), (1, .int ((fX7_dus_A N V k).1)), (2, .int ((fX7_dus_A N V k).2)), (3, .int (nI k)), (5, .int (nI j))]) hx hb dX7_dustiest_89 hl (by decide) rfl (fun ls hl => ?_)
      refine lv_iinc (v := nI (j + 1)) (lv' := [(5, .int (nI (j + 1))), (4, .int ((fX7_du_A4  (upd (fX7_raise_P (fX7_dry_P (fX7_copyPage_P N (fX7_dus_L N V k) 0 0))) ((12 + 7 * k) + 3) 0) j) + (fX7_gets_v (upd (fX7_raise_P (fX7_dry_P (fX7_copyPage_P N (fX7_dus_L N V k) 0 0))) ((12 + 7 * k) + 3) 0) j))), (0, .ref (gad Γ 483)), (1, .int ((fX7_dus_A N V k).1)), (2, .int ((fX7_dus_A N V k).2)), (3, .int (nI k))]) hx hb dX7_dustiest_91 hl (k := 5) rfl (nI_1 _) (by decide) rfl (fun ls hl => ?_)
      refine lv_goto (tgt := 66) hx hb dX7_dustiest_94 (by decide) ?_
      exact ih_j _ _ _ ⟨hG, hS, lv_sub hl [2, 3, 4, 5, 1, 0] rfl⟩

