/-! THE REFERENCE: an hour. Laid by gen/p08.py. -/
theorem fX7_dry_Lh (P : Nat → Int32) : ∀ k, k ≤ 10 → ∀ j, kw j → fX7_dry_L P k j = P j
  | 0, _, _, _ => rfl
  | k + 1, hk, j, h => by
    have := fX7_dry_Lh P k (by omega) j h
    show fX7_dry_S (fX7_dry_L P k) k j = P j
    rw [← this]
    unfold kw at h
    unfold fX7_dry_S
    (repeat' split) <;> rw [upd_nw _ _ (by omega)]
theorem fX7_raise_Lh (P : Nat → Int32) : ∀ k, k ≤ 10 → ∀ j, kw j → fX7_raise_L P k j = P j
  | 0, _, _, _ => rfl
  | k + 1, hk, j, h => by
    have := fX7_raise_Lh P k (by omega) j h
    show fX7_raise_S (fX7_raise_L P k) k j = P j
    rw [← this]
    unfold kw at h
    unfold fX7_raise_S
    rw [upd_nw _ _ (by omega)]
theorem WS_dry {P : Nat → Int32} (hW : WS P) : WS (fX7_dry_P P) := hW.of (fX7_dry_Lh P _ hW.1.2)
theorem WS_raise {P : Nat → Int32} (hW : WS P) : WS (fX7_raise_P P) := hW.of (fX7_raise_Lh P _ hW.1.2)
theorem WS_complain {P : Nat → Int32} {k : Nat} (hk : k < 8) (hW : WS P) : WS (fX7_complain_P P k) := by
  have h2 := (hW.2.2.2.1 k hk).2.1
  refine hW.of (fun j h => ?_)
  unfold kw at h
  unfold fX7_complain_P
  (repeat' split) <;> (repeat rw [upd_nw _ _ (by omega)])
def fX7_hourW_S  (Pk : Nat → Int32) (k : Nat) : Nat → Int32 := upd Pk ((122 + 3 * k) + 2) 4
def fX7_hourW_L  (P : Nat → Int32) : Nat → Nat → Int32
  | 0 => P
  | k + 1 => fX7_hourW_S  (fX7_hourW_L  P k) k
theorem fX7_hourW_L8 (P : Nat → Int32) : ∀ k, k ≤ 3 → ∀ j, (kw j ∨ j < 12) → fX7_hourW_L P k j = P j
  | 0, _, _, _ => rfl
  | k + 1, hk, j, h => by
    have := fX7_hourW_L8 P k (by omega) j h
    show fX7_hourW_S (fX7_hourW_L P k) k j = P j
    rw [← this]
    unfold kw at h
    unfold fX7_hourW_S
    rw [upd_nw _ _ (by omega)]
def fX7_hourS_S  (Pk : Nat → Int32) (k : Nat) : Nat → Int32 := upd Pk ((12 + 7 * k) + 3) (((Pk ((12 + 7 * k) + 3)) * 3) / 4)
def fX7_hourS_L  (P : Nat → Int32) : Nat → Nat → Int32
  | 0 => P
  | k + 1 => fX7_hourS_S  (fX7_hourS_L  P k) k
theorem fX7_hourS_L8 (P : Nat → Int32) : ∀ k, k ≤ 10 → ∀ j, (kw j ∨ j < 12) → fX7_hourS_L P k j = P j
  | 0, _, _, _ => rfl
  | k + 1, hk, j, h => by
    have := fX7_hourS_L8 P k (by omega) j h
    show fX7_hourS_S (fX7_hourS_L P k) k j = P j
    rw [← this]
    unfold kw at h
    unfold fX7_hourS_S
    rw [upd_nw _ _ (by omega)]
def fX7_hourH_S  (Pk : Nat → Int32) (k : Nat) : Nat → Int32 := if (fX7_gets_v Pk k) < ((upd (upd Pk ((82 + 5 * k) + 4) (fX7_gets_v Pk k)) ((82 + 5 * k) + 2) (((upd Pk ((82 + 5 * k) + 4) (fX7_gets_v Pk k)) ((82 + 5 * k) + 2)) + (fX7_gets_v Pk k))) 7) then upd (upd Pk ((82 + 5 * k) + 4) (fX7_gets_v Pk k)) ((82 + 5 * k) + 2) (((upd Pk ((82 + 5 * k) + 4) (fX7_gets_v Pk k)) ((82 + 5 * k) + 2)) + (fX7_gets_v Pk k)) else fX7_complain_P (upd (upd Pk ((82 + 5 * k) + 4) (fX7_gets_v Pk k)) ((82 + 5 * k) + 2) (((upd Pk ((82 + 5 * k) + 4) (fX7_gets_v Pk k)) ((82 + 5 * k) + 2)) + (fX7_gets_v Pk k))) k
def fX7_hourH_L  (P : Nat → Int32) : Nat → Nat → Int32
  | 0 => P
  | k + 1 => fX7_hourH_S  (fX7_hourH_L  P k) k
theorem fX7_hourH_S8 (P : Nat → Int32) (k : Nat) (hk : k < 8) (hW : WS P) : WS (fX7_hourH_S P k) ∧ fX7_hourH_S P k 1 = P 1 := by
  unfold fX7_hourH_S
  split
  · exact ⟨WS.up (by unfold kw; omega) (WS.up (by unfold kw; omega) hW), by rw [upd_nw _ _ (by omega), upd_nw _ _ (by omega)]⟩
  · refine ⟨WS_complain hk (WS.up (by unfold kw; omega) (WS.up (by unfold kw; omega) hW)), ?_⟩
    unfold fX7_complain_P
    (repeat' split) <;> (repeat rw [upd_nw _ _ (by omega)])
theorem fX7_hourH_L8 {P : Nat → Int32} (hW : WS P) : ∀ k, k ≤ 8 → WS (fX7_hourH_L P k) ∧ fX7_hourH_L P k 1 = P 1
  | 0, _ => ⟨hW, rfl⟩
  | k + 1, hk => by
    obtain ⟨a, b⟩ := fX7_hourH_L8 hW k (by omega)
    obtain ⟨a', b'⟩ := fX7_hourH_S8 _ k (by omega) a
    exact ⟨a', b'.trans b⟩
def fX7_hourOn_P (P : Nat → Int32) : Nat → Int32 := if ((upd (fX7_hourS_L  (fX7_hourH_L  (fX7_raise_P (fX7_dry_P P)) ((fX7_raise_P (fX7_dry_P P) 1).toNatClampNeg)) (((fX7_hourH_L  (fX7_raise_P (fX7_dry_P P)) ((fX7_raise_P (fX7_dry_P P) 1).toNatClampNeg)) 0).toNatClampNeg)) 4 (((fX7_hourS_L  (fX7_hourH_L  (fX7_raise_P (fX7_dry_P P)) ((fX7_raise_P (fX7_dry_P P) 1).toNatClampNeg)) (((fX7_hourH_L  (fX7_raise_P (fX7_dry_P P)) ((fX7_raise_P (fX7_dry_P P) 1).toNatClampNeg)) 0).toNatClampNeg)) 4) + 1)) 4) = 10 then fX7_hourW_L  (upd (upd (upd (upd (fX7_hourS_L  (fX7_hourH_L  (fX7_raise_P (fX7_dry_P P)) ((fX7_raise_P (fX7_dry_P P) 1).toNatClampNeg)) (((fX7_hourH_L  (fX7_raise_P (fX7_dry_P P)) ((fX7_raise_P (fX7_dry_P P) 1).toNatClampNeg)) 0).toNatClampNeg)) 4 (((fX7_hourS_L  (fX7_hourH_L  (fX7_raise_P (fX7_dry_P P)) ((fX7_raise_P (fX7_dry_P P) 1).toNatClampNeg)) (((fX7_hourH_L  (fX7_raise_P (fX7_dry_P P)) ((fX7_raise_P (fX7_dry_P P) 1).toNatClampNeg)) 0).toNatClampNeg)) 4) + 1)) 4 0) 3 (((upd (upd (fX7_hourS_L  (fX7_hourH_L  (fX7_raise_P (fX7_dry_P P)) ((fX7_raise_P (fX7_dry_P P) 1).toNatClampNeg)) (((fX7_hourH_L  (fX7_raise_P (fX7_dry_P P)) ((fX7_raise_P (fX7_dry_P P) 1).toNatClampNeg)) 0).toNatClampNeg)) 4 (((fX7_hourS_L  (fX7_hourH_L  (fX7_raise_P (fX7_dry_P P)) ((fX7_raise_P (fX7_dry_P P) 1).toNatClampNeg)) (((fX7_hourH_L  (fX7_raise_P (fX7_dry_P P)) ((fX7_raise_P (fX7_dry_P P) 1).toNatClampNeg)) 0).toNatClampNeg)) 4) + 1)) 4 0) 3) + 1)) 9 0) (((upd (upd (upd (upd (fX7_hourS_L  (fX7_hourH_L  (fX7_raise_P (fX7_dry_P P)) ((fX7_raise_P (fX7_dry_P P) 1).toNatClampNeg)) (((fX7_hourH_L  (fX7_raise_P (fX7_dry_P P)) ((fX7_raise_P (fX7_dry_P P) 1).toNatClampNeg)) 0).toNatClampNeg)) 4 (((fX7_hourS_L  (fX7_hourH_L  (fX7_raise_P (fX7_dry_P P)) ((fX7_raise_P (fX7_dry_P P) 1).toNatClampNeg)) (((fX7_hourH_L  (fX7_raise_P (fX7_dry_P P)) ((fX7_raise_P (fX7_dry_P P) 1).toNatClampNeg)) 0).toNatClampNeg)) 4) + 1)) 4 0) 3 (((upd (upd (fX7_hourS_L  (fX7_hourH_L  (fX7_raise_P (fX7_dry_P P)) ((fX7_raise_P (fX7_dry_P P) 1).toNatClampNeg)) (((fX7_hourH_L  (fX7_raise_P (fX7_dry_P P)) ((fX7_raise_P (fX7_dry_P P) 1).toNatClampNeg)) 0).toNatClampNeg)) 4 (((fX7_hourS_L  (fX7_hourH_L  (fX7_raise_P (fX7_dry_P P)) ((fX7_raise_P (fX7_dry_P P) 1).toNatClampNeg)) (((fX7_hourH_L  (fX7_raise_P (fX7_dry_P P)) ((fX7_raise_P (fX7_dry_P P) 1).toNatClampNeg)) 0).toNatClampNeg)) 4) + 1)) 4 0) 3) + 1)) 9 0) 2).toNatClampNeg) else fX7_hourW_L  (upd (fX7_hourS_L  (fX7_hourH_L  (fX7_raise_P (fX7_dry_P P)) ((fX7_raise_P (fX7_dry_P P) 1).toNatClampNeg)) (((fX7_hourH_L  (fX7_raise_P (fX7_dry_P P)) ((fX7_raise_P (fX7_dry_P P) 1).toNatClampNeg)) 0).toNatClampNeg)) 4 (((fX7_hourS_L  (fX7_hourH_L  (fX7_raise_P (fX7_dry_P P)) ((fX7_raise_P (fX7_dry_P P) 1).toNatClampNeg)) (((fX7_hourH_L  (fX7_raise_P (fX7_dry_P P)) ((fX7_raise_P (fX7_dry_P P) 1).toNatClampNeg)) 0).toNatClampNeg)) 4) + 1)) (((upd (fX7_hourS_L  (fX7_hourH_L  (fX7_raise_P (fX7_dry_P P)) ((fX7_raise_P (fX7_dry_P P) 1).toNatClampNeg)) (((fX7_hourH_L  (fX7_raise_P (fX7_dry_P P)) ((fX7_raise_P (fX7_dry_P P) 1).toNatClampNeg)) 0).toNatClampNeg)) 4 (((fX7_hourS_L  (fX7_hourH_L  (fX7_raise_P (fX7_dry_P P)) ((fX7_raise_P (fX7_dry_P P) 1).toNatClampNeg)) (((fX7_hourH_L  (fX7_raise_P (fX7_dry_P P)) ((fX7_raise_P (fX7_dry_P P) 1).toNatClampNeg)) 0).toNatClampNeg)) 4) + 1)) 2).toNatClampNeg)
set_option maxHeartbeats 4000000 in
set_option maxRecDepth 100000 in
theorem mX7_hourOn {l : Launch} {Γ : gX} (M : Nat → Nat → Int32) (R : Nat → Nat → Option Nat) (O : Int64) {c0 b : Nat} (hc : c0 ∈ gcs Γ) (hC : gC c0 = (9, b, 0)) (hn : gLen c0 = 131) (P : Nat → Int32) (hW : WS P) : gMet l Γ yX7_hourOn wsX7_hourOn 4 89 [.ref (gad Γ c0)] (va_up M b P) R O none (va_up M b (fX7_hourOn_P P)) R O := by
  refine g_start (cc := cX7_hourOn) (maxL := 3) (ret := none) (by decide) rfl (Nat.le_of_ble_eq_true rfl) ?_
  intro p e s m below meth c ls hx hb hml hrt hts hown hlocks hname hK hZ hG hS hl
  have hl : lv_has ls 3 [(0, .ref (gad Γ c0))] := hl
  have hown : s.vm.findClass RX7 = some m.cls := hown
  have hF : CallFix p m c cX7_hourOn 3 s _ wsX7_hourOn RX7 := ⟨hx, hb, hml, hown, hts⟩
  have w0 := hW.1.2
  have w1 := hW.2.1.2
  have w2 := hW.2.2.1.2
  have wD := (WS_raise (WS_dry hW))
  have wD8 := wD.2.1.2
  refine lv_aload_n hx hb dX7_hourOn_0 rfl (lv_at hl 0 rfl) ?_
  refine g_callS (As := [.ref (gad Γ c0)]) (rest := []) (st1 := []) hF (mX7_dry M R O hc hC hn P (hW).1.2) (va_cwS 1 hts gX7_hourOn_X7_dry rfl rfl rfl (by decide +kernel) ⟨Nat.le_of_ble_eq_true rfl, Nat.le_of_ble_eq_true rfl⟩) hK hZ hG hS rfl hl.1 (Nat.le_of_ble_eq_true rfl) dX7_hourOn_1 ⟨Nat.zero_le _, Nat.zero_le _⟩ rfl rfl (fun H locs hG hS => ?_)
  refine lv_aload_n hx hb dX7_hourOn_4 rfl (lv_at hl 0 rfl) ?_
  refine g_callS (As := [.ref (gad Γ c0)]) (rest := []) (st1 := []) hF (mX7_raise M R O hc hC hn (fX7_dry_P P) ((WS_dry hW)).1.2) (va_cwS 1 hts gX7_hourOn_X7_raise rfl rfl rfl (by decide +kernel) ⟨Nat.le_of_ble_eq_true rfl, Nat.le_of_ble_eq_true rfl⟩) hK hZ hG hS rfl hl.1 (Nat.le_of_ble_eq_true rfl) dX7_hourOn_5 ⟨Nat.zero_le _, Nat.zero_le _⟩ rfl rfl (fun H locs hG hS => ?_)
  refine lv_iconst (v := 0) hx hb dX7_hourOn_8 (by decide) ?_
  refine lv_istore_n (lv' := [(1, .int 0), (0, .ref (gad Γ c0))]) hx hb dX7_hourOn_9 rfl hl (by decide) rfl (fun ls hl => ?_)
  refine g_loop (N := (fX7_raise_P (fX7_dry_P P) 1).toNatClampNeg) (fun k H locs ls => GH Γ (va_up M b (fX7_hourH_L  (fX7_raise_P (fX7_dry_P P)) k)) R O H ∧ va_S (gA Γ) s.heap H locs ∧ lv_has ls 3 [(0, .ref (gad Γ c0)), (1, .int (nI k))]) ?_ ?_ 0 (Nat.zero_le _) _ _ _ ⟨hG, hS, lv_sub hl [1, 0] rfl⟩
  · rintro H locs ls ⟨hG, hS, hl⟩
    refine lv_iload_n hx hb dX7_hourOn_10 rfl (lv_at hl 1 rfl) ?_
    refine lv_aload_n hx hb dX7_hourOn_11 rfl (lv_at hl 0 rfl) ?_
    refine lv_iconst (v := 1) hx hb dX7_hourOn_12 (by decide) ?_
    refine ga_ald hx hb hK hG hc hC hn (by decide) (j := 1) rfl (by omega) dX7_hourOn_13 ?_
    refine lv_icmp_ge (tgt := 63) hx hb dX7_hourOn_14 (by decide) (fun c_1 => ?_) (fun c_1 => absurd (by rw [(fX7_hourH_L8 wD _ wD8).2]; exact cl_le _) c_1)
    have wH := (fX7_hourH_L8 wD _ wD8).1
    have w3 := wH.1.2
    refine lv_iconst (v := 0) hx hb dX7_hourOn_63 (by decide) ?_
    refine lv_istore_n (lv' := [(1, .int 0), (0, .ref (gad Γ c0))]) hx hb dX7_hourOn_64 rfl hl (by decide) rfl (fun ls hl => ?_)
    refine g_loop (N := ((fX7_hourH_L  (fX7_raise_P (fX7_dry_P P)) ((fX7_raise_P (fX7_dry_P P) 1).toNatClampNeg)) 0).toNatClampNeg) (fun k H locs ls => GH Γ (va_up M b (fX7_hourS_L  (fX7_hourH_L  (fX7_raise_P (fX7_dry_P P)) ((fX7_raise_P (fX7_dry_P P) 1).toNatClampNeg)) k)) R O H ∧ va_S (gA Γ) s.heap H locs ∧ lv_has ls 3 [(0, .ref (gad Γ c0)), (1, .int (nI k))]) ?_ ?_ 0 (Nat.zero_le _) _ _ _ ⟨hG, hS, lv_sub hl [1, 0] rfl⟩
    · rintro H locs ls ⟨hG, hS, hl⟩
      refine lv_iload_n hx hb dX7_hourOn_65 rfl (lv_at hl 1 rfl) ?_
      refine lv_aload_n hx hb dX7_hourOn_66 rfl (lv_at hl 0 rfl) ?_
      refine lv_iconst (v := 0) hx hb dX7_hourOn_67 (by decide) ?_
      refine ga_ald hx hb hK hG hc hC hn (by decide) (j := 0) rfl (by omega) dX7_hourOn_68 ?_
      refine lv_icmp_ge (tgt := 98) hx hb dX7_hourOn_69 (by decide) (fun c_2 => ?_) (fun c_2 => absurd (by rw [fX7_hourS_L8 _ _ w3 0 (Or.inr (by decide))]; exact cl_le _) c_2)
      refine lv_aload_n hx hb dX7_hourOn_98 rfl (lv_at hl 0 rfl) ?_
      refine lv_iconst (v := 4) hx hb dX7_hourOn_99 (by decide) ?_
      refine lv_dup2_11 hx hb dX7_hourOn_100 rfl rfl ?_
      refine ga_ald hx hb hK hG hc hC hn (by decide) (j := 4) rfl (by omega) dX7_hourOn_101 ?_
      refine lv_iconst (v := 1) hx hb dX7_hourOn_102 (by decide) ?_
      refine lv_iadd hx hb dX7_hourOn_103 ?_
      refine ga_ast hx hb hK hG hS hc hC hn (by decide) (j := 4) rfl (by omega) dX7_hourOn_104 (fun H locs hG hS => ?_)
      refine lv_aload_n hx hb dX7_hourOn_105 rfl (lv_at hl 0 rfl) ?_
      refine lv_iconst (v := 4) hx hb dX7_hourOn_106 (by decide) ?_
      refine ga_ald hx hb hK hG hc hC hn (by decide) (j := 4) rfl (by omega) dX7_hourOn_107 ?_
      refine lv_bipush (v := 10) hx hb dX7_hourOn_108 (by decide) ?_
      refine lv_icmp_ne (tgt := 129) hx hb dX7_hourOn_110 (by decide) (fun c_3 => ?_) (fun c_3 => ?_)
      · --T
        have wC : WS (upd (fX7_hourS_L  (fX7_hourH_L  (fX7_raise_P (fX7_dry_P P)) ((fX7_raise_P (fX7_dry_P P) 1).toNatClampNeg)) (((fX7_hourH_L  (fX7_raise_P (fX7_dry_P P)) ((fX7_raise_P (fX7_dry_P P) 1).toNatClampNeg)) 0).toNatClampNeg)) 4 (((fX7_hourS_L  (fX7_hourH_L  (fX7_raise_P (fX7_dry_P P)) ((fX7_raise_P (fX7_dry_P P) 1).toNatClampNeg)) (((fX7_hourH_L  (fX7_raise_P (fX7_dry_P P)) ((fX7_raise_P (fX7_dry_P P) 1).toNatClampNeg)) 0).toNatClampNeg)) 4) + 1)) := (WS.up (by unfold kw; omega) (wH.of (fun j h => fX7_hourS_L8 _ _ w3 j (Or.inl h))))
        have w4 := wC.2.2.1.2
        refine lv_iconst (v := 0) hx hb dX7_hourOn_129 (by decide) ?_
        refine lv_istore_n (lv' := [(1, .int 0), (0, .ref (gad Γ c0))]) hx hb dX7_hourOn_130 rfl hl (by decide) rfl (fun ls hl => ?_)
        refine g_loop (N := ((upd (fX7_hourS_L  (fX7_hourH_L  (fX7_raise_P (fX7_dry_P P)) ((fX7_raise_P (fX7_dry_P P) 1).toNatClampNeg)) (((fX7_hourH_L  (fX7_raise_P (fX7_dry_P P)) ((fX7_raise_P (fX7_dry_P P) 1).toNatClampNeg)) 0).toNatClampNeg)) 4 (((fX7_hourS_L  (fX7_hourH_L  (fX7_raise_P (fX7_dry_P P)) ((fX7_raise_P (fX7_dry_P P) 1).toNatClampNeg)) (((fX7_hourH_L  (fX7_raise_P (fX7_dry_P P)) ((fX7_raise_P (fX7_dry_P P) 1).toNatClampNeg)) 0).toNatClampNeg)) 4) + 1)) 2).toNatClampNeg) (fun k H locs ls => GH Γ (va_up M b (fX7_hourW_L  (upd (fX7_hourS_L  (fX7_hourH_L  (fX7_raise_P (fX7_dry_P P)) ((fX7_raise_P (fX7_dry_P P) 1).toNatClampNeg)) (((fX7_hourH_L  (fX7_raise_P (fX7_dry_P P)) ((fX7_raise_P (fX7_dry_P P) 1).toNatClampNeg)) 0).toNatClampNeg)) 4 (((fX7_hourS_L  (fX7_hourH_L  (fX7_raise_P (fX7_dry_P P)) ((fX7_raise_P (fX7_dry_P P) 1).toNatClampNeg)) (((fX7_hourH_L  (fX7_raise_P (fX7_dry_P P)) ((fX7_raise_P (fX7_dry_P P) 1).toNatClampNeg)) 0).toNatClampNeg)) 4) + 1)) k)) R O H ∧ va_S (gA Γ) s.heap H locs ∧ lv_has ls 3 [(0, .ref (gad Γ c0)), (1, .int (nI k))]) ?_ ?_ 0 (Nat.zero_le _) _ _ _ ⟨hG, hS, lv_sub hl [1, 0] rfl⟩
        · rintro H locs ls ⟨hG, hS, hl⟩
          refine lv_iload_n hx hb dX7_hourOn_131 rfl (lv_at hl 1 rfl) ?_
          refine lv_aload_n hx hb dX7_hourOn_132 rfl (lv_at hl 0 rfl) ?_
          refine lv_iconst (v := 2) hx hb dX7_hourOn_133 (by decide) ?_
          refine ga_ald hx hb hK hG hc hC hn (by decide) (j := 2) rfl (by omega) dX7_hourOn_134 ?_
          refine lv_icmp_ge (tgt := 153) hx hb dX7_hourOn_135 (by decide) (fun c_4 => ?_) (fun c_4 => absurd (by rw [fX7_hourW_L8 _ _ (by assumption) 2 (Or.inr (by decide))]; exact cl_le _) c_4)
          exact g_vret hx hb hrt hlocks hS hG (congrArg (va_up M b) (by unfold fX7_hourOn_P; rw [if_neg c_3])) rfl dX7_hourOn_153
        · rintro k hk_k ih_k H locs ls ⟨hG, hS, hl⟩
          refine lv_iload_n hx hb dX7_hourOn_131 rfl (lv_at hl 1 rfl) ?_
          refine lv_aload_n hx hb dX7_hourOn_132 rfl (lv_at hl 0 rfl) ?_
          refine lv_iconst (v := 2) hx hb dX7_hourOn_133 (by decide) ?_
          refine ga_ald hx hb hK hG hc hC hn (by decide) (j := 2) rfl (by omega) dX7_hourOn_134 ?_
          refine lv_icmp_ge (tgt := 153) hx hb dX7_hourOn_135 (by decide) (fun c_5 => absurd c_5 (by rw [fX7_hourW_L8 _ _ (by omega) 2 (Or.inr (by decide))]; exact cl_ge hk_k)) (fun c_5 => ?_)
          refine lv_aload_n hx hb dX7_hourOn_138 rfl (lv_at hl 0 rfl) ?_
          refine lv_iload_n hx hb dX7_hourOn_139 rfl (lv_at hl 1 rfl) ?_
          refine g_callS (As := [.int (nI k)]) (rest := [.ref (gad Γ c0)]) (st1 := [.int (nI (122 + 3 * k)), .ref (gad Γ c0)]) hF (mX7_wagonAt _ R O k rfl) (va_cwS 1 hts gX7_hourOn_X7_wagonAt rfl rfl rfl (by decide +kernel) ⟨Nat.le_of_ble_eq_true rfl, Nat.le_of_ble_eq_true rfl⟩) hK hZ hG hS rfl hl.1 (Nat.le_of_ble_eq_true rfl) dX7_hourOn_140 ⟨Nat.zero_le _, Nat.zero_le _⟩ rfl rfl (fun H locs hG hS => ?_)
          refine lv_iconst (v := 2) hx hb dX7_hourOn_143 (by decide) ?_
          refine lv_iadd hx hb dX7_hourOn_144 ?_
          refine g_top (show _ = nI ((122 + 3 * k) + 2) from nI_add _ _) ?_
          refine lv_iconst (v := 4) hx hb dX7_hourOn_145 (by decide) ?_
          refine ga_ast hx hb hK hG hS hc hC hn (by decide) (j := (122 + 3 * k) + 2) rfl (by omega) dX7_hourOn_146 (fun H locs hG hS => ?_)
          refine lv_iinc (v := nI (k + 1)) (lv' := [(1, .int (nI (k + 1))), (0, .ref (gad Γ c0))]) hx hb dX7_hourOn_147 hl (k := 1) rfl (nI_1 _) (by decide) rfl (fun ls hl => ?_)
          refine lv_goto (tgt := 131) hx hb dX7_hourOn_150 (by decide) ?_
          exact ih_k _ _ _ ⟨hG, hS, lv_sub hl [1, 0] rfl⟩
      · --F
        refine lv_aload_n hx hb dX7_hourOn_113 rfl (lv_at hl 0 rfl) ?_
        refine lv_iconst (v := 4) hx hb dX7_hourOn_114 (by decide) ?_
        refine lv_iconst (v := 0) hx hb dX7_hourOn_115 (by decide) ?_
        refine ga_ast hx hb hK hG hS hc hC hn (by decide) (j := 4) rfl (by omega) dX7_hourOn_116 (fun H locs hG hS => ?_)
        refine lv_aload_n hx hb dX7_hourOn_117 rfl (lv_at hl 0 rfl) ?_
        refine lv_iconst (v := 3) hx hb dX7_hourOn_118 (by decide) ?_
        refine lv_dup2_11 hx hb dX7_hourOn_119 rfl rfl ?_
        refine ga_ald hx hb hK hG hc hC hn (by decide) (j := 3) rfl (by omega) dX7_hourOn_120 ?_
        refine lv_iconst (v := 1) hx hb dX7_hourOn_121 (by decide) ?_
        refine lv_iadd hx hb dX7_hourOn_122 ?_
        refine ga_ast hx hb hK hG hS hc hC hn (by decide) (j := 3) rfl (by omega) dX7_hourOn_123 (fun H locs hG hS => ?_)
        refine lv_aload_n hx hb dX7_hourOn_124 rfl (lv_at hl 0 rfl) ?_
        refine lv_bipush (v := 9) hx hb dX7_hourOn_125 (by decide) ?_
        refine lv_iconst (v := 0) hx hb dX7_hourOn_127 (by decide) ?_
        refine ga_ast hx hb hK hG hS hc hC hn (by decide) (j := 9) rfl (by omega) dX7_hourOn_128 (fun H locs hG hS => ?_)
        have wC : WS (upd (upd (upd (upd (fX7_hourS_L  (fX7_hourH_L  (fX7_raise_P (fX7_dry_P P)) ((fX7_raise_P (fX7_dry_P P) 1).toNatClampNeg)) (((fX7_hourH_L  (fX7_raise_P (fX7_dry_P P)) ((fX7_raise_P (fX7_dry_P P) 1).toNatClampNeg)) 0).toNatClampNeg)) 4 (((fX7_hourS_L  (fX7_hourH_L  (fX7_raise_P (fX7_dry_P P)) ((fX7_raise_P (fX7_dry_P P) 1).toNatClampNeg)) (((fX7_hourH_L  (fX7_raise_P (fX7_dry_P P)) ((fX7_raise_P (fX7_dry_P P) 1).toNatClampNeg)) 0).toNatClampNeg)) 4) + 1)) 4 0) 3 (((upd (upd (fX7_hourS_L  (fX7_hourH_L  (fX7_raise_P (fX7_dry_P P)) ((fX7_raise_P (fX7_dry_P P) 1).toNatClampNeg)) (((fX7_hourH_L  (fX7_raise_P (fX7_dry_P P)) ((fX7_raise_P (fX7_dry_P P) 1).toNatClampNeg)) 0).toNatClampNeg)) 4 (((fX7_hourS_L  (fX7_hourH_L  (fX7_raise_P (fX7_dry_P P)) ((fX7_raise_P (fX7_dry_P P) 1).toNatClampNeg)) (((fX7_hourH_L  (fX7_raise_P (fX7_dry_P P)) ((fX7_raise_P (fX7_dry_P P) 1).toNatClampNeg)) 0).toNatClampNeg)) 4) + 1)) 4 0) 3) + 1)) 9 0) := (WS.up (by unfold kw; omega) (WS.up (by unfold kw; omega) (WS.up (by unfold kw; omega) (WS.up (by unfold kw; omega) (wH.of (fun j h => fX7_hourS_L8 _ _ w3 j (Or.inl h)))))))
        have w4 := wC.2.2.1.2
        refine lv_iconst (v := 0) hx hb dX7_hourOn_129 (by decide) ?_
        refine lv_istore_n (lv' := [(1, .int 0), (0, .ref (gad Γ c0))]) hx hb dX7_hourOn_130 rfl hl (by decide) rfl (fun ls hl => ?_)
        refine g_loop (N := ((upd (upd (upd (upd (fX7_hourS_L  (fX7_hourH_L  (fX7_raise_P (fX7_dry_P P)) ((fX7_raise_P (fX7_dry_P P) 1).toNatClampNeg)) (((fX7_hourH_L  (fX7_raise_P (fX7_dry_P P)) ((fX7_raise_P (fX7_dry_P P) 1).toNatClampNeg)) 0).toNatClampNeg)) 4 (((fX7_hourS_L  (fX7_hourH_L  (fX7_raise_P (fX7_dry_P P)) ((fX7_raise_P (fX7_dry_P P) 1).toNatClampNeg)) (((fX7_hourH_L  (fX7_raise_P (fX7_dry_P P)) ((fX7_raise_P (fX7_dry_P P) 1).toNatClampNeg)) 0).toNatClampNeg)) 4) + 1)) 4 0) 3 (((upd (upd (fX7_hourS_L  (fX7_hourH_L  (fX7_raise_P (fX7_dry_P P)) ((fX7_raise_P (fX7_dry_P P) 1).toNatClampNeg)) (((fX7_hourH_L  (fX7_raise_P (fX7_dry_P P)) ((fX7_raise_P (fX7_dry_P P) 1).toNatClampNeg)) 0).toNatClampNeg)) 4 (((fX7_hourS_L  (fX7_hourH_L  (fX7_raise_P (fX7_dry_P P)) ((fX7_raise_P (fX7_dry_P P) 1).toNatClampNeg)) (((fX7_hourH_L  (fX7_raise_P (fX7_dry_P P)) ((fX7_raise_P (fX7_dry_P P) 1).toNatClampNeg)) 0).toNatClampNeg)) 4) + 1)) 4 0) 3) + 1)) 9 0) 2).toNatClampNeg) (fun k H locs ls => GH Γ (va_up M b (fX7_hourW_L  (upd (upd (upd (upd (fX7_hourS_L  (fX7_hourH_L  (fX7_raise_P (fX7_dry_P P)) ((fX7_raise_P (fX7_dry_P P) 1).toNatClampNeg)) (((fX7_hourH_L  (fX7_raise_P (fX7_dry_P P)) ((fX7_raise_P (fX7_dry_P P) 1).toNatClampNeg)) 0).toNatClampNeg)) 4 (((fX7_hourS_L  (fX7_hourH_L  (fX7_raise_P (fX7_dry_P P)) ((fX7_raise_P (fX7_dry_P P) 1).toNatClampNeg)) (((fX7_hourH_L  (fX7_raise_P (fX7_dry_P P)) ((fX7_raise_P (fX7_dry_P P) 1).toNatClampNeg)) 0).toNatClampNeg)) 4) + 1)) 4 0) 3 (((upd (upd (fX7_hourS_L  (fX7_hourH_L  (fX7_raise_P (fX7_dry_P P)) ((fX7_raise_P (fX7_dry_P P) 1).toNatClampNeg)) (((fX7_hourH_L  (fX7_raise_P (fX7_dry_P P)) ((fX7_raise_P (fX7_dry_P P) 1).toNatClampNeg)) 0).toNatClampNeg)) 4 (((fX7_hourS_L  (fX7_hourH_L  (fX7_raise_P (fX7_dry_P P)) ((fX7_raise_P (fX7_dry_P P) 1).toNatClampNeg)) (((fX7_hourH_L  (fX7_raise_P (fX7_dry_P P)) ((fX7_raise_P (fX7_dry_P P) 1).toNatClampNeg)) 0).toNatClampNeg)) 4) + 1)) 4 0) 3) + 1)) 9 0) k)) R O H ∧ va_S (gA Γ) s.heap H locs ∧ lv_has ls 3 [(0, .ref (gad Γ c0)), (1, .int (nI k))]) ?_ ?_ 0 (Nat.zero_le _) _ _ _ ⟨hG, hS, lv_sub hl [1, 0] rfl⟩
        · rintro H locs ls ⟨hG, hS, hl⟩
          refine lv_iload_n hx hb dX7_hourOn_131 rfl (lv_at hl 1 rfl) ?_
          refine lv_aload_n hx hb dX7_hourOn_132 rfl (lv_at hl 0 rfl) ?_
          refine lv_iconst (v := 2) hx hb dX7_hourOn_133 (by decide) ?_
          refine ga_ald hx hb hK hG hc hC hn (by decide) (j := 2) rfl (by omega) dX7_hourOn_134 ?_
          refine lv_icmp_ge (tgt := 153) hx hb dX7_hourOn_135 (by decide) (fun c_6 => ?_) (fun c_6 => absurd (by rw [fX7_hourW_L8 _ _ (by assumption) 2 (Or.inr (by decide))]; exact cl_le _) c_6)
          exact g_vret hx hb hrt hlocks hS hG (congrArg (va_up M b) (by unfold fX7_hourOn_P; rw [if_pos c_3])) rfl dX7_hourOn_153
        · rintro k hk_k ih_k H locs ls ⟨hG, hS, hl⟩
          refine lv_iload_n hx hb dX7_hourOn_131 rfl (lv_at hl 1 rfl) ?_
          refine lv_aload_n hx hb dX7_hourOn_132 rfl (lv_at hl 0 rfl) ?_
          refine lv_iconst (v := 2) hx hb dX7_hourOn_133 (by decide) ?_
          refine ga_ald hx hb hK hG hc hC hn (by decide) (j := 2) rfl (by omega) dX7_hourOn_134 ?_
          refine lv_icmp_ge (tgt := 153) hx hb dX7_hourOn_135 (by decide) (fun c_7 => absurd c_7 (by rw [fX7_hourW_L8 _ _ (by omega) 2 (Or.inr (by decide))]; exact cl_ge hk_k)) (fun c_7 => ?_)
          refine lv_aload_n hx hb dX7_hourOn_138 rfl (lv_at hl 0 rfl) ?_
          refine lv_iload_n hx hb dX7_hourOn_139 rfl (lv_at hl 1 rfl) ?_
          refine g_callS (As := [.int (nI k)]) (rest := [.ref (gad Γ c0)]) (st1 := [.int (nI (122 + 3 * k)), .ref (gad Γ c0)]) hF (mX7_wagonAt _ R O k rfl) (va_cwS 1 hts gX7_hourOn_X7_wagonAt rfl rfl rfl (by decide +kernel) ⟨Nat.le_of_ble_eq_true rfl, Nat.le_of_ble_eq_true rfl⟩) hK hZ hG hS rfl hl.1 (Nat.le_of_ble_eq_true rfl) dX7_hourOn_140 ⟨Nat.zero_le _, Nat.zero_le _⟩ rfl rfl (fun H locs hG hS => ?_)
          refine lv_iconst (v := 2) hx hb dX7_hourOn_143 (by decide) ?_
          refine lv_iadd hx hb dX7_hourOn_144 ?_
          refine g_top (show _ = nI ((122 + 3 * k) + 2) from nI_add _ _) ?_
          refine lv_iconst (v := 4) hx hb dX7_hourOn_145 (by decide) ?_
          refine ga_ast hx hb hK hG hS hc hC hn (by decide) (j := (122 + 3 * k) + 2) rfl (by omega) dX7_hourOn_146 (fun H locs hG hS => ?_)
          refine lv_iinc (v := nI (k + 1)) (lv' := [(1, .int (nI (k + 1))), (0, .ref (gad Γ c0))]) hx hb dX7_hourOn_147 hl (k := 1) rfl (nI_1 _) (by decide) rfl (fun ls hl => ?_)
          refine lv_goto (tgt := 131) hx hb dX7_hourOn_150 (by decide) ?_
          exact ih_k _ _ _ ⟨hG, hS, lv_sub hl [1, 0] rfl⟩
    · rintro k hk_k ih_k H locs ls ⟨hG, hS, hl⟩
      refine lv_iload_n hx hb dX7_hourOn_65 rfl (lv_at hl 1 rfl) ?_
      refine lv_aload_n hx hb dX7_hourOn_66 rfl (lv_at hl 0 rfl) ?_
      refine lv_iconst (v := 0) hx hb dX7_hourOn_67 (by decide) ?_
      refine ga_ald hx hb hK hG hc hC hn (by decide) (j := 0) rfl (by omega) dX7_hourOn_68 ?_
      refine lv_icmp_ge (tgt := 98) hx hb dX7_hourOn_69 (by decide) (fun c_8 => absurd c_8 (by rw [fX7_hourS_L8 _ _ (by omega) 0 (Or.inr (by decide))]; exact cl_ge hk_k)) (fun c_8 => ?_)
      refine lv_aload_n hx hb dX7_hourOn_72 rfl (lv_at hl 0 rfl) ?_
      refine lv_iload_n hx hb dX7_hourOn_73 rfl (lv_at hl 1 rfl) ?_
      refine g_callS (As := [.int (nI k)]) (rest := [.ref (gad Γ c0)]) (st1 := [.int (nI (12 + 7 * k)), .ref (gad Γ c0)]) hF (mX7_segmentAt _ R O k rfl) (va_cwS 1 hts gX7_hourOn_X7_segmentAt rfl rfl rfl (by decide +kernel) ⟨Nat.le_of_ble_eq_true rfl, Nat.le_of_ble_eq_true rfl⟩) hK hZ hG hS rfl hl.1 (Nat.le_of_ble_eq_true rfl) dX7_hourOn_74 ⟨Nat.zero_le _, Nat.zero_le _⟩ rfl rfl (fun H locs hG hS => ?_)
      refine lv_iconst (v := 3) hx hb dX7_hourOn_77 (by decide) ?_
      refine lv_iadd hx hb dX7_hourOn_78 ?_
      refine g_top (show _ = nI ((12 + 7 * k) + 3) from nI_add _ _) ?_
      refine lv_aload_n hx hb dX7_hourOn_79 rfl (lv_at hl 0 rfl) ?_
      refine lv_iload_n hx hb dX7_hourOn_80 rfl (lv_at hl 1 rfl) ?_
      refine g_callS (As := [.int (nI k)]) (rest := [.ref (gad Γ c0), .int (nI ((12 + 7 * k) + 3)), .ref (gad Γ c0)]) (st1 := [.int (nI (12 + 7 * k)), .ref (gad Γ c0), .int (nI ((12 + 7 * k) + 3)), .ref (gad Γ c0)]) hF (mX7_segmentAt _ R O k rfl) (va_cwS 1 hts gX7_hourOn_X7_segmentAt rfl rfl rfl (by decide +kernel) ⟨Nat.le_of_ble_eq_true rfl, Nat.le_of_ble_eq_true rfl⟩) hK hZ hG hS rfl hl.1 (Nat.le_of_ble_eq_true rfl) dX7_hourOn_81 ⟨Nat.zero_le _, Nat.zero_le _⟩ rfl rfl (fun H locs hG hS => ?_)
      refine lv_iconst (v := 3) hx hb dX7_hourOn_84 (by decide) ?_
      refine lv_iadd hx hb dX7_hourOn_85 ?_
      refine g_top (show _ = nI ((12 + 7 * k) + 3) from nI_add _ _) ?_
      refine ga_ald hx hb hK hG hc hC hn (by decide) (j := (12 + 7 * k) + 3) rfl (by omega) dX7_hourOn_86 ?_
      refine lv_iconst (v := 3) hx hb dX7_hourOn_87 (by decide) ?_
      refine lv_imul hx hb dX7_hourOn_88 ?_
      refine lv_iconst (v := 4) hx hb dX7_hourOn_89 (by decide) ?_
      refine lv_idiv hx hb dX7_hourOn_90 (by decide) ?_
      refine ga_ast hx hb hK hG hS hc hC hn (by decide) (j := (12 + 7 * k) + 3) rfl (by omega) dX7_hourOn_91 (fun H locs hG hS => ?_)
      refine lv_iinc (v := nI (k + 1)) (lv' := [(1, .int (nI (k + 1))), (0, .ref (gad Γ c0))]) hx hb dX7_hourOn_92 hl (k := 1) rfl (nI_1 _) (by decide) rfl (fun ls hl => ?_)
      refine lv_goto (tgt := 65) hx hb dX7_hourOn_95 (by decide) ?_
      exact ih_k _ _ _ ⟨hG, hS, lv_sub hl [1, 0] rfl⟩
  · rintro k hk_k ih_k H locs ls ⟨hG, hS, hl⟩
    have wk := (fX7_hourH_L8 wD k (by omega)).1
    refine lv_iload_n hx hb dX7_hourOn_10 rfl (lv_at hl 1 rfl) ?_
    refine lv_aload_n hx hb dX7_hourOn_11 rfl (lv_at hl 0 rfl) ?_
    refine lv_iconst (v := 1) hx hb dX7_hourOn_12 (by decide) ?_
    refine ga_ald hx hb hK hG hc hC hn (by decide) (j := 1) rfl (by omega) dX7_hourOn_13 ?_
    refine lv_icmp_ge (tgt := 63) hx hb dX7_hourOn_14 (by decide) (fun c_9 => absurd c_9 (by rw [(fX7_hourH_L8 wD _ (by omega)).2]; exact cl_ge hk_k)) (fun c_9 => ?_)
    refine lv_aload_n hx hb dX7_hourOn_17 rfl (lv_at hl 0 rfl) ?_
    refine lv_iload_n hx hb dX7_hourOn_18 rfl (lv_at hl 1 rfl) ?_
    refine g_callS (As := [.ref (gad Γ c0), .int (nI k)]) (rest := []) (st1 := [.int (fX7_gets_v (fX7_hourH_L  (fX7_raise_P (fX7_dry_P P)) k) k)]) hF (mX7_gets M R O hc hC hn (fX7_hourH_L  (fX7_raise_P (fX7_dry_P P)) k) k rfl (by omega) wk) (va_cwS 2 hts gX7_hourOn_X7_gets rfl rfl rfl (by decide +kernel) ⟨Nat.le_of_ble_eq_true rfl, Nat.le_of_ble_eq_true rfl⟩) hK hZ hG hS rfl hl.1 (Nat.le_of_ble_eq_true rfl) dX7_hourOn_19 ⟨Nat.zero_le _, Nat.zero_le _⟩ rfl rfl (fun H locs hG hS => ?_)
    refine lv_istore_n (lv' := [(2, .int (fX7_gets_v (fX7_hourH_L  (fX7_raise_P (fX7_dry_P P)) k) k)), (0, .ref (gad Γ c0)), (1, .int (nI k))]) hx hb dX7_hourOn_22 rfl hl (by decide) rfl (fun ls hl => ?_)
    refine lv_aload_n hx hb dX7_hourOn_23 rfl (lv_at hl 1 rfl) ?_
    refine lv_iload_n hx hb dX7_hourOn_24 rfl (lv_at hl 2 rfl) ?_
    refine g_callS (As := [.int (nI k)]) (rest := [.ref (gad Γ c0)]) (st1 := [.int (nI (82 + 5 * k)), .ref (gad Γ c0)]) hF (mX7_houseAt _ R O k rfl) (va_cwS 1 hts gX7_hourOn_X7_houseAt rfl rfl rfl (by decide +kernel) ⟨Nat.le_of_ble_eq_true rfl, Nat.le_of_ble_eq_true rfl⟩) hK hZ hG hS rfl hl.1 (Nat.le_of_ble_eq_true rfl) dX7_hourOn_25 ⟨Nat.zero_le _, Nat.zero_le _⟩ rfl rfl (fun H locs hG hS => ?_)
    refine lv_iconst (v := 4) hx hb dX7_hourOn_28 (by decide) ?_
    refine lv_iadd hx hb dX7_hourOn_29 ?_
    refine g_top (show _ = nI ((82 + 5 * k) + 4) from nI_add _ _) ?_
    refine lv_iload_n hx hb dX7_hourOn_30 rfl (lv_at hl 0 rfl) ?_
    refine ga_ast hx hb hK hG hS hc hC hn (by decide) (j := (82 + 5 * k) + 4) rfl (by omega) dX7_hourOn_31 (fun H locs hG hS => ?_)
    refine lv_aload_n hx hb dX7_hourOn_32 rfl (lv_at hl 1 rfl) ?_
    refine lv_iload_n hx hb dX7_hourOn_33 rfl (lv_at hl 2 rfl) ?_
    refine g_callS (As := [.int (nI k)]) (rest := [.ref (gad Γ c0)]) (st1 := [.int (nI (82 + 5 * k)), .ref (gad Γ c0)]) hF (mX7_houseAt _ R O k rfl) (va_cwS 1 hts gX7_hourOn_X7_houseAt rfl rfl rfl (by decide +kernel) ⟨Nat.le_of_ble_eq_true rfl, Nat.le_of_ble_eq_true rfl⟩) hK hZ hG hS rfl hl.1 (Nat.le_of_ble_eq_true rfl) dX7_hourOn_34 ⟨Nat.zero_le _, Nat.zero_le _⟩ rfl rfl (fun H locs hG hS => ?_)
    refine lv_iconst (v := 2) hx hb dX7_hourOn_37 (by decide) ?_
    refine lv_iadd hx hb dX7_hourOn_38 ?_
    refine g_top (show _ = nI ((82 + 5 * k) + 2) from nI_add _ _) ?_
    refine lv_dup2_11 hx hb dX7_hourOn_39 rfl rfl ?_
    refine ga_ald hx hb hK hG hc hC hn (by decide) (j := (82 + 5 * k) + 2) rfl (by omega) dX7_hourOn_40 ?_
    refine lv_iload_n hx hb dX7_hourOn_41 rfl (lv_at hl 0 rfl) ?_
    refine lv_iadd hx hb dX7_hourOn_42 ?_
    refine ga_ast hx hb hK hG hS hc hC hn (by decide) (j := (82 + 5 * k) + 2) rfl (by omega) dX7_hourOn_43 (fun H locs hG hS => ?_)
    refine lv_iload_n hx hb dX7_hourOn_44 rfl (lv_at hl 0 rfl) ?_
    refine lv_aload_n hx hb dX7_hourOn_45 rfl (lv_at hl 1 rfl) ?_
    refine lv_bipush (v := 7) hx hb dX7_hourOn_46 (by decide) ?_
    refine ga_ald hx hb hK hG hc hC hn (by decide) (j := 7) rfl (by omega) dX7_hourOn_48 ?_
    refine lv_icmp_lt (tgt := 57) hx hb dX7_hourOn_49 (by decide) (fun c_10 => ?_) (fun c_10 => ?_)
    · --T
      refine lv_iinc (v := nI (k + 1)) (lv' := [(1, .int (nI (k + 1))), (2, .int (fX7_gets_v (fX7_hourH_L  (fX7_raise_P (fX7_dry_P P)) k) k)), (0, .ref (gad Γ c0))]) hx hb dX7_hourOn_57 hl (k := 2) rfl (nI_1 _) (by decide) rfl (fun ls hl => ?_)
      refine lv_goto (tgt := 10) hx hb dX7_hourOn_60 (by decide) ?_
      exact ih_k _ _ _ ⟨g_st (congrArg (va_up M b) (by show _ = fX7_hourH_S  (fX7_hourH_L  (fX7_raise_P (fX7_dry_P P)) k) k; unfold fX7_hourH_S; rw [if_pos c_10])) hG, hS, lv_sub hl [2, 0] rfl⟩
    · --F
      refine lv_aload_n hx hb dX7_hourOn_52 rfl (lv_at hl 1 rfl) ?_
      refine lv_iload_n hx hb dX7_hourOn_53 rfl (lv_at hl 2 rfl) ?_
      refine g_callS (As := [.ref (gad Γ c0), .int (nI k)]) (rest := []) (st1 := []) hF (mX7_complain M R O hc hC hn (upd (upd (fX7_hourH_L  (fX7_raise_P (fX7_dry_P P)) k) ((82 + 5 * k) + 4) (fX7_gets_v (fX7_hourH_L  (fX7_raise_P (fX7_dry_P P)) k) k)) ((82 + 5 * k) + 2) (((upd (fX7_hourH_L  (fX7_raise_P (fX7_dry_P P)) k) ((82 + 5 * k) + 4) (fX7_gets_v (fX7_hourH_L  (fX7_raise_P (fX7_dry_P P)) k) k)) ((82 + 5 * k) + 2)) + (fX7_gets_v (fX7_hourH_L  (fX7_raise_P (fX7_dry_P P)) k) k))) k rfl (by omega) (WS.up (by unfold kw; omega) (WS.up (by unfold kw; omega) wk))) (va_cwS 2 hts gX7_hourOn_X7_complain rfl rfl rfl (by decide +kernel) ⟨Nat.le_of_ble_eq_true rfl, Nat.le_of_ble_eq_true rfl⟩) hK hZ hG hS rfl hl.1 (Nat.le_of_ble_eq_true rfl) dX7_hourOn_54 ⟨Nat.zero_le _, Nat.zero_le _⟩ rfl rfl (fun H locs hG hS => ?_)
      refine lv_iinc (v := nI (k + 1)) (lv' := [(1, .int (nI (k + 1))), (2, .int (fX7_gets_v (fX7_hourH_L  (fX7_raise_P (fX7_dry_P P)) k) k)), (0, .ref (gad Γ c0))]) hx hb dX7_hourOn_57 hl (k := 2) rfl (nI_1 _) (by decide) rfl (fun ls hl => ?_)
      refine lv_goto (tgt := 10) hx hb dX7_hourOn_60 (by decide) ?_
      exact ih_k _ _ _ ⟨g_st (congrArg (va_up M b) (by show _ = fX7_hourH_S  (fX7_hourH_L  (fX7_raise_P (fX7_dry_P P)) k) k; unfold fX7_hourH_S; rw [if_neg c_10])) hG, hS, lv_sub hl [2, 0] rfl⟩

