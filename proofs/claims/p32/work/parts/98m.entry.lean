/-! THE LAW, from its entry. -/
set_option maxRecDepth 16384
set_option maxHeartbeats 4000000 in
set_option maxRecDepth 100000 in
theorem law_entry {p : Program} {e : Env} {s : State} {m : MethodId} {below : List Frame} {meth : Method} {c : Code} (l : Launch) (hst : l.stackTraces = false) {b L : Nat} {xs : Nat → Int32} (hL : L ≤ 260) (C0 : lw_At p s m meth c b L xs) : W p l e room_1 s m #[Value.ref b] below meth c s.heap [] 0 0 (lw_Z below #[Value.ref b] s) (entryFrame m ([Value.ref b] : List Value).toArray 12) := by
  obtain ⟨hx, hb, hr, hml, hown, hts0, hX, hbl, hlocks, hgv⟩ := C0
  have hb : c.code = cL_law := hb
  have hown : s.vm.findClass RL = some m.cls := hown
  have hts : ∀ w ∈ wsL_law, w.before #[Value.ref b] s = true := fun w h => hts0 w (wsL_law_in w h)
  have hs := flat_of_before _ hgv
  have hF : CallFix p m c cL_law 12 s #[Value.ref b] wsL_law RL := ⟨hx, hb, hml, hown, hts⟩
  have hGX := gx_start hts0 hs
  have hGY := gy_start hs
  have hA := gao_start hts0
  have hGN := gn_start hts0
  obtain ⟨D, hKD⟩ := gk_start hts0
  obtain ⟨Γz, hz⟩ : ∃ Γz : gX, gA Γz = fun q => s.heap.size ≤ q := ⟨(D, fun _ => 0, fun _ => 0, (fun q => s.heap.size ≤ q), []), rfl⟩
  have hZ0 : GZ Γz s s.heap := gz_start hts0 hs hz
  have hl := lv_entry ([.ref b]) (n := 12) (Nat.le_of_ble_eq_true rfl)
  rw [lg_entry_eq]
  generalize (lg_sl ([.ref b]) ++ List.replicate (12 - (lg_sl ([.ref b])).length) Slot.unset).toArray = ls at hl ⊢
  have hl : lv_has ls 12 [(0, .ref b)] := hl
  have hRm : ∀ n, n ≤ 651013 → n ≤ room_1.cells ∧ 6 * n ≤ room_1.slots := fun n h => ⟨h, by show 6 * n ≤ 7148430; omega⟩
  refine l_make (X := 0) hx hb hF hts hown hKD hGN hA hZ0 hz va_S.rf hl.1 (by omega) dL_law_0 dL_law_3 dL_law_4 (fun Γ1 H2 a1 m1 g1 k1 z1 u1 s1 => ?_)
  refine lv_astore_n (lv' := [(1, .ref (gad Γ1 475)), (0, .ref b)]) hx hb dL_law_7 rfl hl (by decide) rfl (fun ls hl => ?_)
  refine l_make (X := 0 + 520) hx hb hF hts hown hKD hGN hA hZ0 hz s1 hl.1 (by omega) dL_law_8 dL_law_11 dL_law_12 (fun Γp H3 ap mp gp kp1 z2 u2 s2 => ?_)
  refine lv_astore_n (lv' := [(2, .ref (gad Γp 475)), (1, .ref (gad Γ1 475)), (0, .ref b)]) hx hb dL_law_15 rfl hl (by decide) rfl (fun ls hl => ?_)
  have g1' := g1.kept u2
  obtain ⟨Γo, e1, e2⟩ : ∃ Γo : gX, Γo = (Γ1.1, Γ1.2.1, Γ1.2.2.1, (fun q => (s.heap.size ≤ q ∧ q < H2.size) ∨ H3.size ≤ q), Γ1.2.2.2.2) ∧ gad Γo = gad Γ1 := ⟨_, rfl, rfl⟩
  have hAo : gA Γo = fun q => (s.heap.size ≤ q ∧ q < H2.size) ∨ H3.size ≤ q := by rw [e1]; rfl
  have inO : inB Γo (fun q => s.heap.size ≤ q ∧ q < H2.size) := fun c hc => by
    have hc : c ∈ gcs Γ1 := by rw [e1] at hc; exact hc
    have h := g1.addr hc
    rw [a1] at h
    rw [e2]
    exact h
  have inP : inB Γp (fun q => H2.size ≤ q ∧ q < H3.size) := fun c hc => by
    have h := gp.addr hc
    rw [ap] at h
    exact h
  have go : GH Γo (faceM (fun _ _ => 0)) (faceR (fun _ _ => none)) 0 H3 := by
    refine ⟨by rw [e1]; exact g1'.1, ?_⟩
    have dd := g1'.2
    refine ⟨by rw [e1]; exact dd.1, fun k q hk => ?_⟩
    obtain ⟨c, hc, eq⟩ := List.mem_map.mp (List.mem_of_getElem? hk)
    rw [← eq, hAo]
    exact Or.inl (inO c hc)
  have ko1 : GK Γo s := by rw [e1]; exact k1
  have mo : ∀ c, c < 483 → c ∈ gcs Γo := fun c hc => by rw [e1]; exact m1 c hc
  have To : TW Γz Γo s H3.size := ⟨ko1, hZ0, fun q h => by
      rw [hAo] at h
      rw [hz]
      rcases h with h | h
      · exact h.1
      · exact Nat.le_trans (Nat.le_trans z1 z2) h, fun q h => by rw [hAo]; exact Or.inr h, fun q h => by rw [hz] at h; exact h, hGX, hGY⟩
  have Tp : TW Γz Γp s H3.size := ⟨kp1, hZ0, fun q h => by
      rw [ap] at h
      rw [hz]
      exact Nat.le_trans z1 h, fun q h => by rw [ap]; exact Nat.le_trans z2 h, fun q h => by rw [hz] at h; exact h, hGX, hGY⟩
  have kO : ∀ N Hy k w, kp (SH Γp N Hy k w) (gA Γo) := fun N Hy k w => SH.kp inP (fun q h1 h2 => by
    rw [hAo] at h2
    have h1 : H2.size ≤ q ∧ q < H3.size := h1
    omega)
  have kP : ∀ N Hy k w, kp (SH Γo N Hy k w) (gA Γp) := fun N Hy k w => SH.kp inO (fun q h1 h2 => by
    rw [ap] at h2
    have h1 : s.heap.size ≤ q ∧ q < H2.size := h1
    omega)
  have hbz : ¬ gA Γz b := by
    rw [hz]
    omega
  have C : L2C p s m c b L xs Γz Γo Γp H3.size := ⟨hx, hb, hF, hts, hown, To, Tp, kO, kP, hX, hbl, hbz, hL⟩
  replace hl : lv_has ls 12 [(2, .ref (gad Γp 475)), (1, .ref (gad Γo 475)), (0, .ref b)] := by rw [e2]; exact hl
  refine lv_aload_n hx hb dL_law_16 rfl (lv_at hl 2 rfl) ?_
  refine lv_iconst (v := 0) hx hb dL_law_17 (by decide) ?_
  refine l_cell (k := 0) (X := 0 + 520 + 520) (rest := []) hF (va_cwS 2 hts qlL_cell rfl rfl rfl (by decide +kernel) ⟨Nat.le_of_ble_eq_true rfl, Nat.le_of_ble_eq_true rfl⟩) hX hbl hbz hL (by omega) s2 hl.1 (Nat.le_of_ble_eq_true rfl) dL_law_18 (hRm _ (by omega)) rfl (fun x hx0 _ => ?_)
  refine lv_istore_n (lv' := [(3, .int (nI x)), (2, .ref (gad Γp 475)), (1, .ref (gad Γo 475)), (0, .ref b)]) hx hb dL_law_21 rfl hl (by decide) rfl (fun ls hl => ?_)
  obtain ⟨n, hn9⟩ : ∃ n, n = 1 + x % 9 := ⟨_, rfl⟩
  have hn : 1 ≤ n ∧ n ≤ 9 := by omega
  have hH : HH Γz s H3.size (fun H => SH Γo (N0 4) (fun _ _ => 0) 0 (fun _ => none, 0, Tx n x) H ∧ SH Γp (N0 4) (fun _ _ => 0) 0 (fun _ => none, 0, Tx n x) H) H3 := ⟨⟨⟨_, _, INC_new mo _ _, go⟩, ⟨_, _, INC_new mp _ _, gp⟩⟩, s2, Nat.le_refl _⟩
  refine lv_aload_n hx hb dL_law_22 rfl (lv_at hl 2 rfl) ?_
  refine lv_iload_n hx hb dL_law_23 rfl (lv_at hl 0 rfl) ?_
  refine l_call2 (X := 0 + 520 + 520) (K := 1080) (CC := 651013) (As := [.ref (gad Γo 475), .int (nI x)]) (rest := []) (st1 := [.int 1]) hF (L_begin hst hx0 hn9) (va_cwS 2 hts qlL_begin rfl rfl rfl (by decide +kernel) ⟨Nat.le_of_ble_eq_true rfl, Nat.le_of_ble_eq_true rfl⟩) To (kO _ _ _ _) hH rfl hl.1 (Nat.le_of_ble_eq_true rfl) dL_law_24 ⟨Nat.le_of_ble_eq_true rfl, Nat.le_of_ble_eq_true rfl⟩ (by omega) (by omega) rfl rfl (fun H hH => ?_)
  refine lv_if_eq (tgt := 42) hx hb dL_law_27 (by decide) (fun c_1 => absurd c_1 (by decide)) (fun c_1 => ?_)
  refine lv_aload_n hx hb dL_law_30 rfl (lv_at hl 1 rfl) ?_
  refine lv_iload_n hx hb dL_law_31 rfl (lv_at hl 0 rfl) ?_
  refine l_call2 (X := 1080) (K := 1120) (CC := 651013) (As := [.ref (gad Γp 475), .int (nI x)]) (rest := []) (st1 := [.int 1]) hF (L_begin hst hx0 hn9) (va_cwS 2 hts qlL_begin rfl rfl rfl (by decide +kernel) ⟨Nat.le_of_ble_eq_true rfl, Nat.le_of_ble_eq_true rfl⟩) Tp (kP _ _ _ _) hH.swap rfl hl.1 (Nat.le_of_ble_eq_true rfl) dL_law_32 ⟨Nat.le_of_ble_eq_true rfl, Nat.le_of_ble_eq_true rfl⟩ (by omega) (by omega) rfl rfl (fun H hH => ?_)
  replace hH := hH.swap
  refine lv_if_eq (tgt := 42) hx hb dL_law_35 (by decide) (fun c_2 => absurd c_2 (by decide)) (fun c_2 => ?_)
  refine lv_iconst (v := 1) hx hb dL_law_38 (by decide) ?_
  refine lv_goto (tgt := 43) hx hb dL_law_39 (by decide) ?_
  refine lv_istore (lv' := [(4, .int 1), (3, .int (nI x)), (2, .ref (gad Γp 475)), (1, .ref (gad Γo 475)), (0, .ref b)]) hx hb dL_law_43 hl (by decide) rfl (fun ls hl => ?_)
  refine lv_iconst (v := 0) hx hb dL_law_45 (by decide) ?_
  refine lv_istore (lv' := [(5, .int 0), (4, .int 1), (3, .int (nI x)), (2, .ref (gad Γp 475)), (1, .ref (gad Γo 475)), (0, .ref b)]) hx hb dL_law_46 hl (by decide) rfl (fun ls hl => ?_)
  have st0 : ST 11900 (NPar n x 5) (fun _ _ => 0) 0 (fun _ => none, n + 12 + 2 * 2, Tx n x) := ⟨(np_ok hn).1, fun i hi => absurd hi (Nat.not_lt_zero i), by omega, fun K hK => by cases hK⟩
  refine law_loop C hst (X := 1120) (by omega) (fun H1 ls1 hS1 hl => ?_) 26 0 rfl st0 (by omega) hH (lv_sub hl [0, 1, 5, 4, 3] rfl)
  refine lv_iload hx hb dL_law_48 (lv_at hl 0 rfl) ?_
  refine lv_bipush (v := 26) hx hb dL_law_50 (by decide) ?_
  refine lv_icmp_ge (tgt := 405) hx hb dL_law_52 (by decide) (fun c_3 => ?_) (fun c_3 => absurd (Int32.le_refl _) c_3)
  refine lv_iload hx hb dL_law_405 (lv_at hl 1 rfl) ?_
  refine W.widen (k := 651013) (n := 7148430) (by omega) (by omega) ?_
  exact lw_ret hx hb hr hlocks dL_law_407
