/-! THE LAW, from its entry. -/
def P6 (c : Nat) : Prop := c < 50 + 25 * 2 ∨ (100 ≤ c ∧ c < 475) ∨ (476 ≤ c ∧ c ≤ 482)
def P7 (c : Nat) : Prop := 484 ≤ c ∧ c ≤ 490
theorem face_n {c j : Nat} (h : c = 483) : faceR (fun _ _ => none) c j = none := by
  subst h
  rw [faceR_5, slR_hi 2 (by omega) (by omega), fR5_ne (by decide), hisR_hi 15 (by omega) (by omega)]
  unfold fR3
  rw [up2R_ne (by decide), RoadR_ne (by omega)]
  unfold fR2
  rw [up2R_ne (by decide), RoadR_ne (by omega)]
  unfold fR1
  rw [up2R_ne (by decide), up2R_ne (by decide)]
set_option maxHeartbeats 4000000 in
set_option maxRecDepth 100000 in
theorem law_entry {p : Program} {e : Env} {s : State} {m : MethodId} {below : List Frame} {meth : Method} {c : Code} (l : Launch) (hst : l.stackTraces = false) {b L : Nat} {xs : Nat → Int32} (hL : L ≤ 2048) (C0 : lw_At p s m meth c b L xs) : W p l e room_1 s m #[Value.ref b] below meth c s.heap [] 0 0 (lw_Z below #[Value.ref b] s) (entryFrame m ([Value.ref b] : List Value).toArray 7) := by
  obtain ⟨hx, hb, hr, hml, hown, hts0, hX, hbl, hlocks, hgv⟩ := C0
  have hown : s.vm.findClass RL = some m.cls := hown
  have hts : ∀ w ∈ wsL_law, w.before #[Value.ref b] s = true := fun w h => hts0 w (wsL_law_in w h)
  have hs := flat_of_before _ hgv
  have hF : CallFix p m c cL_law 7 s #[Value.ref b] wsL_law RL := ⟨hx, hb, hml, hown, hts⟩
  have hGX := gx_start hts0 hs
  have hGY := gy_start hs
  have hA := gao_start hts0
  obtain ⟨D, hKD⟩ := gk_start hts0
  obtain ⟨Γ0, hΓ0, hg0⟩ : ∃ Γ0 : gX, Γ0 = (D, fun _ => 0, fun _ => 0, s.heap.size, []) ∧ gcs Γ0 = [] := ⟨_, rfl, rfl⟩
  have hsz0 : Γ0.2.2.2.1 = s.heap.size := by rw [hΓ0]
  have hK : GK Γ0 s := by rw [hΓ0]; exact ⟨hKD, gn_start hts0⟩
  have hZ : GZ Γ0 s s.heap := gz_start hts0 hs hsz0
  have hG : GH Γ0 (fun _ _ => 0) (fun _ _ => none) 0 s.heap := by
    rw [hΓ0]
    exact ⟨fun k q h => by simp [gL] at h, ⟨fun i j p q h => by simp [gL] at h, fun k q h => by simp [gL] at h⟩⟩
  have hS : va_S (gA Γ0) s.heap s.heap [] := va_S.rf
  have hRC : RC (gcs Γ0) (fun _ _ => none) := fun c k d h => by cases h
  have hl := lv_entry ([.ref b]) (n := 7) (Nat.le_of_ble_eq_true rfl)
  rw [lg_entry_eq]
  generalize (lg_sl ([.ref b]) ++ List.replicate (7 - (lg_sl ([.ref b])).length) Slot.unset).toArray = ls at hl ⊢
  have hl : lv_has ls 7 [(0, .ref b)] := hl
  have no0 : ∀ c, c ∉ gcs Γ0 := fun c => by rw [hg0]; exact List.not_mem_nil
  refine g_newO (ci := 6) (C := RX6) (T := TX6) hx hb hts inlX6 tyX6 tyX6_ok hown (hts (.classLink RL 8 RX6) (by decide +kernel)) (hts (.instantiable RX6 7) (by decide +kernel)) (hts (.initialized RX6) (by decide +kernel)) hK hG hS hZ.2.2 (show gC 475 = (6, 32, 0) from rfl) (by decide) rfl (no0 475) hRC (by decide) (fun _ _ _ => rfl) (fun _ => rfl) (Nat.le_of_ble_eq_true rfl) (Nat.le_of_ble_eq_true rfl) dL_law_0 (fun Γ1 H hE1 hG hK hRC hS => ?_)
  have E1 := hE1
  have m1 : 475 ∈ gcs Γ1 := hE1.new rfl
  have hZ1 := hE1.toZ hZ
  refine lv_dup hx hb dL_law_3 rfl ?_
  refine g_callNw (As := []) (rest := [.ref (gad Γ1 475)]) hF (mX6_init (fun _ _ => 0) (fun _ _ => none) 0 m1 (fun c h1 h2 => hE1.out (no0 c) h2) hRC (fun _ _ => rfl) (fun _ => rfl)) (cwI 0 hts gL_law_X6_init rfl rfl rfl (hts (.initialized RX6) (by decide +kernel)) (hts (.methodLink RL 98 yX6_init) (by decide +kernel)) (hts (.instanceMethod yX6_init) (by decide +kernel)) rfl (by decide +kernel) ⟨Nat.le_of_ble_eq_true rfl, Nat.le_of_ble_eq_true rfl⟩) hK hZ1 hA hG hS rfl hl.1 (Nat.le_of_ble_eq_true rfl) dL_law_4 ⟨Nat.le_of_ble_eq_true rfl, Nat.le_of_ble_eq_true rfl⟩ rfl (fun Γ2 H locs hE2 hG hK hRC hS => ?_)
  have E2 := E1.trans (P := fun c => c = 475 ∨ P6 c) hE2 (fun _ => Iff.rfl)
  have hZ2 := hE2.toZ hZ1
  refine W.eq (g2 := F0 m 7 ls [.ref (gad Γ2 475)]) (by rw [hE2.2.2.2 475 m1]) ?_
  refine lv_astore_n (lv' := [(1, .ref (gad Γ2 475)), (0, .ref b)]) hx hb dL_law_7 rfl hl (by decide) rfl (fun ls hl => ?_)
  have n2 : ∀ c, 483 ≤ c → c ∉ gcs Γ2 := fun c hc => E2.out (no0 c) (fun q => by
    rcases q with q | q | q | q
    · omega
    · omega
    · omega
    · omega)
  refine g_newO (ci := 7) (C := RX7) (T := TX7) hx hb hts inlX7 tyX7 tyX7_ok hown (hts (.classLink RL 99 RX7) (by decide +kernel)) (hts (.instantiable RX7 11) (by decide +kernel)) (hts (.initialized RX7) (by decide +kernel)) hK hG hS hZ2.2.2 (show gC 483 = (7, 24, 0) from rfl) (by decide) rfl (n2 483 (by decide)) hRC (by decide) (fun j _ _ => congrFun (face_z (b := 24) (by decide)) _) (fun j => face_n rfl) (Nat.le_of_ble_eq_true rfl) (Nat.le_of_ble_eq_true rfl) dL_law_8 (fun Γ3 H hE3 hG hK hRC hS => ?_)
  have E3 := E2.trans (P := fun c => (c = 475 ∨ P6 c) ∨ c = 483) hE3 (fun _ => Iff.rfl)
  have m3 : 483 ∈ gcs Γ3 := hE3.new rfl
  have hZ3 := hE3.toZ hZ2
  have m2 : 475 ∈ gcs Γ2 := hE2.mem m1
  replace hl : lv_has ls 7 [(1, .ref (gad Γ3 475)), (0, .ref b)] := by rw [hE3.2.2.2 475 m2]; exact hl
  refine lv_dup hx hb dL_law_11 rfl ?_
  refine g_callNw (As := []) (rest := [.ref (gad Γ3 483)]) hF (mX7_init (faceM (fun _ _ => 0)) (faceR (fun _ _ => none)) 0 m3 (fun c h1 h2 => hE3.out (n2 c (by omega)) (by show ¬ c = 483; omega)) hRC (fun b hb => face_z (by omega))) (cwI 0 hts gL_law_X7_init rfl rfl rfl (hts (.initialized RX7) (by decide +kernel)) (hts (.methodLink RL 101 yX7_init) (by decide +kernel)) (hts (.instanceMethod yX7_init) (by decide +kernel)) rfl (by decide +kernel) ⟨Nat.le_of_ble_eq_true rfl, Nat.le_of_ble_eq_true rfl⟩) hK hZ3 hA hG hS rfl hl.1 (Nat.le_of_ble_eq_true rfl) dL_law_12 ⟨Nat.le_of_ble_eq_true rfl, Nat.le_of_ble_eq_true rfl⟩ rfl (fun Γ4 H locs hE4 hG hK hRC hS => ?_)
  have E4 := E3.trans (P := fun c => ((c = 475 ∨ P6 c) ∨ c = 483) ∨ P7 c) hE4 (fun _ => Iff.rfl)
  have hZ4 := hE4.toZ hZ3
  refine W.eq (g2 := F0 m 15 ls [.ref (gad Γ4 483)]) (by rw [hE4.2.2.2 483 m3]) ?_
  replace hl : lv_has ls 7 [(1, .ref (gad Γ4 475)), (0, .ref b)] := by rw [hE4.2.2.2 475 (hE3.mem m2)]; exact hl
  refine lv_astore_n (lv' := [(2, .ref (gad Γ4 483)), (1, .ref (gad Γ4 475)), (0, .ref b)]) hx hb dL_law_15 rfl hl (by decide) rfl (fun ls hl => ?_)
  refine lv_iconst (v := 1) hx hb dL_law_16 (by decide) ?_
  have n4 : 491 ∉ gcs Γ4 := E4.out (no0 491) (fun q => by
    rcases q with ((q | q | q | q) | q) | q
    · omega
    · omega
    · omega
    · omega
    · omega
    · exact absurd q.2 (by decide))
  refine g_newL hx hb (hts (.arrayClass .long) (by decide +kernel)) hK hG hS hZ4.2.2 n4 hRC (Nat.le_of_ble_eq_true rfl) (Nat.le_of_ble_eq_true rfl) dL_law_17 (fun Γ5 H hE5 hG hK hS => ?_)
  have E5 := E4.trans (P := fun c => (((c = 475 ∨ P6 c) ∨ c = 483) ∨ P7 c) ∨ c = 491) hE5 (fun _ => Iff.rfl)
  have hZ5 := hE5.toZ hZ4
  have hall : ∀ c, c < 492 → c ∈ gcs Γ5 := fun c hc => E5.new (by
    show (((c = 475 ∨ (c < 50 + 25 * 2 ∨ (100 ≤ c ∧ c < 475) ∨ (476 ≤ c ∧ c ≤ 482))) ∨ c = 483) ∨ (484 ≤ c ∧ c ≤ 490)) ∨ c = 491
    omega)
  have hlt : ∀ c ∈ gcs Γ5, c < 492 := fun c hc => by
    rcases (E5.2.2.1 c).mp hc with q | q
    · exact absurd q (no0 c)
    · have q : (((c = 475 ∨ (c < 50 + 25 * 2 ∨ (100 ≤ c ∧ c < 475) ∨ (476 ≤ c ∧ c ≤ 482))) ∨ c = 483) ∨ (484 ≤ c ∧ c ≤ 490)) ∨ c = 491 := q
      omega
  have hsz : Γ5.2.2.2.1 = s.heap.size := E5.2.1.trans hsz0
  replace hl : lv_has ls 7 [(2, .ref (gad Γ5 483)), (1, .ref (gad Γ5 475)), (0, .ref b)] := by rw [hE5.2.2.2 475 (hE4.mem (hE3.mem m2)), hE5.2.2.2 483 (hE4.mem m3)]; exact hl
  refine lv_astore_n (lv' := [(3, .ref (gad Γ5 491)), (2, .ref (gad Γ5 483)), (1, .ref (gad Γ5 475)), (0, .ref b)]) hx hb dL_law_19 rfl hl (by decide) rfl (fun ls hl => ?_)
  refine lv_iconst (v := 0) hx hb dL_law_20 (by decide) ?_
  refine lv_istore (lv' := [(4, .int 0), (3, .ref (gad Γ5 491)), (2, .ref (gad Γ5 483)), (1, .ref (gad Γ5 475)), (0, .ref b)]) hx hb dL_law_21 hl (by decide) rfl (fun ls hl => ?_)
  have hbA : ¬ gA Γ5 b := fun q => by
    have q : Γ5.2.2.2.1 ≤ b := q
    omega
  refine law_loop hst (p := p) (l := l) (e := e) (s := s) (m := m) (args := #[Value.ref b]) (below := below) (meth := meth) (c := c) (b := b) (xs := xs) ⟨hx, hb, hml, hown, hts, hX, hbl, hbA, hK, hZ5, hGX, hGY, hall 491 (by decide), hlt⟩ hL (fun H locs cells slots ls hS h1 h2 => ?_) 512 0 rfl _ _ (Nat.le_of_ble_eq_true rfl) (Nat.le_of_ble_eq_true rfl) H locs ls (modR (faceR (fun _ _ => none))) 0 Z00 ⟨hG, hS, lv_sub hl [4, 3, 2, 1, 0] rfl, INV_new (fun c hc => hall c (by omega))⟩
  refine lv_iconst (v := 1) hx hb dL_law_1865 (by decide) ?_
  refine va_forget (fun q hq => ?_) ?_
  · have h : Γ5.2.2.2.1 ≤ q.base := hS.2.2 q hq
    omega
  refine W.widen (k := 601024) (n := 7293033) h1 h2 ?_
  exact lw_ret hx hb hr hlocks dL_law_1866
