/-! THE LAW: its wrappers. Laid by gen/p28.py. -/
set_option maxHeartbeats 4000000 in
set_option maxRecDepth 100000 in
theorem wL_append {l : Launch} {Γ : gX} (hcs : 491 ∈ gcs Γ) (h475 : 475 ∈ gcs Γ) (hall : ∀ c ∈ gcs Γ, c < 492) {fr lo : Nat} (hfr : fr ≤ 8) (hlo : lo ≤ 140) {M M1 : Nat → Nat → Int32} {R R1 : Nat → Nat → Option Nat} {O : Int64} (a : Int32) {v : Int32} (hM : gMet l Γ yX6_append wsX6_append fr lo [.ref (gad Γ 475), .int a] M R O (some (.int v)) M1 R1 O) : gWrp l Γ yL_append wsL_append 9 180 [.ref (gad Γ 475), .int a, .ref (gad Γ 491)] M R O (some (.int 0)) M1 R1 v.toInt64 := by
  refine g_startW (cc := cL_append) (maxL := 4) (ret := (some .int)) (hh := [(0, 9, 12, 13), (0, 9, 15, 15)]) (by decide) rfl (Nat.le_of_ble_eq_true rfl) ?_
  intro p e s m below meth c ls hx hb hml hrt hts hown hlocks hname hK hZ hG hS hl hX hY hnx
  have hl : lv_has ls 4 [(0, .ref (gad Γ 475)), (1, .int a), (2, .ref (gad Γ 491))] := hl
  have hown : s.vm.findClass RL = some m.cls := hown
  have hF : CallFix p m c cL_append 4 s _ wsL_append RL := ⟨hx, hb, hml, hown, hts⟩
  refine lv_aload_n hx hb dL_append_0 rfl (lv_at hl 2 rfl) ?_
  refine lv_iconst (v := 0) hx hb dL_append_1 (by decide) ?_
  refine lv_aload_n hx hb dL_append_2 rfl (lv_at hl 0 rfl) ?_
  refine lv_iload_n hx hb dL_append_3 rfl (lv_at hl 1 rfl) ?_
  refine g_callV (As := [.int a]) (rest := [.int 0, .ref (gad Γ 491)]) (st1 := [.int v, .int 0, .ref (gad Γ 491)]) hF hM (cwV 1 hts gL_append_X6_append rfl rfl rfl (by decide +kernel) ⟨(by show fr + 1 ≤ 9; omega), (by show 8 + (_ + 11) + lo ≤ 180; omega)⟩) hK hZ hG hS h475 (show gC 475 = (6, 32, 0) from rfl) (by decide) rfl rfl hl.1 (Nat.le_of_ble_eq_true rfl) dL_append_4 ⟨Nat.zero_le _, Nat.zero_le _⟩ rfl rfl (fun H locs hG hS => ?_)
  refine lv_i2l hx hb dL_append_7 rfl ?_
  refine g_last hx hb hK hG hS hcs hall dL_append_8 (fun H locs hG hS => ?_)
  refine lv_goto (tgt := 18) hx hb dL_append_9 (by decide) ?_
  refine lv_iconst (v := 0) hx hb dL_append_18 (by decide) ?_
  refine W.widen (k := 1) (n := 6) (by decide) (by decide) ?_
  exact vx_ret (g_iret hx hb hrt hlocks hS hG rfl rfl dL_append_19)
set_option maxHeartbeats 4000000 in
set_option maxRecDepth 100000 in
theorem wL_append_t1 {l : Launch} {Γ : gX} (hcs : 491 ∈ gcs Γ) (h475 : 475 ∈ gcs Γ) {fr lo : Nat} (hfr : fr ≤ 8) (hlo : lo ≤ 140) {M M1 : Nat → Nat → Int32} {R R1 : Nat → Nat → Option Nat} {O : Int64} (a : Int32) (hM : gThr l Γ yX6_append wsX6_append fr lo [.ref (gad Γ 475), .int a] M R O "java/lang/IllegalArgumentException" M1 R1 O) : gWrp l Γ yL_append wsL_append 9 180 [.ref (gad Γ 475), .int a, .ref (gad Γ 491)] M R O (some (.int 1)) M1 R1 O := by
  refine g_startW (cc := cL_append) (maxL := 4) (ret := (some .int)) (hh := [(0, 9, 12, 13), (0, 9, 15, 15)]) (by decide) rfl (Nat.le_of_ble_eq_true rfl) ?_
  intro p e s m below meth c ls hx hb hml hrt hts hown hlocks hname hK hZ hG hS hl hX hY hnx
  have hl : lv_has ls 4 [(0, .ref (gad Γ 475)), (1, .int a), (2, .ref (gad Γ 491))] := hl
  have hown : s.vm.findClass RL = some m.cls := hown
  have hF : CallFix p m c cL_append 4 s _ wsL_append RL := ⟨hx, hb, hml, hown, hts⟩
  refine lv_aload_n hx hb dL_append_0 rfl (lv_at hl 2 rfl) ?_
  refine lv_iconst (v := 0) hx hb dL_append_1 (by decide) ?_
  refine lv_aload_n hx hb dL_append_2 rfl (lv_at hl 0 rfl) ?_
  refine lv_iload_n hx hb dL_append_3 rfl (lv_at hl 1 rfl) ?_
  refine g_xVc (As := [.int a]) (rest := [.int 0, .ref (gad Γ 491)]) hF hM (cwV 1 hts gL_append_X6_append rfl rfl rfl (by decide +kernel) ⟨(by show fr + 1 ≤ 9; omega), (by show 8 + (_ + 11) + lo ≤ 180; omega)⟩) hK hZ hX hG hS h475 (show gC 475 = (6, 32, 0) from rfl) (by decide) rfl rfl hl.1 (Nat.le_of_ble_eq_true rfl) dL_append_4 ⟨Nat.le_of_ble_eq_true rfl, Nat.le_of_ble_eq_true rfl⟩ rfl (fun ce q9 H locs hG hS hce hcv hcl => ?_)
  refine vx_catch (name := "java/lang/IllegalArgumentException") hown [] ⟨0, 9, 12, 13⟩ [⟨0, 9, 15, 15⟩] (by rw [hnx]; rfl) (fun _ h => absurd h List.not_mem_nil) (by decide) (by decide) (hts (Cond.classLink RL 13 "java/lang/IllegalArgumentException") (by decide +kernel)) (gx_cast hX (by decide +kernel)) hce hcv hcl ?_
  refine lv_astore_n (lv' := [(3, .ref q9), (0, .ref (gad Γ 475)), (1, .int a), (2, .ref (gad Γ 491))]) hx hb dL_append_12 rfl hl (by decide) rfl (fun ls hl => ?_)
  refine lv_iconst (v := 1) hx hb dL_append_13 (by decide) ?_
  exact vx_ret (g_iret hx hb hrt hlocks hS hG rfl rfl dL_append_14)
set_option maxHeartbeats 4000000 in
set_option maxRecDepth 100000 in
theorem wL_append_t2 {l : Launch} {Γ : gX} (hcs : 491 ∈ gcs Γ) (h475 : 475 ∈ gcs Γ) {fr lo : Nat} (hfr : fr ≤ 8) (hlo : lo ≤ 140) {M M1 : Nat → Nat → Int32} {R R1 : Nat → Nat → Option Nat} {O : Int64} (a : Int32) (hM : gThr l Γ yX6_append wsX6_append fr lo [.ref (gad Γ 475), .int a] M R O "java/lang/IllegalStateException" M1 R1 O) : gWrp l Γ yL_append wsL_append 9 180 [.ref (gad Γ 475), .int a, .ref (gad Γ 491)] M R O (some (.int 2)) M1 R1 O := by
  refine g_startW (cc := cL_append) (maxL := 4) (ret := (some .int)) (hh := [(0, 9, 12, 13), (0, 9, 15, 15)]) (by decide) rfl (Nat.le_of_ble_eq_true rfl) ?_
  intro p e s m below meth c ls hx hb hml hrt hts hown hlocks hname hK hZ hG hS hl hX hY hnx
  have hl : lv_has ls 4 [(0, .ref (gad Γ 475)), (1, .int a), (2, .ref (gad Γ 491))] := hl
  have hown : s.vm.findClass RL = some m.cls := hown
  have hF : CallFix p m c cL_append 4 s _ wsL_append RL := ⟨hx, hb, hml, hown, hts⟩
  refine lv_aload_n hx hb dL_append_0 rfl (lv_at hl 2 rfl) ?_
  refine lv_iconst (v := 0) hx hb dL_append_1 (by decide) ?_
  refine lv_aload_n hx hb dL_append_2 rfl (lv_at hl 0 rfl) ?_
  refine lv_iload_n hx hb dL_append_3 rfl (lv_at hl 1 rfl) ?_
  refine g_xVc (As := [.int a]) (rest := [.int 0, .ref (gad Γ 491)]) hF hM (cwV 1 hts gL_append_X6_append rfl rfl rfl (by decide +kernel) ⟨(by show fr + 1 ≤ 9; omega), (by show 8 + (_ + 11) + lo ≤ 180; omega)⟩) hK hZ hX hG hS h475 (show gC 475 = (6, 32, 0) from rfl) (by decide) rfl rfl hl.1 (Nat.le_of_ble_eq_true rfl) dL_append_4 ⟨Nat.le_of_ble_eq_true rfl, Nat.le_of_ble_eq_true rfl⟩ rfl (fun ce q9 H locs hG hS hce hcv hcl => ?_)
  refine vx_catch (name := "java/lang/IllegalStateException") hown [⟨0, 9, 12, 13⟩] ⟨0, 9, 15, 15⟩ [] (by rw [hnx]; rfl) (List.forall_mem_cons.mpr ⟨Or.inr ⟨by decide, "java/lang/IllegalArgumentException", hts (Cond.classLink RL 13 "java/lang/IllegalArgumentException") (by decide +kernel), hY.2.2⟩, (fun _ h => absurd h List.not_mem_nil)⟩) (by decide) (by decide) (hts (Cond.classLink RL 15 "java/lang/IllegalStateException") (by decide +kernel)) (gx_cast hX (by decide +kernel)) hce hcv hcl ?_
  refine lv_astore_n (lv' := [(3, .ref q9), (0, .ref (gad Γ 475)), (1, .int a), (2, .ref (gad Γ 491))]) hx hb dL_append_15 rfl hl (by decide) rfl (fun ls hl => ?_)
  refine lv_iconst (v := 2) hx hb dL_append_16 (by decide) ?_
  exact vx_ret (g_iret hx hb hrt hlocks hS hG rfl rfl dL_append_17)
set_option maxHeartbeats 4000000 in
set_option maxRecDepth 100000 in
theorem wL_load {l : Launch} {Γ : gX} (hcs : 491 ∈ gcs Γ) (h475 : 475 ∈ gcs Γ) (hall : ∀ c ∈ gcs Γ, c < 492) {fr lo : Nat} (hfr : fr ≤ 8) (hlo : lo ≤ 140) {M M1 : Nat → Nat → Int32} {R R1 : Nat → Nat → Option Nat} {O : Int64}  {v : Int32} (hM : gMet l Γ yX6_load wsX6_load fr lo [.ref (gad Γ 475)] M R O (some (.int v)) M1 R1 O) : gWrp l Γ yL_load wsL_load 9 180 [.ref (gad Γ 475), .ref (gad Γ 491)] M R O (some (.int 0)) M1 R1 v.toInt64 := by
  refine g_startW (cc := cL_load) (maxL := 3) (ret := (some .int)) (hh := [(0, 8, 11, 15)]) (by decide) rfl (Nat.le_of_ble_eq_true rfl) ?_
  intro p e s m below meth c ls hx hb hml hrt hts hown hlocks hname hK hZ hG hS hl hX hY hnx
  have hl : lv_has ls 3 [(0, .ref (gad Γ 475)), (1, .ref (gad Γ 491))] := hl
  have hown : s.vm.findClass RL = some m.cls := hown
  have hF : CallFix p m c cL_load 3 s _ wsL_load RL := ⟨hx, hb, hml, hown, hts⟩
  refine lv_aload_n hx hb dL_load_0 rfl (lv_at hl 1 rfl) ?_
  refine lv_iconst (v := 0) hx hb dL_load_1 (by decide) ?_
  refine lv_aload_n hx hb dL_load_2 rfl (lv_at hl 0 rfl) ?_
  refine g_callV (As := []) (rest := [.int 0, .ref (gad Γ 491)]) (st1 := [.int v, .int 0, .ref (gad Γ 491)]) hF hM (cwV 0 hts gL_load_X6_load rfl rfl rfl (by decide +kernel) ⟨(by show fr + 1 ≤ 9; omega), (by show 8 + (_ + 11) + lo ≤ 180; omega)⟩) hK hZ hG hS h475 (show gC 475 = (6, 32, 0) from rfl) (by decide) rfl rfl hl.1 (Nat.le_of_ble_eq_true rfl) dL_load_3 ⟨Nat.zero_le _, Nat.zero_le _⟩ rfl rfl (fun H locs hG hS => ?_)
  refine lv_i2l hx hb dL_load_6 rfl ?_
  refine g_last hx hb hK hG hS hcs hall dL_load_7 (fun H locs hG hS => ?_)
  refine lv_goto (tgt := 14) hx hb dL_load_8 (by decide) ?_
  refine lv_iconst (v := 0) hx hb dL_load_14 (by decide) ?_
  refine W.widen (k := 1) (n := 6) (by decide) (by decide) ?_
  exact vx_ret (g_iret hx hb hrt hlocks hS hG rfl rfl dL_load_15)
set_option maxHeartbeats 4000000 in
set_option maxRecDepth 100000 in
theorem wL_load_t1 {l : Launch} {Γ : gX} (hcs : 491 ∈ gcs Γ) (h475 : 475 ∈ gcs Γ) {fr lo : Nat} (hfr : fr ≤ 8) (hlo : lo ≤ 140) {M M1 : Nat → Nat → Int32} {R R1 : Nat → Nat → Option Nat} {O : Int64}  (hM : gThr l Γ yX6_load wsX6_load fr lo [.ref (gad Γ 475)] M R O "java/lang/IllegalStateException" M1 R1 O) : gWrp l Γ yL_load wsL_load 9 180 [.ref (gad Γ 475), .ref (gad Γ 491)] M R O (some (.int 1)) M1 R1 O := by
  refine g_startW (cc := cL_load) (maxL := 3) (ret := (some .int)) (hh := [(0, 8, 11, 15)]) (by decide) rfl (Nat.le_of_ble_eq_true rfl) ?_
  intro p e s m below meth c ls hx hb hml hrt hts hown hlocks hname hK hZ hG hS hl hX hY hnx
  have hl : lv_has ls 3 [(0, .ref (gad Γ 475)), (1, .ref (gad Γ 491))] := hl
  have hown : s.vm.findClass RL = some m.cls := hown
  have hF : CallFix p m c cL_load 3 s _ wsL_load RL := ⟨hx, hb, hml, hown, hts⟩
  refine lv_aload_n hx hb dL_load_0 rfl (lv_at hl 1 rfl) ?_
  refine lv_iconst (v := 0) hx hb dL_load_1 (by decide) ?_
  refine lv_aload_n hx hb dL_load_2 rfl (lv_at hl 0 rfl) ?_
  refine g_xVc (As := []) (rest := [.int 0, .ref (gad Γ 491)]) hF hM (cwV 0 hts gL_load_X6_load rfl rfl rfl (by decide +kernel) ⟨(by show fr + 1 ≤ 9; omega), (by show 8 + (_ + 11) + lo ≤ 180; omega)⟩) hK hZ hX hG hS h475 (show gC 475 = (6, 32, 0) from rfl) (by decide) rfl rfl hl.1 (Nat.le_of_ble_eq_true rfl) dL_load_3 ⟨Nat.le_of_ble_eq_true rfl, Nat.le_of_ble_eq_true rfl⟩ rfl (fun ce q9 H locs hG hS hce hcv hcl => ?_)
  refine vx_catch (name := "java/lang/IllegalStateException") hown [] ⟨0, 8, 11, 15⟩ [] (by rw [hnx]; rfl) (fun _ h => absurd h List.not_mem_nil) (by decide) (by decide) (hts (Cond.classLink RL 15 "java/lang/IllegalStateException") (by decide +kernel)) (gx_cast hX (by decide +kernel)) hce hcv hcl ?_
  refine lv_astore_n (lv' := [(2, .ref q9), (0, .ref (gad Γ 475)), (1, .ref (gad Γ 491))]) hx hb dL_load_11 rfl hl (by decide) rfl (fun ls hl => ?_)
  refine lv_iconst (v := 1) hx hb dL_load_12 (by decide) ?_
  exact vx_ret (g_iret hx hb hrt hlocks hS hG rfl rfl dL_load_13)
set_option maxHeartbeats 4000000 in
set_option maxRecDepth 100000 in
theorem wL_about {l : Launch} {Γ : gX} (hcs : 491 ∈ gcs Γ) (h475 : 475 ∈ gcs Γ) (hall : ∀ c ∈ gcs Γ, c < 492) {fr lo : Nat} (hfr : fr ≤ 8) (hlo : lo ≤ 140) {M M1 : Nat → Nat → Int32} {R R1 : Nat → Nat → Option Nat} {O : Int64} (a : Int32) {v : Int32} (hM : gMet l Γ yX6_about wsX6_about fr lo [.ref (gad Γ 475), .int a] M R O (some (.int v)) M1 R1 O) : gWrp l Γ yL_about wsL_about 9 180 [.ref (gad Γ 475), .int a, .ref (gad Γ 491)] M R O (some (.int 0)) M1 R1 v.toInt64 := by
  refine g_startW (cc := cL_about) (maxL := 4) (ret := (some .int)) (hh := [(0, 9, 12, 13)]) (by decide) rfl (Nat.le_of_ble_eq_true rfl) ?_
  intro p e s m below meth c ls hx hb hml hrt hts hown hlocks hname hK hZ hG hS hl hX hY hnx
  have hl : lv_has ls 4 [(0, .ref (gad Γ 475)), (1, .int a), (2, .ref (gad Γ 491))] := hl
  have hown : s.vm.findClass RL = some m.cls := hown
  have hF : CallFix p m c cL_about 4 s _ wsL_about RL := ⟨hx, hb, hml, hown, hts⟩
  refine lv_aload_n hx hb dL_about_0 rfl (lv_at hl 2 rfl) ?_
  refine lv_iconst (v := 0) hx hb dL_about_1 (by decide) ?_
  refine lv_aload_n hx hb dL_about_2 rfl (lv_at hl 0 rfl) ?_
  refine lv_iload_n hx hb dL_about_3 rfl (lv_at hl 1 rfl) ?_
  refine g_callV (As := [.int a]) (rest := [.int 0, .ref (gad Γ 491)]) (st1 := [.int v, .int 0, .ref (gad Γ 491)]) hF hM (cwV 1 hts gL_about_X6_about rfl rfl rfl (by decide +kernel) ⟨(by show fr + 1 ≤ 9; omega), (by show 8 + (_ + 11) + lo ≤ 180; omega)⟩) hK hZ hG hS h475 (show gC 475 = (6, 32, 0) from rfl) (by decide) rfl rfl hl.1 (Nat.le_of_ble_eq_true rfl) dL_about_4 ⟨Nat.zero_le _, Nat.zero_le _⟩ rfl rfl (fun H locs hG hS => ?_)
  refine lv_i2l hx hb dL_about_7 rfl ?_
  refine g_last hx hb hK hG hS hcs hall dL_about_8 (fun H locs hG hS => ?_)
  refine lv_goto (tgt := 15) hx hb dL_about_9 (by decide) ?_
  refine lv_iconst (v := 0) hx hb dL_about_15 (by decide) ?_
  refine W.widen (k := 1) (n := 6) (by decide) (by decide) ?_
  exact vx_ret (g_iret hx hb hrt hlocks hS hG rfl rfl dL_about_16)
set_option maxHeartbeats 4000000 in
set_option maxRecDepth 100000 in
theorem wL_about_t1 {l : Launch} {Γ : gX} (hcs : 491 ∈ gcs Γ) (h475 : 475 ∈ gcs Γ) {fr lo : Nat} (hfr : fr ≤ 8) (hlo : lo ≤ 140) {M M1 : Nat → Nat → Int32} {R R1 : Nat → Nat → Option Nat} {O : Int64} (a : Int32) (hM : gThr l Γ yX6_about wsX6_about fr lo [.ref (gad Γ 475), .int a] M R O "java/lang/IllegalArgumentException" M1 R1 O) : gWrp l Γ yL_about wsL_about 9 180 [.ref (gad Γ 475), .int a, .ref (gad Γ 491)] M R O (some (.int 1)) M1 R1 O := by
  refine g_startW (cc := cL_about) (maxL := 4) (ret := (some .int)) (hh := [(0, 9, 12, 13)]) (by decide) rfl (Nat.le_of_ble_eq_true rfl) ?_
  intro p e s m below meth c ls hx hb hml hrt hts hown hlocks hname hK hZ hG hS hl hX hY hnx
  have hl : lv_has ls 4 [(0, .ref (gad Γ 475)), (1, .int a), (2, .ref (gad Γ 491))] := hl
  have hown : s.vm.findClass RL = some m.cls := hown
  have hF : CallFix p m c cL_about 4 s _ wsL_about RL := ⟨hx, hb, hml, hown, hts⟩
  refine lv_aload_n hx hb dL_about_0 rfl (lv_at hl 2 rfl) ?_
  refine lv_iconst (v := 0) hx hb dL_about_1 (by decide) ?_
  refine lv_aload_n hx hb dL_about_2 rfl (lv_at hl 0 rfl) ?_
  refine lv_iload_n hx hb dL_about_3 rfl (lv_at hl 1 rfl) ?_
  refine g_xVc (As := [.int a]) (rest := [.int 0, .ref (gad Γ 491)]) hF hM (cwV 1 hts gL_about_X6_about rfl rfl rfl (by decide +kernel) ⟨(by show fr + 1 ≤ 9; omega), (by show 8 + (_ + 11) + lo ≤ 180; omega)⟩) hK hZ hX hG hS h475 (show gC 475 = (6, 32, 0) from rfl) (by decide) rfl rfl hl.1 (Nat.le_of_ble_eq_true rfl) dL_about_4 ⟨Nat.le_of_ble_eq_true rfl, Nat.le_of_ble_eq_true rfl⟩ rfl (fun ce q9 H locs hG hS hce hcv hcl => ?_)
  refine vx_catch (name := "java/lang/IllegalArgumentException") hown [] ⟨0, 9, 12, 13⟩ [] (by rw [hnx]; rfl) (fun _ h => absurd h List.not_mem_nil) (by decide) (by decide) (hts (Cond.classLink RL 13 "java/lang/IllegalArgumentException") (by decide +kernel)) (gx_cast hX (by decide +kernel)) hce hcv hcl ?_
  refine lv_astore_n (lv' := [(3, .ref q9), (0, .ref (gad Γ 475)), (1, .int a), (2, .ref (gad Γ 491))]) hx hb dL_about_12 rfl hl (by decide) rfl (fun ls hl => ?_)
  refine lv_iconst (v := 1) hx hb dL_about_13 (by decide) ?_
  exact vx_ret (g_iret hx hb hrt hlocks hS hG rfl rfl dL_about_14)
set_option maxHeartbeats 4000000 in
set_option maxRecDepth 100000 in
theorem wL_segment {l : Launch} {Γ : gX} (hcs : 491 ∈ gcs Γ) (h475 : 475 ∈ gcs Γ) (hall : ∀ c ∈ gcs Γ, c < 492) {fr lo : Nat} (hfr : fr ≤ 8) (hlo : lo ≤ 140) {M M1 : Nat → Nat → Int32} {R R1 : Nat → Nat → Option Nat} {O : Int64} (a : Int32) (d : Int32) {v : Int32} (hM : gMet l Γ yX6_segment wsX6_segment fr lo [.ref (gad Γ 475), .int a, .int d] M R O (some (.int v)) M1 R1 O) : gWrp l Γ yL_segment wsL_segment 9 180 [.ref (gad Γ 475), .int a, .int d, .ref (gad Γ 491)] M R O (some (.int 0)) M1 R1 v.toInt64 := by
  refine g_startW (cc := cL_segment) (maxL := 5) (ret := (some .int)) (hh := [(0, 10, 13, 28), (0, 10, 17, 13)]) (by decide) rfl (Nat.le_of_ble_eq_true rfl) ?_
  intro p e s m below meth c ls hx hb hml hrt hts hown hlocks hname hK hZ hG hS hl hX hY hnx
  have hl : lv_has ls 5 [(0, .ref (gad Γ 475)), (1, .int a), (2, .int d), (3, .ref (gad Γ 491))] := hl
  have hown : s.vm.findClass RL = some m.cls := hown
  have hF : CallFix p m c cL_segment 5 s _ wsL_segment RL := ⟨hx, hb, hml, hown, hts⟩
  refine lv_aload_n hx hb dL_segment_0 rfl (lv_at hl 3 rfl) ?_
  refine lv_iconst (v := 0) hx hb dL_segment_1 (by decide) ?_
  refine lv_aload_n hx hb dL_segment_2 rfl (lv_at hl 0 rfl) ?_
  refine lv_iload_n hx hb dL_segment_3 rfl (lv_at hl 1 rfl) ?_
  refine lv_iload_n hx hb dL_segment_4 rfl (lv_at hl 2 rfl) ?_
  refine g_callV (As := [.int a, .int d]) (rest := [.int 0, .ref (gad Γ 491)]) (st1 := [.int v, .int 0, .ref (gad Γ 491)]) hF hM (cwV 2 hts gL_segment_X6_segment rfl rfl rfl (by decide +kernel) ⟨(by show fr + 1 ≤ 9; omega), (by show 8 + (_ + 11) + lo ≤ 180; omega)⟩) hK hZ hG hS h475 (show gC 475 = (6, 32, 0) from rfl) (by decide) rfl rfl hl.1 (Nat.le_of_ble_eq_true rfl) dL_segment_5 ⟨Nat.zero_le _, Nat.zero_le _⟩ rfl rfl (fun H locs hG hS => ?_)
  refine lv_i2l hx hb dL_segment_8 rfl ?_
  refine g_last hx hb hK hG hS hcs hall dL_segment_9 (fun H locs hG hS => ?_)
  refine lv_goto (tgt := 21) hx hb dL_segment_10 (by decide) ?_
  refine lv_iconst (v := 0) hx hb dL_segment_21 (by decide) ?_
  refine W.widen (k := 1) (n := 6) (by decide) (by decide) ?_
  exact vx_ret (g_iret hx hb hrt hlocks hS hG rfl rfl dL_segment_22)
set_option maxHeartbeats 4000000 in
set_option maxRecDepth 100000 in
theorem wL_segment_t1 {l : Launch} {Γ : gX} (hcs : 491 ∈ gcs Γ) (h475 : 475 ∈ gcs Γ) {fr lo : Nat} (hfr : fr ≤ 8) (hlo : lo ≤ 140) {M M1 : Nat → Nat → Int32} {R R1 : Nat → Nat → Option Nat} {O : Int64} (a : Int32) (d : Int32) (hM : gThr l Γ yX6_segment wsX6_segment fr lo [.ref (gad Γ 475), .int a, .int d] M R O "java/lang/IndexOutOfBoundsException" M1 R1 O) : gWrp l Γ yL_segment wsL_segment 9 180 [.ref (gad Γ 475), .int a, .int d, .ref (gad Γ 491)] M R O (some (.int 1)) M1 R1 O := by
  refine g_startW (cc := cL_segment) (maxL := 5) (ret := (some .int)) (hh := [(0, 10, 13, 28), (0, 10, 17, 13)]) (by decide) rfl (Nat.le_of_ble_eq_true rfl) ?_
  intro p e s m below meth c ls hx hb hml hrt hts hown hlocks hname hK hZ hG hS hl hX hY hnx
  have hl : lv_has ls 5 [(0, .ref (gad Γ 475)), (1, .int a), (2, .int d), (3, .ref (gad Γ 491))] := hl
  have hown : s.vm.findClass RL = some m.cls := hown
  have hF : CallFix p m c cL_segment 5 s _ wsL_segment RL := ⟨hx, hb, hml, hown, hts⟩
  refine lv_aload_n hx hb dL_segment_0 rfl (lv_at hl 3 rfl) ?_
  refine lv_iconst (v := 0) hx hb dL_segment_1 (by decide) ?_
  refine lv_aload_n hx hb dL_segment_2 rfl (lv_at hl 0 rfl) ?_
  refine lv_iload_n hx hb dL_segment_3 rfl (lv_at hl 1 rfl) ?_
  refine lv_iload_n hx hb dL_segment_4 rfl (lv_at hl 2 rfl) ?_
  refine g_xVc (As := [.int a, .int d]) (rest := [.int 0, .ref (gad Γ 491)]) hF hM (cwV 2 hts gL_segment_X6_segment rfl rfl rfl (by decide +kernel) ⟨(by show fr + 1 ≤ 9; omega), (by show 8 + (_ + 11) + lo ≤ 180; omega)⟩) hK hZ hX hG hS h475 (show gC 475 = (6, 32, 0) from rfl) (by decide) rfl rfl hl.1 (Nat.le_of_ble_eq_true rfl) dL_segment_5 ⟨Nat.le_of_ble_eq_true rfl, Nat.le_of_ble_eq_true rfl⟩ rfl (fun ce q9 H locs hG hS hce hcv hcl => ?_)
  refine vx_catch (name := "java/lang/IndexOutOfBoundsException") hown [] ⟨0, 10, 13, 28⟩ [⟨0, 10, 17, 13⟩] (by rw [hnx]; rfl) (fun _ h => absurd h List.not_mem_nil) (by decide) (by decide) (hts (Cond.classLink RL 28 "java/lang/IndexOutOfBoundsException") (by decide +kernel)) (gx_cast hX (by decide +kernel)) hce hcv hcl ?_
  refine lv_astore (lv' := [(4, .ref q9), (0, .ref (gad Γ 475)), (1, .int a), (2, .int d), (3, .ref (gad Γ 491))]) hx hb dL_segment_13 hl (by decide) rfl (fun ls hl => ?_)
  refine lv_iconst (v := 1) hx hb dL_segment_15 (by decide) ?_
  exact vx_ret (g_iret hx hb hrt hlocks hS hG rfl rfl dL_segment_16)
set_option maxHeartbeats 4000000 in
set_option maxRecDepth 100000 in
theorem wL_segment_t2 {l : Launch} {Γ : gX} (hcs : 491 ∈ gcs Γ) (h475 : 475 ∈ gcs Γ) {fr lo : Nat} (hfr : fr ≤ 8) (hlo : lo ≤ 140) {M M1 : Nat → Nat → Int32} {R R1 : Nat → Nat → Option Nat} {O : Int64} (a : Int32) (d : Int32) (hM : gThr l Γ yX6_segment wsX6_segment fr lo [.ref (gad Γ 475), .int a, .int d] M R O "java/lang/IllegalArgumentException" M1 R1 O) : gWrp l Γ yL_segment wsL_segment 9 180 [.ref (gad Γ 475), .int a, .int d, .ref (gad Γ 491)] M R O (some (.int 2)) M1 R1 O := by
  refine g_startW (cc := cL_segment) (maxL := 5) (ret := (some .int)) (hh := [(0, 10, 13, 28), (0, 10, 17, 13)]) (by decide) rfl (Nat.le_of_ble_eq_true rfl) ?_
  intro p e s m below meth c ls hx hb hml hrt hts hown hlocks hname hK hZ hG hS hl hX hY hnx
  have hl : lv_has ls 5 [(0, .ref (gad Γ 475)), (1, .int a), (2, .int d), (3, .ref (gad Γ 491))] := hl
  have hown : s.vm.findClass RL = some m.cls := hown
  have hF : CallFix p m c cL_segment 5 s _ wsL_segment RL := ⟨hx, hb, hml, hown, hts⟩
  refine lv_aload_n hx hb dL_segment_0 rfl (lv_at hl 3 rfl) ?_
  refine lv_iconst (v := 0) hx hb dL_segment_1 (by decide) ?_
  refine lv_aload_n hx hb dL_segment_2 rfl (lv_at hl 0 rfl) ?_
  refine lv_iload_n hx hb dL_segment_3 rfl (lv_at hl 1 rfl) ?_
  refine lv_iload_n hx hb dL_segment_4 rfl (lv_at hl 2 rfl) ?_
  refine g_xVc (As := [.int a, .int d]) (rest := [.int 0, .ref (gad Γ 491)]) hF hM (cwV 2 hts gL_segment_X6_segment rfl rfl rfl (by decide +kernel) ⟨(by show fr + 1 ≤ 9; omega), (by show 8 + (_ + 11) + lo ≤ 180; omega)⟩) hK hZ hX hG hS h475 (show gC 475 = (6, 32, 0) from rfl) (by decide) rfl rfl hl.1 (Nat.le_of_ble_eq_true rfl) dL_segment_5 ⟨Nat.le_of_ble_eq_true rfl, Nat.le_of_ble_eq_true rfl⟩ rfl (fun ce q9 H locs hG hS hce hcv hcl => ?_)
  refine vx_catch (name := "java/lang/IllegalArgumentException") hown [⟨0, 10, 13, 28⟩] ⟨0, 10, 17, 13⟩ [] (by rw [hnx]; rfl) (List.forall_mem_cons.mpr ⟨Or.inr ⟨by decide, "java/lang/IndexOutOfBoundsException", hts (Cond.classLink RL 28 "java/lang/IndexOutOfBoundsException") (by decide +kernel), hY.1⟩, (fun _ h => absurd h List.not_mem_nil)⟩) (by decide) (by decide) (hts (Cond.classLink RL 13 "java/lang/IllegalArgumentException") (by decide +kernel)) (gx_cast hX (by decide +kernel)) hce hcv hcl ?_
  refine lv_astore (lv' := [(4, .ref q9), (0, .ref (gad Γ 475)), (1, .int a), (2, .int d), (3, .ref (gad Γ 491))]) hx hb dL_segment_17 hl (by decide) rfl (fun ls hl => ?_)
  refine lv_iconst (v := 2) hx hb dL_segment_19 (by decide) ?_
  exact vx_ret (g_iret hx hb hrt hlocks hS hG rfl rfl dL_segment_20)
set_option maxHeartbeats 4000000 in
set_option maxRecDepth 100000 in
theorem wL_house {l : Launch} {Γ : gX} (hcs : 491 ∈ gcs Γ) (h475 : 475 ∈ gcs Γ) (hall : ∀ c ∈ gcs Γ, c < 492) {fr lo : Nat} (hfr : fr ≤ 8) (hlo : lo ≤ 140) {M M1 : Nat → Nat → Int32} {R R1 : Nat → Nat → Option Nat} {O : Int64} (a : Int32) (d : Int32) {v : Int32} (hM : gMet l Γ yX6_house wsX6_house fr lo [.ref (gad Γ 475), .int a, .int d] M R O (some (.int v)) M1 R1 O) : gWrp l Γ yL_house wsL_house 9 180 [.ref (gad Γ 475), .int a, .int d, .ref (gad Γ 491)] M R O (some (.int 0)) M1 R1 v.toInt64 := by
  refine g_startW (cc := cL_house) (maxL := 5) (ret := (some .int)) (hh := [(0, 10, 13, 28), (0, 10, 17, 13)]) (by decide) rfl (Nat.le_of_ble_eq_true rfl) ?_
  intro p e s m below meth c ls hx hb hml hrt hts hown hlocks hname hK hZ hG hS hl hX hY hnx
  have hl : lv_has ls 5 [(0, .ref (gad Γ 475)), (1, .int a), (2, .int d), (3, .ref (gad Γ 491))] := hl
  have hown : s.vm.findClass RL = some m.cls := hown
  have hF : CallFix p m c cL_house 5 s _ wsL_house RL := ⟨hx, hb, hml, hown, hts⟩
  refine lv_aload_n hx hb dL_house_0 rfl (lv_at hl 3 rfl) ?_
  refine lv_iconst (v := 0) hx hb dL_house_1 (by decide) ?_
  refine lv_aload_n hx hb dL_house_2 rfl (lv_at hl 0 rfl) ?_
  refine lv_iload_n hx hb dL_house_3 rfl (lv_at hl 1 rfl) ?_
  refine lv_iload_n hx hb dL_house_4 rfl (lv_at hl 2 rfl) ?_
  refine g_callV (As := [.int a, .int d]) (rest := [.int 0, .ref (gad Γ 491)]) (st1 := [.int v, .int 0, .ref (gad Γ 491)]) hF hM (cwV 2 hts gL_house_X6_house rfl rfl rfl (by decide +kernel) ⟨(by show fr + 1 ≤ 9; omega), (by show 8 + (_ + 11) + lo ≤ 180; omega)⟩) hK hZ hG hS h475 (show gC 475 = (6, 32, 0) from rfl) (by decide) rfl rfl hl.1 (Nat.le_of_ble_eq_true rfl) dL_house_5 ⟨Nat.zero_le _, Nat.zero_le _⟩ rfl rfl (fun H locs hG hS => ?_)
  refine lv_i2l hx hb dL_house_8 rfl ?_
  refine g_last hx hb hK hG hS hcs hall dL_house_9 (fun H locs hG hS => ?_)
  refine lv_goto (tgt := 21) hx hb dL_house_10 (by decide) ?_
  refine lv_iconst (v := 0) hx hb dL_house_21 (by decide) ?_
  refine W.widen (k := 1) (n := 6) (by decide) (by decide) ?_
  exact vx_ret (g_iret hx hb hrt hlocks hS hG rfl rfl dL_house_22)
set_option maxHeartbeats 4000000 in
set_option maxRecDepth 100000 in
theorem wL_house_t1 {l : Launch} {Γ : gX} (hcs : 491 ∈ gcs Γ) (h475 : 475 ∈ gcs Γ) {fr lo : Nat} (hfr : fr ≤ 8) (hlo : lo ≤ 140) {M M1 : Nat → Nat → Int32} {R R1 : Nat → Nat → Option Nat} {O : Int64} (a : Int32) (d : Int32) (hM : gThr l Γ yX6_house wsX6_house fr lo [.ref (gad Γ 475), .int a, .int d] M R O "java/lang/IndexOutOfBoundsException" M1 R1 O) : gWrp l Γ yL_house wsL_house 9 180 [.ref (gad Γ 475), .int a, .int d, .ref (gad Γ 491)] M R O (some (.int 1)) M1 R1 O := by
  refine g_startW (cc := cL_house) (maxL := 5) (ret := (some .int)) (hh := [(0, 10, 13, 28), (0, 10, 17, 13)]) (by decide) rfl (Nat.le_of_ble_eq_true rfl) ?_
  intro p e s m below meth c ls hx hb hml hrt hts hown hlocks hname hK hZ hG hS hl hX hY hnx
  have hl : lv_has ls 5 [(0, .ref (gad Γ 475)), (1, .int a), (2, .int d), (3, .ref (gad Γ 491))] := hl
  have hown : s.vm.findClass RL = some m.cls := hown
  have hF : CallFix p m c cL_house 5 s _ wsL_house RL := ⟨hx, hb, hml, hown, hts⟩
  refine lv_aload_n hx hb dL_house_0 rfl (lv_at hl 3 rfl) ?_
  refine lv_iconst (v := 0) hx hb dL_house_1 (by decide) ?_
  refine lv_aload_n hx hb dL_house_2 rfl (lv_at hl 0 rfl) ?_
  refine lv_iload_n hx hb dL_house_3 rfl (lv_at hl 1 rfl) ?_
  refine lv_iload_n hx hb dL_house_4 rfl (lv_at hl 2 rfl) ?_
  refine g_xVc (As := [.int a, .int d]) (rest := [.int 0, .ref (gad Γ 491)]) hF hM (cwV 2 hts gL_house_X6_house rfl rfl rfl (by decide +kernel) ⟨(by show fr + 1 ≤ 9; omega), (by show 8 + (_ + 11) + lo ≤ 180; omega)⟩) hK hZ hX hG hS h475 (show gC 475 = (6, 32, 0) from rfl) (by decide) rfl rfl hl.1 (Nat.le_of_ble_eq_true rfl) dL_house_5 ⟨Nat.le_of_ble_eq_true rfl, Nat.le_of_ble_eq_true rfl⟩ rfl (fun ce q9 H locs hG hS hce hcv hcl => ?_)
  refine vx_catch (name := "java/lang/IndexOutOfBoundsException") hown [] ⟨0, 10, 13, 28⟩ [⟨0, 10, 17, 13⟩] (by rw [hnx]; rfl) (fun _ h => absurd h List.not_mem_nil) (by decide) (by decide) (hts (Cond.classLink RL 28 "java/lang/IndexOutOfBoundsException") (by decide +kernel)) (gx_cast hX (by decide +kernel)) hce hcv hcl ?_
  refine lv_astore (lv' := [(4, .ref q9), (0, .ref (gad Γ 475)), (1, .int a), (2, .int d), (3, .ref (gad Γ 491))]) hx hb dL_house_13 hl (by decide) rfl (fun ls hl => ?_)
  refine lv_iconst (v := 1) hx hb dL_house_15 (by decide) ?_
  exact vx_ret (g_iret hx hb hrt hlocks hS hG rfl rfl dL_house_16)
set_option maxHeartbeats 4000000 in
set_option maxRecDepth 100000 in
theorem wL_house_t2 {l : Launch} {Γ : gX} (hcs : 491 ∈ gcs Γ) (h475 : 475 ∈ gcs Γ) {fr lo : Nat} (hfr : fr ≤ 8) (hlo : lo ≤ 140) {M M1 : Nat → Nat → Int32} {R R1 : Nat → Nat → Option Nat} {O : Int64} (a : Int32) (d : Int32) (hM : gThr l Γ yX6_house wsX6_house fr lo [.ref (gad Γ 475), .int a, .int d] M R O "java/lang/IllegalArgumentException" M1 R1 O) : gWrp l Γ yL_house wsL_house 9 180 [.ref (gad Γ 475), .int a, .int d, .ref (gad Γ 491)] M R O (some (.int 2)) M1 R1 O := by
  refine g_startW (cc := cL_house) (maxL := 5) (ret := (some .int)) (hh := [(0, 10, 13, 28), (0, 10, 17, 13)]) (by decide) rfl (Nat.le_of_ble_eq_true rfl) ?_
  intro p e s m below meth c ls hx hb hml hrt hts hown hlocks hname hK hZ hG hS hl hX hY hnx
  have hl : lv_has ls 5 [(0, .ref (gad Γ 475)), (1, .int a), (2, .int d), (3, .ref (gad Γ 491))] := hl
  have hown : s.vm.findClass RL = some m.cls := hown
  have hF : CallFix p m c cL_house 5 s _ wsL_house RL := ⟨hx, hb, hml, hown, hts⟩
  refine lv_aload_n hx hb dL_house_0 rfl (lv_at hl 3 rfl) ?_
  refine lv_iconst (v := 0) hx hb dL_house_1 (by decide) ?_
  refine lv_aload_n hx hb dL_house_2 rfl (lv_at hl 0 rfl) ?_
  refine lv_iload_n hx hb dL_house_3 rfl (lv_at hl 1 rfl) ?_
  refine lv_iload_n hx hb dL_house_4 rfl (lv_at hl 2 rfl) ?_
  refine g_xVc (As := [.int a, .int d]) (rest := [.int 0, .ref (gad Γ 491)]) hF hM (cwV 2 hts gL_house_X6_house rfl rfl rfl (by decide +kernel) ⟨(by show fr + 1 ≤ 9; omega), (by show 8 + (_ + 11) + lo ≤ 180; omega)⟩) hK hZ hX hG hS h475 (show gC 475 = (6, 32, 0) from rfl) (by decide) rfl rfl hl.1 (Nat.le_of_ble_eq_true rfl) dL_house_5 ⟨Nat.le_of_ble_eq_true rfl, Nat.le_of_ble_eq_true rfl⟩ rfl (fun ce q9 H locs hG hS hce hcv hcl => ?_)
  refine vx_catch (name := "java/lang/IllegalArgumentException") hown [⟨0, 10, 13, 28⟩] ⟨0, 10, 17, 13⟩ [] (by rw [hnx]; rfl) (List.forall_mem_cons.mpr ⟨Or.inr ⟨by decide, "java/lang/IndexOutOfBoundsException", hts (Cond.classLink RL 28 "java/lang/IndexOutOfBoundsException") (by decide +kernel), hY.1⟩, (fun _ h => absurd h List.not_mem_nil)⟩) (by decide) (by decide) (hts (Cond.classLink RL 13 "java/lang/IllegalArgumentException") (by decide +kernel)) (gx_cast hX (by decide +kernel)) hce hcv hcl ?_
  refine lv_astore (lv' := [(4, .ref q9), (0, .ref (gad Γ 475)), (1, .int a), (2, .int d), (3, .ref (gad Γ 491))]) hx hb dL_house_17 hl (by decide) rfl (fun ls hl => ?_)
  refine lv_iconst (v := 2) hx hb dL_house_19 (by decide) ?_
  exact vx_ret (g_iret hx hb hrt hlocks hS hG rfl rfl dL_house_20)
set_option maxHeartbeats 4000000 in
set_option maxRecDepth 100000 in
theorem wL_wagon {l : Launch} {Γ : gX} (hcs : 491 ∈ gcs Γ) (h475 : 475 ∈ gcs Γ) (hall : ∀ c ∈ gcs Γ, c < 492) {fr lo : Nat} (hfr : fr ≤ 8) (hlo : lo ≤ 140) {M M1 : Nat → Nat → Int32} {R R1 : Nat → Nat → Option Nat} {O : Int64} (a : Int32) (d : Int32) {v : Int32} (hM : gMet l Γ yX6_wagon wsX6_wagon fr lo [.ref (gad Γ 475), .int a, .int d] M R O (some (.int v)) M1 R1 O) : gWrp l Γ yL_wagon wsL_wagon 9 180 [.ref (gad Γ 475), .int a, .int d, .ref (gad Γ 491)] M R O (some (.int 0)) M1 R1 v.toInt64 := by
  refine g_startW (cc := cL_wagon) (maxL := 5) (ret := (some .int)) (hh := [(0, 10, 13, 28), (0, 10, 17, 13)]) (by decide) rfl (Nat.le_of_ble_eq_true rfl) ?_
  intro p e s m below meth c ls hx hb hml hrt hts hown hlocks hname hK hZ hG hS hl hX hY hnx
  have hl : lv_has ls 5 [(0, .ref (gad Γ 475)), (1, .int a), (2, .int d), (3, .ref (gad Γ 491))] := hl
  have hown : s.vm.findClass RL = some m.cls := hown
  have hF : CallFix p m c cL_wagon 5 s _ wsL_wagon RL := ⟨hx, hb, hml, hown, hts⟩
  refine lv_aload_n hx hb dL_wagon_0 rfl (lv_at hl 3 rfl) ?_
  refine lv_iconst (v := 0) hx hb dL_wagon_1 (by decide) ?_
  refine lv_aload_n hx hb dL_wagon_2 rfl (lv_at hl 0 rfl) ?_
  refine lv_iload_n hx hb dL_wagon_3 rfl (lv_at hl 1 rfl) ?_
  refine lv_iload_n hx hb dL_wagon_4 rfl (lv_at hl 2 rfl) ?_
  refine g_callV (As := [.int a, .int d]) (rest := [.int 0, .ref (gad Γ 491)]) (st1 := [.int v, .int 0, .ref (gad Γ 491)]) hF hM (cwV 2 hts gL_wagon_X6_wagon rfl rfl rfl (by decide +kernel) ⟨(by show fr + 1 ≤ 9; omega), (by show 8 + (_ + 11) + lo ≤ 180; omega)⟩) hK hZ hG hS h475 (show gC 475 = (6, 32, 0) from rfl) (by decide) rfl rfl hl.1 (Nat.le_of_ble_eq_true rfl) dL_wagon_5 ⟨Nat.zero_le _, Nat.zero_le _⟩ rfl rfl (fun H locs hG hS => ?_)
  refine lv_i2l hx hb dL_wagon_8 rfl ?_
  refine g_last hx hb hK hG hS hcs hall dL_wagon_9 (fun H locs hG hS => ?_)
  refine lv_goto (tgt := 21) hx hb dL_wagon_10 (by decide) ?_
  refine lv_iconst (v := 0) hx hb dL_wagon_21 (by decide) ?_
  refine W.widen (k := 1) (n := 6) (by decide) (by decide) ?_
  exact vx_ret (g_iret hx hb hrt hlocks hS hG rfl rfl dL_wagon_22)
set_option maxHeartbeats 4000000 in
set_option maxRecDepth 100000 in
theorem wL_wagon_t1 {l : Launch} {Γ : gX} (hcs : 491 ∈ gcs Γ) (h475 : 475 ∈ gcs Γ) {fr lo : Nat} (hfr : fr ≤ 8) (hlo : lo ≤ 140) {M M1 : Nat → Nat → Int32} {R R1 : Nat → Nat → Option Nat} {O : Int64} (a : Int32) (d : Int32) (hM : gThr l Γ yX6_wagon wsX6_wagon fr lo [.ref (gad Γ 475), .int a, .int d] M R O "java/lang/IndexOutOfBoundsException" M1 R1 O) : gWrp l Γ yL_wagon wsL_wagon 9 180 [.ref (gad Γ 475), .int a, .int d, .ref (gad Γ 491)] M R O (some (.int 1)) M1 R1 O := by
  refine g_startW (cc := cL_wagon) (maxL := 5) (ret := (some .int)) (hh := [(0, 10, 13, 28), (0, 10, 17, 13)]) (by decide) rfl (Nat.le_of_ble_eq_true rfl) ?_
  intro p e s m below meth c ls hx hb hml hrt hts hown hlocks hname hK hZ hG hS hl hX hY hnx
  have hl : lv_has ls 5 [(0, .ref (gad Γ 475)), (1, .int a), (2, .int d), (3, .ref (gad Γ 491))] := hl
  have hown : s.vm.findClass RL = some m.cls := hown
  have hF : CallFix p m c cL_wagon 5 s _ wsL_wagon RL := ⟨hx, hb, hml, hown, hts⟩
  refine lv_aload_n hx hb dL_wagon_0 rfl (lv_at hl 3 rfl) ?_
  refine lv_iconst (v := 0) hx hb dL_wagon_1 (by decide) ?_
  refine lv_aload_n hx hb dL_wagon_2 rfl (lv_at hl 0 rfl) ?_
  refine lv_iload_n hx hb dL_wagon_3 rfl (lv_at hl 1 rfl) ?_
  refine lv_iload_n hx hb dL_wagon_4 rfl (lv_at hl 2 rfl) ?_
  refine g_xVc (As := [.int a, .int d]) (rest := [.int 0, .ref (gad Γ 491)]) hF hM (cwV 2 hts gL_wagon_X6_wagon rfl rfl rfl (by decide +kernel) ⟨(by show fr + 1 ≤ 9; omega), (by show 8 + (_ + 11) + lo ≤ 180; omega)⟩) hK hZ hX hG hS h475 (show gC 475 = (6, 32, 0) from rfl) (by decide) rfl rfl hl.1 (Nat.le_of_ble_eq_true rfl) dL_wagon_5 ⟨Nat.le_of_ble_eq_true rfl, Nat.le_of_ble_eq_true rfl⟩ rfl (fun ce q9 H locs hG hS hce hcv hcl => ?_)
  refine vx_catch (name := "java/lang/IndexOutOfBoundsException") hown [] ⟨0, 10, 13, 28⟩ [⟨0, 10, 17, 13⟩] (by rw [hnx]; rfl) (fun _ h => absurd h List.not_mem_nil) (by decide) (by decide) (hts (Cond.classLink RL 28 "java/lang/IndexOutOfBoundsException") (by decide +kernel)) (gx_cast hX (by decide +kernel)) hce hcv hcl ?_
  refine lv_astore (lv' := [(4, .ref q9), (0, .ref (gad Γ 475)), (1, .int a), (2, .int d), (3, .ref (gad Γ 491))]) hx hb dL_wagon_13 hl (by decide) rfl (fun ls hl => ?_)
  refine lv_iconst (v := 1) hx hb dL_wagon_15 (by decide) ?_
  exact vx_ret (g_iret hx hb hrt hlocks hS hG rfl rfl dL_wagon_16)
set_option maxHeartbeats 4000000 in
set_option maxRecDepth 100000 in
theorem wL_wagon_t2 {l : Launch} {Γ : gX} (hcs : 491 ∈ gcs Γ) (h475 : 475 ∈ gcs Γ) {fr lo : Nat} (hfr : fr ≤ 8) (hlo : lo ≤ 140) {M M1 : Nat → Nat → Int32} {R R1 : Nat → Nat → Option Nat} {O : Int64} (a : Int32) (d : Int32) (hM : gThr l Γ yX6_wagon wsX6_wagon fr lo [.ref (gad Γ 475), .int a, .int d] M R O "java/lang/IllegalArgumentException" M1 R1 O) : gWrp l Γ yL_wagon wsL_wagon 9 180 [.ref (gad Γ 475), .int a, .int d, .ref (gad Γ 491)] M R O (some (.int 2)) M1 R1 O := by
  refine g_startW (cc := cL_wagon) (maxL := 5) (ret := (some .int)) (hh := [(0, 10, 13, 28), (0, 10, 17, 13)]) (by decide) rfl (Nat.le_of_ble_eq_true rfl) ?_
  intro p e s m below meth c ls hx hb hml hrt hts hown hlocks hname hK hZ hG hS hl hX hY hnx
  have hl : lv_has ls 5 [(0, .ref (gad Γ 475)), (1, .int a), (2, .int d), (3, .ref (gad Γ 491))] := hl
  have hown : s.vm.findClass RL = some m.cls := hown
  have hF : CallFix p m c cL_wagon 5 s _ wsL_wagon RL := ⟨hx, hb, hml, hown, hts⟩
  refine lv_aload_n hx hb dL_wagon_0 rfl (lv_at hl 3 rfl) ?_
  refine lv_iconst (v := 0) hx hb dL_wagon_1 (by decide) ?_
  refine lv_aload_n hx hb dL_wagon_2 rfl (lv_at hl 0 rfl) ?_
  refine lv_iload_n hx hb dL_wagon_3 rfl (lv_at hl 1 rfl) ?_
  refine lv_iload_n hx hb dL_wagon_4 rfl (lv_at hl 2 rfl) ?_
  refine g_xVc (As := [.int a, .int d]) (rest := [.int 0, .ref (gad Γ 491)]) hF hM (cwV 2 hts gL_wagon_X6_wagon rfl rfl rfl (by decide +kernel) ⟨(by show fr + 1 ≤ 9; omega), (by show 8 + (_ + 11) + lo ≤ 180; omega)⟩) hK hZ hX hG hS h475 (show gC 475 = (6, 32, 0) from rfl) (by decide) rfl rfl hl.1 (Nat.le_of_ble_eq_true rfl) dL_wagon_5 ⟨Nat.le_of_ble_eq_true rfl, Nat.le_of_ble_eq_true rfl⟩ rfl (fun ce q9 H locs hG hS hce hcv hcl => ?_)
  refine vx_catch (name := "java/lang/IllegalArgumentException") hown [⟨0, 10, 13, 28⟩] ⟨0, 10, 17, 13⟩ [] (by rw [hnx]; rfl) (List.forall_mem_cons.mpr ⟨Or.inr ⟨by decide, "java/lang/IndexOutOfBoundsException", hts (Cond.classLink RL 28 "java/lang/IndexOutOfBoundsException") (by decide +kernel), hY.1⟩, (fun _ h => absurd h List.not_mem_nil)⟩) (by decide) (by decide) (hts (Cond.classLink RL 13 "java/lang/IllegalArgumentException") (by decide +kernel)) (gx_cast hX (by decide +kernel)) hce hcv hcl ?_
  refine lv_astore (lv' := [(4, .ref q9), (0, .ref (gad Γ 475)), (1, .int a), (2, .int d), (3, .ref (gad Γ 491))]) hx hb dL_wagon_17 hl (by decide) rfl (fun ls hl => ?_)
  refine lv_iconst (v := 2) hx hb dL_wagon_19 (by decide) ?_
  exact vx_ret (g_iret hx hb hrt hlocks hS hG rfl rfl dL_wagon_20)
set_option maxHeartbeats 4000000 in
set_option maxRecDepth 100000 in
theorem wL_addHouse {l : Launch} {Γ : gX} (hcs : 491 ∈ gcs Γ) (h475 : 475 ∈ gcs Γ) (hall : ∀ c ∈ gcs Γ, c < 492) {fr lo : Nat} (hfr : fr ≤ 8) (hlo : lo ≤ 140) {M M1 : Nat → Nat → Int32} {R R1 : Nat → Nat → Option Nat} {O : Int64} (a : Int32) (d : Int32) {v : Int32} (hM : gMet l Γ yX6_addHouse wsX6_addHouse fr lo [.ref (gad Γ 475), .int a, .int d] M R O (some (.int v)) M1 R1 O) : gWrp l Γ yL_addHouse wsL_addHouse 9 180 [.ref (gad Γ 475), .int a, .int d, .ref (gad Γ 491)] M R O (some (.int 0)) M1 R1 v.toInt64 := by
  refine g_startW (cc := cL_addHouse) (maxL := 5) (ret := (some .int)) (hh := [(0, 10, 13, 28), (0, 10, 17, 13), (0, 10, 21, 15)]) (by decide) rfl (Nat.le_of_ble_eq_true rfl) ?_
  intro p e s m below meth c ls hx hb hml hrt hts hown hlocks hname hK hZ hG hS hl hX hY hnx
  have hl : lv_has ls 5 [(0, .ref (gad Γ 475)), (1, .int a), (2, .int d), (3, .ref (gad Γ 491))] := hl
  have hown : s.vm.findClass RL = some m.cls := hown
  have hF : CallFix p m c cL_addHouse 5 s _ wsL_addHouse RL := ⟨hx, hb, hml, hown, hts⟩
  refine lv_aload_n hx hb dL_addHouse_0 rfl (lv_at hl 3 rfl) ?_
  refine lv_iconst (v := 0) hx hb dL_addHouse_1 (by decide) ?_
  refine lv_aload_n hx hb dL_addHouse_2 rfl (lv_at hl 0 rfl) ?_
  refine lv_iload_n hx hb dL_addHouse_3 rfl (lv_at hl 1 rfl) ?_
  refine lv_iload_n hx hb dL_addHouse_4 rfl (lv_at hl 2 rfl) ?_
  refine g_callV (As := [.int a, .int d]) (rest := [.int 0, .ref (gad Γ 491)]) (st1 := [.int v, .int 0, .ref (gad Γ 491)]) hF hM (cwV 2 hts gL_addHouse_X6_addHouse rfl rfl rfl (by decide +kernel) ⟨(by show fr + 1 ≤ 9; omega), (by show 8 + (_ + 11) + lo ≤ 180; omega)⟩) hK hZ hG hS h475 (show gC 475 = (6, 32, 0) from rfl) (by decide) rfl rfl hl.1 (Nat.le_of_ble_eq_true rfl) dL_addHouse_5 ⟨Nat.zero_le _, Nat.zero_le _⟩ rfl rfl (fun H locs hG hS => ?_)
  refine lv_i2l hx hb dL_addHouse_8 rfl ?_
  refine g_last hx hb hK hG hS hcs hall dL_addHouse_9 (fun H locs hG hS => ?_)
  refine lv_goto (tgt := 25) hx hb dL_addHouse_10 (by decide) ?_
  refine lv_iconst (v := 0) hx hb dL_addHouse_25 (by decide) ?_
  refine W.widen (k := 1) (n := 6) (by decide) (by decide) ?_
  exact vx_ret (g_iret hx hb hrt hlocks hS hG rfl rfl dL_addHouse_26)
set_option maxHeartbeats 4000000 in
set_option maxRecDepth 100000 in
theorem wL_addHouse_t1 {l : Launch} {Γ : gX} (hcs : 491 ∈ gcs Γ) (h475 : 475 ∈ gcs Γ) {fr lo : Nat} (hfr : fr ≤ 8) (hlo : lo ≤ 140) {M M1 : Nat → Nat → Int32} {R R1 : Nat → Nat → Option Nat} {O : Int64} (a : Int32) (d : Int32) (hM : gThr l Γ yX6_addHouse wsX6_addHouse fr lo [.ref (gad Γ 475), .int a, .int d] M R O "java/lang/IndexOutOfBoundsException" M1 R1 O) : gWrp l Γ yL_addHouse wsL_addHouse 9 180 [.ref (gad Γ 475), .int a, .int d, .ref (gad Γ 491)] M R O (some (.int 1)) M1 R1 O := by
  refine g_startW (cc := cL_addHouse) (maxL := 5) (ret := (some .int)) (hh := [(0, 10, 13, 28), (0, 10, 17, 13), (0, 10, 21, 15)]) (by decide) rfl (Nat.le_of_ble_eq_true rfl) ?_
  intro p e s m below meth c ls hx hb hml hrt hts hown hlocks hname hK hZ hG hS hl hX hY hnx
  have hl : lv_has ls 5 [(0, .ref (gad Γ 475)), (1, .int a), (2, .int d), (3, .ref (gad Γ 491))] := hl
  have hown : s.vm.findClass RL = some m.cls := hown
  have hF : CallFix p m c cL_addHouse 5 s _ wsL_addHouse RL := ⟨hx, hb, hml, hown, hts⟩
  refine lv_aload_n hx hb dL_addHouse_0 rfl (lv_at hl 3 rfl) ?_
  refine lv_iconst (v := 0) hx hb dL_addHouse_1 (by decide) ?_
  refine lv_aload_n hx hb dL_addHouse_2 rfl (lv_at hl 0 rfl) ?_
  refine lv_iload_n hx hb dL_addHouse_3 rfl (lv_at hl 1 rfl) ?_
  refine lv_iload_n hx hb dL_addHouse_4 rfl (lv_at hl 2 rfl) ?_
  refine g_xVc (As := [.int a, .int d]) (rest := [.int 0, .ref (gad Γ 491)]) hF hM (cwV 2 hts gL_addHouse_X6_addHouse rfl rfl rfl (by decide +kernel) ⟨(by show fr + 1 ≤ 9; omega), (by show 8 + (_ + 11) + lo ≤ 180; omega)⟩) hK hZ hX hG hS h475 (show gC 475 = (6, 32, 0) from rfl) (by decide) rfl rfl hl.1 (Nat.le_of_ble_eq_true rfl) dL_addHouse_5 ⟨Nat.le_of_ble_eq_true rfl, Nat.le_of_ble_eq_true rfl⟩ rfl (fun ce q9 H locs hG hS hce hcv hcl => ?_)
  refine vx_catch (name := "java/lang/IndexOutOfBoundsException") hown [] ⟨0, 10, 13, 28⟩ [⟨0, 10, 17, 13⟩, ⟨0, 10, 21, 15⟩] (by rw [hnx]; rfl) (fun _ h => absurd h List.not_mem_nil) (by decide) (by decide) (hts (Cond.classLink RL 28 "java/lang/IndexOutOfBoundsException") (by decide +kernel)) (gx_cast hX (by decide +kernel)) hce hcv hcl ?_
  refine lv_astore (lv' := [(4, .ref q9), (0, .ref (gad Γ 475)), (1, .int a), (2, .int d), (3, .ref (gad Γ 491))]) hx hb dL_addHouse_13 hl (by decide) rfl (fun ls hl => ?_)
  refine lv_iconst (v := 1) hx hb dL_addHouse_15 (by decide) ?_
  exact vx_ret (g_iret hx hb hrt hlocks hS hG rfl rfl dL_addHouse_16)
set_option maxHeartbeats 4000000 in
set_option maxRecDepth 100000 in
theorem wL_addHouse_t2 {l : Launch} {Γ : gX} (hcs : 491 ∈ gcs Γ) (h475 : 475 ∈ gcs Γ) {fr lo : Nat} (hfr : fr ≤ 8) (hlo : lo ≤ 140) {M M1 : Nat → Nat → Int32} {R R1 : Nat → Nat → Option Nat} {O : Int64} (a : Int32) (d : Int32) (hM : gThr l Γ yX6_addHouse wsX6_addHouse fr lo [.ref (gad Γ 475), .int a, .int d] M R O "java/lang/IllegalArgumentException" M1 R1 O) : gWrp l Γ yL_addHouse wsL_addHouse 9 180 [.ref (gad Γ 475), .int a, .int d, .ref (gad Γ 491)] M R O (some (.int 2)) M1 R1 O := by
  refine g_startW (cc := cL_addHouse) (maxL := 5) (ret := (some .int)) (hh := [(0, 10, 13, 28), (0, 10, 17, 13), (0, 10, 21, 15)]) (by decide) rfl (Nat.le_of_ble_eq_true rfl) ?_
  intro p e s m below meth c ls hx hb hml hrt hts hown hlocks hname hK hZ hG hS hl hX hY hnx
  have hl : lv_has ls 5 [(0, .ref (gad Γ 475)), (1, .int a), (2, .int d), (3, .ref (gad Γ 491))] := hl
  have hown : s.vm.findClass RL = some m.cls := hown
  have hF : CallFix p m c cL_addHouse 5 s _ wsL_addHouse RL := ⟨hx, hb, hml, hown, hts⟩
  refine lv_aload_n hx hb dL_addHouse_0 rfl (lv_at hl 3 rfl) ?_
  refine lv_iconst (v := 0) hx hb dL_addHouse_1 (by decide) ?_
  refine lv_aload_n hx hb dL_addHouse_2 rfl (lv_at hl 0 rfl) ?_
  refine lv_iload_n hx hb dL_addHouse_3 rfl (lv_at hl 1 rfl) ?_
  refine lv_iload_n hx hb dL_addHouse_4 rfl (lv_at hl 2 rfl) ?_
  refine g_xVc (As := [.int a, .int d]) (rest := [.int 0, .ref (gad Γ 491)]) hF hM (cwV 2 hts gL_addHouse_X6_addHouse rfl rfl rfl (by decide +kernel) ⟨(by show fr + 1 ≤ 9; omega), (by show 8 + (_ + 11) + lo ≤ 180; omega)⟩) hK hZ hX hG hS h475 (show gC 475 = (6, 32, 0) from rfl) (by decide) rfl rfl hl.1 (Nat.le_of_ble_eq_true rfl) dL_addHouse_5 ⟨Nat.le_of_ble_eq_true rfl, Nat.le_of_ble_eq_true rfl⟩ rfl (fun ce q9 H locs hG hS hce hcv hcl => ?_)
  refine vx_catch (name := "java/lang/IllegalArgumentException") hown [⟨0, 10, 13, 28⟩] ⟨0, 10, 17, 13⟩ [⟨0, 10, 21, 15⟩] (by rw [hnx]; rfl) (List.forall_mem_cons.mpr ⟨Or.inr ⟨by decide, "java/lang/IndexOutOfBoundsException", hts (Cond.classLink RL 28 "java/lang/IndexOutOfBoundsException") (by decide +kernel), hY.1⟩, (fun _ h => absurd h List.not_mem_nil)⟩) (by decide) (by decide) (hts (Cond.classLink RL 13 "java/lang/IllegalArgumentException") (by decide +kernel)) (gx_cast hX (by decide +kernel)) hce hcv hcl ?_
  refine lv_astore (lv' := [(4, .ref q9), (0, .ref (gad Γ 475)), (1, .int a), (2, .int d), (3, .ref (gad Γ 491))]) hx hb dL_addHouse_17 hl (by decide) rfl (fun ls hl => ?_)
  refine lv_iconst (v := 2) hx hb dL_addHouse_19 (by decide) ?_
  exact vx_ret (g_iret hx hb hrt hlocks hS hG rfl rfl dL_addHouse_20)
set_option maxHeartbeats 4000000 in
set_option maxRecDepth 100000 in
theorem wL_addHouse_t3 {l : Launch} {Γ : gX} (hcs : 491 ∈ gcs Γ) (h475 : 475 ∈ gcs Γ) {fr lo : Nat} (hfr : fr ≤ 8) (hlo : lo ≤ 140) {M M1 : Nat → Nat → Int32} {R R1 : Nat → Nat → Option Nat} {O : Int64} (a : Int32) (d : Int32) (hM : gThr l Γ yX6_addHouse wsX6_addHouse fr lo [.ref (gad Γ 475), .int a, .int d] M R O "java/lang/IllegalStateException" M1 R1 O) : gWrp l Γ yL_addHouse wsL_addHouse 9 180 [.ref (gad Γ 475), .int a, .int d, .ref (gad Γ 491)] M R O (some (.int 3)) M1 R1 O := by
  refine g_startW (cc := cL_addHouse) (maxL := 5) (ret := (some .int)) (hh := [(0, 10, 13, 28), (0, 10, 17, 13), (0, 10, 21, 15)]) (by decide) rfl (Nat.le_of_ble_eq_true rfl) ?_
  intro p e s m below meth c ls hx hb hml hrt hts hown hlocks hname hK hZ hG hS hl hX hY hnx
  have hl : lv_has ls 5 [(0, .ref (gad Γ 475)), (1, .int a), (2, .int d), (3, .ref (gad Γ 491))] := hl
  have hown : s.vm.findClass RL = some m.cls := hown
  have hF : CallFix p m c cL_addHouse 5 s _ wsL_addHouse RL := ⟨hx, hb, hml, hown, hts⟩
  refine lv_aload_n hx hb dL_addHouse_0 rfl (lv_at hl 3 rfl) ?_
  refine lv_iconst (v := 0) hx hb dL_addHouse_1 (by decide) ?_
  refine lv_aload_n hx hb dL_addHouse_2 rfl (lv_at hl 0 rfl) ?_
  refine lv_iload_n hx hb dL_addHouse_3 rfl (lv_at hl 1 rfl) ?_
  refine lv_iload_n hx hb dL_addHouse_4 rfl (lv_at hl 2 rfl) ?_
  refine g_xVc (As := [.int a, .int d]) (rest := [.int 0, .ref (gad Γ 491)]) hF hM (cwV 2 hts gL_addHouse_X6_addHouse rfl rfl rfl (by decide +kernel) ⟨(by show fr + 1 ≤ 9; omega), (by show 8 + (_ + 11) + lo ≤ 180; omega)⟩) hK hZ hX hG hS h475 (show gC 475 = (6, 32, 0) from rfl) (by decide) rfl rfl hl.1 (Nat.le_of_ble_eq_true rfl) dL_addHouse_5 ⟨Nat.le_of_ble_eq_true rfl, Nat.le_of_ble_eq_true rfl⟩ rfl (fun ce q9 H locs hG hS hce hcv hcl => ?_)
  refine vx_catch (name := "java/lang/IllegalStateException") hown [⟨0, 10, 13, 28⟩, ⟨0, 10, 17, 13⟩] ⟨0, 10, 21, 15⟩ [] (by rw [hnx]; rfl) (List.forall_mem_cons.mpr ⟨Or.inr ⟨by decide, "java/lang/IndexOutOfBoundsException", hts (Cond.classLink RL 28 "java/lang/IndexOutOfBoundsException") (by decide +kernel), hY.2.1⟩, (List.forall_mem_cons.mpr ⟨Or.inr ⟨by decide, "java/lang/IllegalArgumentException", hts (Cond.classLink RL 13 "java/lang/IllegalArgumentException") (by decide +kernel), hY.2.2⟩, (fun _ h => absurd h List.not_mem_nil)⟩)⟩) (by decide) (by decide) (hts (Cond.classLink RL 15 "java/lang/IllegalStateException") (by decide +kernel)) (gx_cast hX (by decide +kernel)) hce hcv hcl ?_
  refine lv_astore (lv' := [(4, .ref q9), (0, .ref (gad Γ 475)), (1, .int a), (2, .int d), (3, .ref (gad Γ 491))]) hx hb dL_addHouse_21 hl (by decide) rfl (fun ls hl => ?_)
  refine lv_iconst (v := 3) hx hb dL_addHouse_23 (by decide) ?_
  exact vx_ret (g_iret hx hb hrt hlocks hS hG rfl rfl dL_addHouse_24)
set_option maxHeartbeats 4000000 in
set_option maxRecDepth 100000 in
theorem wL_addWagon {l : Launch} {Γ : gX} (hcs : 491 ∈ gcs Γ) (h475 : 475 ∈ gcs Γ) (hall : ∀ c ∈ gcs Γ, c < 492) {fr lo : Nat} (hfr : fr ≤ 8) (hlo : lo ≤ 140) {M M1 : Nat → Nat → Int32} {R R1 : Nat → Nat → Option Nat} {O : Int64} (a : Int32) {v : Int32} (hM : gMet l Γ yX6_addWagon wsX6_addWagon fr lo [.ref (gad Γ 475), .int a] M R O (some (.int v)) M1 R1 O) : gWrp l Γ yL_addWagon wsL_addWagon 9 180 [.ref (gad Γ 475), .int a, .ref (gad Γ 491)] M R O (some (.int 0)) M1 R1 v.toInt64 := by
  refine g_startW (cc := cL_addWagon) (maxL := 4) (ret := (some .int)) (hh := [(0, 9, 12, 28), (0, 9, 15, 15)]) (by decide) rfl (Nat.le_of_ble_eq_true rfl) ?_
  intro p e s m below meth c ls hx hb hml hrt hts hown hlocks hname hK hZ hG hS hl hX hY hnx
  have hl : lv_has ls 4 [(0, .ref (gad Γ 475)), (1, .int a), (2, .ref (gad Γ 491))] := hl
  have hown : s.vm.findClass RL = some m.cls := hown
  have hF : CallFix p m c cL_addWagon 4 s _ wsL_addWagon RL := ⟨hx, hb, hml, hown, hts⟩
  refine lv_aload_n hx hb dL_addWagon_0 rfl (lv_at hl 2 rfl) ?_
  refine lv_iconst (v := 0) hx hb dL_addWagon_1 (by decide) ?_
  refine lv_aload_n hx hb dL_addWagon_2 rfl (lv_at hl 0 rfl) ?_
  refine lv_iload_n hx hb dL_addWagon_3 rfl (lv_at hl 1 rfl) ?_
  refine g_callV (As := [.int a]) (rest := [.int 0, .ref (gad Γ 491)]) (st1 := [.int v, .int 0, .ref (gad Γ 491)]) hF hM (cwV 1 hts gL_addWagon_X6_addWagon rfl rfl rfl (by decide +kernel) ⟨(by show fr + 1 ≤ 9; omega), (by show 8 + (_ + 11) + lo ≤ 180; omega)⟩) hK hZ hG hS h475 (show gC 475 = (6, 32, 0) from rfl) (by decide) rfl rfl hl.1 (Nat.le_of_ble_eq_true rfl) dL_addWagon_4 ⟨Nat.zero_le _, Nat.zero_le _⟩ rfl rfl (fun H locs hG hS => ?_)
  refine lv_i2l hx hb dL_addWagon_7 rfl ?_
  refine g_last hx hb hK hG hS hcs hall dL_addWagon_8 (fun H locs hG hS => ?_)
  refine lv_goto (tgt := 18) hx hb dL_addWagon_9 (by decide) ?_
  refine lv_iconst (v := 0) hx hb dL_addWagon_18 (by decide) ?_
  refine W.widen (k := 1) (n := 6) (by decide) (by decide) ?_
  exact vx_ret (g_iret hx hb hrt hlocks hS hG rfl rfl dL_addWagon_19)
set_option maxHeartbeats 4000000 in
set_option maxRecDepth 100000 in
theorem wL_addWagon_t1 {l : Launch} {Γ : gX} (hcs : 491 ∈ gcs Γ) (h475 : 475 ∈ gcs Γ) {fr lo : Nat} (hfr : fr ≤ 8) (hlo : lo ≤ 140) {M M1 : Nat → Nat → Int32} {R R1 : Nat → Nat → Option Nat} {O : Int64} (a : Int32) (hM : gThr l Γ yX6_addWagon wsX6_addWagon fr lo [.ref (gad Γ 475), .int a] M R O "java/lang/IndexOutOfBoundsException" M1 R1 O) : gWrp l Γ yL_addWagon wsL_addWagon 9 180 [.ref (gad Γ 475), .int a, .ref (gad Γ 491)] M R O (some (.int 1)) M1 R1 O := by
  refine g_startW (cc := cL_addWagon) (maxL := 4) (ret := (some .int)) (hh := [(0, 9, 12, 28), (0, 9, 15, 15)]) (by decide) rfl (Nat.le_of_ble_eq_true rfl) ?_
  intro p e s m below meth c ls hx hb hml hrt hts hown hlocks hname hK hZ hG hS hl hX hY hnx
  have hl : lv_has ls 4 [(0, .ref (gad Γ 475)), (1, .int a), (2, .ref (gad Γ 491))] := hl
  have hown : s.vm.findClass RL = some m.cls := hown
  have hF : CallFix p m c cL_addWagon 4 s _ wsL_addWagon RL := ⟨hx, hb, hml, hown, hts⟩
  refine lv_aload_n hx hb dL_addWagon_0 rfl (lv_at hl 2 rfl) ?_
  refine lv_iconst (v := 0) hx hb dL_addWagon_1 (by decide) ?_
  refine lv_aload_n hx hb dL_addWagon_2 rfl (lv_at hl 0 rfl) ?_
  refine lv_iload_n hx hb dL_addWagon_3 rfl (lv_at hl 1 rfl) ?_
  refine g_xVc (As := [.int a]) (rest := [.int 0, .ref (gad Γ 491)]) hF hM (cwV 1 hts gL_addWagon_X6_addWagon rfl rfl rfl (by decide +kernel) ⟨(by show fr + 1 ≤ 9; omega), (by show 8 + (_ + 11) + lo ≤ 180; omega)⟩) hK hZ hX hG hS h475 (show gC 475 = (6, 32, 0) from rfl) (by decide) rfl rfl hl.1 (Nat.le_of_ble_eq_true rfl) dL_addWagon_4 ⟨Nat.le_of_ble_eq_true rfl, Nat.le_of_ble_eq_true rfl⟩ rfl (fun ce q9 H locs hG hS hce hcv hcl => ?_)
  refine vx_catch (name := "java/lang/IndexOutOfBoundsException") hown [] ⟨0, 9, 12, 28⟩ [⟨0, 9, 15, 15⟩] (by rw [hnx]; rfl) (fun _ h => absurd h List.not_mem_nil) (by decide) (by decide) (hts (Cond.classLink RL 28 "java/lang/IndexOutOfBoundsException") (by decide +kernel)) (gx_cast hX (by decide +kernel)) hce hcv hcl ?_
  refine lv_astore_n (lv' := [(3, .ref q9), (0, .ref (gad Γ 475)), (1, .int a), (2, .ref (gad Γ 491))]) hx hb dL_addWagon_12 rfl hl (by decide) rfl (fun ls hl => ?_)
  refine lv_iconst (v := 1) hx hb dL_addWagon_13 (by decide) ?_
  exact vx_ret (g_iret hx hb hrt hlocks hS hG rfl rfl dL_addWagon_14)
set_option maxHeartbeats 4000000 in
set_option maxRecDepth 100000 in
theorem wL_addWagon_t2 {l : Launch} {Γ : gX} (hcs : 491 ∈ gcs Γ) (h475 : 475 ∈ gcs Γ) {fr lo : Nat} (hfr : fr ≤ 8) (hlo : lo ≤ 140) {M M1 : Nat → Nat → Int32} {R R1 : Nat → Nat → Option Nat} {O : Int64} (a : Int32) (hM : gThr l Γ yX6_addWagon wsX6_addWagon fr lo [.ref (gad Γ 475), .int a] M R O "java/lang/IllegalStateException" M1 R1 O) : gWrp l Γ yL_addWagon wsL_addWagon 9 180 [.ref (gad Γ 475), .int a, .ref (gad Γ 491)] M R O (some (.int 2)) M1 R1 O := by
  refine g_startW (cc := cL_addWagon) (maxL := 4) (ret := (some .int)) (hh := [(0, 9, 12, 28), (0, 9, 15, 15)]) (by decide) rfl (Nat.le_of_ble_eq_true rfl) ?_
  intro p e s m below meth c ls hx hb hml hrt hts hown hlocks hname hK hZ hG hS hl hX hY hnx
  have hl : lv_has ls 4 [(0, .ref (gad Γ 475)), (1, .int a), (2, .ref (gad Γ 491))] := hl
  have hown : s.vm.findClass RL = some m.cls := hown
  have hF : CallFix p m c cL_addWagon 4 s _ wsL_addWagon RL := ⟨hx, hb, hml, hown, hts⟩
  refine lv_aload_n hx hb dL_addWagon_0 rfl (lv_at hl 2 rfl) ?_
  refine lv_iconst (v := 0) hx hb dL_addWagon_1 (by decide) ?_
  refine lv_aload_n hx hb dL_addWagon_2 rfl (lv_at hl 0 rfl) ?_
  refine lv_iload_n hx hb dL_addWagon_3 rfl (lv_at hl 1 rfl) ?_
  refine g_xVc (As := [.int a]) (rest := [.int 0, .ref (gad Γ 491)]) hF hM (cwV 1 hts gL_addWagon_X6_addWagon rfl rfl rfl (by decide +kernel) ⟨(by show fr + 1 ≤ 9; omega), (by show 8 + (_ + 11) + lo ≤ 180; omega)⟩) hK hZ hX hG hS h475 (show gC 475 = (6, 32, 0) from rfl) (by decide) rfl rfl hl.1 (Nat.le_of_ble_eq_true rfl) dL_addWagon_4 ⟨Nat.le_of_ble_eq_true rfl, Nat.le_of_ble_eq_true rfl⟩ rfl (fun ce q9 H locs hG hS hce hcv hcl => ?_)
  refine vx_catch (name := "java/lang/IllegalStateException") hown [⟨0, 9, 12, 28⟩] ⟨0, 9, 15, 15⟩ [] (by rw [hnx]; rfl) (List.forall_mem_cons.mpr ⟨Or.inr ⟨by decide, "java/lang/IndexOutOfBoundsException", hts (Cond.classLink RL 28 "java/lang/IndexOutOfBoundsException") (by decide +kernel), hY.2.1⟩, (fun _ h => absurd h List.not_mem_nil)⟩) (by decide) (by decide) (hts (Cond.classLink RL 15 "java/lang/IllegalStateException") (by decide +kernel)) (gx_cast hX (by decide +kernel)) hce hcv hcl ?_
  refine lv_astore_n (lv' := [(3, .ref q9), (0, .ref (gad Γ 475)), (1, .int a), (2, .ref (gad Γ 491))]) hx hb dL_addWagon_15 rfl hl (by decide) rfl (fun ls hl => ?_)
  refine lv_iconst (v := 2) hx hb dL_addWagon_16 (by decide) ?_
  exact vx_ret (g_iret hx hb hrt hlocks hS hG rfl rfl dL_addWagon_17)
set_option maxHeartbeats 4000000 in
set_option maxRecDepth 100000 in
theorem wL_setSurface {l : Launch} {Γ : gX} (hcs : 491 ∈ gcs Γ) (h475 : 475 ∈ gcs Γ) (hall : ∀ c ∈ gcs Γ, c < 492) {fr lo : Nat} (hfr : fr ≤ 8) (hlo : lo ≤ 140) {M M1 : Nat → Nat → Int32} {R R1 : Nat → Nat → Option Nat} {O : Int64} (a : Int32) (d : Int32) {v : Int32} (hM : gMet l Γ yX6_setSurface wsX6_setSurface fr lo [.ref (gad Γ 475), .int a, .int d] M R O (some (.int v)) M1 R1 O) : gWrp l Γ yL_setSurface wsL_setSurface 9 180 [.ref (gad Γ 475), .int a, .int d, .ref (gad Γ 491)] M R O (some (.int 0)) M1 R1 v.toInt64 := by
  refine g_startW (cc := cL_setSurface) (maxL := 5) (ret := (some .int)) (hh := [(0, 10, 13, 28), (0, 10, 17, 13)]) (by decide) rfl (Nat.le_of_ble_eq_true rfl) ?_
  intro p e s m below meth c ls hx hb hml hrt hts hown hlocks hname hK hZ hG hS hl hX hY hnx
  have hl : lv_has ls 5 [(0, .ref (gad Γ 475)), (1, .int a), (2, .int d), (3, .ref (gad Γ 491))] := hl
  have hown : s.vm.findClass RL = some m.cls := hown
  have hF : CallFix p m c cL_setSurface 5 s _ wsL_setSurface RL := ⟨hx, hb, hml, hown, hts⟩
  refine lv_aload_n hx hb dL_setSurface_0 rfl (lv_at hl 3 rfl) ?_
  refine lv_iconst (v := 0) hx hb dL_setSurface_1 (by decide) ?_
  refine lv_aload_n hx hb dL_setSurface_2 rfl (lv_at hl 0 rfl) ?_
  refine lv_iload_n hx hb dL_setSurface_3 rfl (lv_at hl 1 rfl) ?_
  refine lv_iload_n hx hb dL_setSurface_4 rfl (lv_at hl 2 rfl) ?_
  refine g_callV (As := [.int a, .int d]) (rest := [.int 0, .ref (gad Γ 491)]) (st1 := [.int v, .int 0, .ref (gad Γ 491)]) hF hM (cwV 2 hts gL_setSurface_X6_setSurface rfl rfl rfl (by decide +kernel) ⟨(by show fr + 1 ≤ 9; omega), (by show 8 + (_ + 11) + lo ≤ 180; omega)⟩) hK hZ hG hS h475 (show gC 475 = (6, 32, 0) from rfl) (by decide) rfl rfl hl.1 (Nat.le_of_ble_eq_true rfl) dL_setSurface_5 ⟨Nat.zero_le _, Nat.zero_le _⟩ rfl rfl (fun H locs hG hS => ?_)
  refine lv_i2l hx hb dL_setSurface_8 rfl ?_
  refine g_last hx hb hK hG hS hcs hall dL_setSurface_9 (fun H locs hG hS => ?_)
  refine lv_goto (tgt := 21) hx hb dL_setSurface_10 (by decide) ?_
  refine lv_iconst (v := 0) hx hb dL_setSurface_21 (by decide) ?_
  refine W.widen (k := 1) (n := 6) (by decide) (by decide) ?_
  exact vx_ret (g_iret hx hb hrt hlocks hS hG rfl rfl dL_setSurface_22)
set_option maxHeartbeats 4000000 in
set_option maxRecDepth 100000 in
theorem wL_setSurface_t1 {l : Launch} {Γ : gX} (hcs : 491 ∈ gcs Γ) (h475 : 475 ∈ gcs Γ) {fr lo : Nat} (hfr : fr ≤ 8) (hlo : lo ≤ 140) {M M1 : Nat → Nat → Int32} {R R1 : Nat → Nat → Option Nat} {O : Int64} (a : Int32) (d : Int32) (hM : gThr l Γ yX6_setSurface wsX6_setSurface fr lo [.ref (gad Γ 475), .int a, .int d] M R O "java/lang/IndexOutOfBoundsException" M1 R1 O) : gWrp l Γ yL_setSurface wsL_setSurface 9 180 [.ref (gad Γ 475), .int a, .int d, .ref (gad Γ 491)] M R O (some (.int 1)) M1 R1 O := by
  refine g_startW (cc := cL_setSurface) (maxL := 5) (ret := (some .int)) (hh := [(0, 10, 13, 28), (0, 10, 17, 13)]) (by decide) rfl (Nat.le_of_ble_eq_true rfl) ?_
  intro p e s m below meth c ls hx hb hml hrt hts hown hlocks hname hK hZ hG hS hl hX hY hnx
  have hl : lv_has ls 5 [(0, .ref (gad Γ 475)), (1, .int a), (2, .int d), (3, .ref (gad Γ 491))] := hl
  have hown : s.vm.findClass RL = some m.cls := hown
  have hF : CallFix p m c cL_setSurface 5 s _ wsL_setSurface RL := ⟨hx, hb, hml, hown, hts⟩
  refine lv_aload_n hx hb dL_setSurface_0 rfl (lv_at hl 3 rfl) ?_
  refine lv_iconst (v := 0) hx hb dL_setSurface_1 (by decide) ?_
  refine lv_aload_n hx hb dL_setSurface_2 rfl (lv_at hl 0 rfl) ?_
  refine lv_iload_n hx hb dL_setSurface_3 rfl (lv_at hl 1 rfl) ?_
  refine lv_iload_n hx hb dL_setSurface_4 rfl (lv_at hl 2 rfl) ?_
  refine g_xVc (As := [.int a, .int d]) (rest := [.int 0, .ref (gad Γ 491)]) hF hM (cwV 2 hts gL_setSurface_X6_setSurface rfl rfl rfl (by decide +kernel) ⟨(by show fr + 1 ≤ 9; omega), (by show 8 + (_ + 11) + lo ≤ 180; omega)⟩) hK hZ hX hG hS h475 (show gC 475 = (6, 32, 0) from rfl) (by decide) rfl rfl hl.1 (Nat.le_of_ble_eq_true rfl) dL_setSurface_5 ⟨Nat.le_of_ble_eq_true rfl, Nat.le_of_ble_eq_true rfl⟩ rfl (fun ce q9 H locs hG hS hce hcv hcl => ?_)
  refine vx_catch (name := "java/lang/IndexOutOfBoundsException") hown [] ⟨0, 10, 13, 28⟩ [⟨0, 10, 17, 13⟩] (by rw [hnx]; rfl) (fun _ h => absurd h List.not_mem_nil) (by decide) (by decide) (hts (Cond.classLink RL 28 "java/lang/IndexOutOfBoundsException") (by decide +kernel)) (gx_cast hX (by decide +kernel)) hce hcv hcl ?_
  refine lv_astore (lv' := [(4, .ref q9), (0, .ref (gad Γ 475)), (1, .int a), (2, .int d), (3, .ref (gad Γ 491))]) hx hb dL_setSurface_13 hl (by decide) rfl (fun ls hl => ?_)
  refine lv_iconst (v := 1) hx hb dL_setSurface_15 (by decide) ?_
  exact vx_ret (g_iret hx hb hrt hlocks hS hG rfl rfl dL_setSurface_16)
set_option maxHeartbeats 4000000 in
set_option maxRecDepth 100000 in
theorem wL_setSurface_t2 {l : Launch} {Γ : gX} (hcs : 491 ∈ gcs Γ) (h475 : 475 ∈ gcs Γ) {fr lo : Nat} (hfr : fr ≤ 8) (hlo : lo ≤ 140) {M M1 : Nat → Nat → Int32} {R R1 : Nat → Nat → Option Nat} {O : Int64} (a : Int32) (d : Int32) (hM : gThr l Γ yX6_setSurface wsX6_setSurface fr lo [.ref (gad Γ 475), .int a, .int d] M R O "java/lang/IllegalArgumentException" M1 R1 O) : gWrp l Γ yL_setSurface wsL_setSurface 9 180 [.ref (gad Γ 475), .int a, .int d, .ref (gad Γ 491)] M R O (some (.int 2)) M1 R1 O := by
  refine g_startW (cc := cL_setSurface) (maxL := 5) (ret := (some .int)) (hh := [(0, 10, 13, 28), (0, 10, 17, 13)]) (by decide) rfl (Nat.le_of_ble_eq_true rfl) ?_
  intro p e s m below meth c ls hx hb hml hrt hts hown hlocks hname hK hZ hG hS hl hX hY hnx
  have hl : lv_has ls 5 [(0, .ref (gad Γ 475)), (1, .int a), (2, .int d), (3, .ref (gad Γ 491))] := hl
  have hown : s.vm.findClass RL = some m.cls := hown
  have hF : CallFix p m c cL_setSurface 5 s _ wsL_setSurface RL := ⟨hx, hb, hml, hown, hts⟩
  refine lv_aload_n hx hb dL_setSurface_0 rfl (lv_at hl 3 rfl) ?_
  refine lv_iconst (v := 0) hx hb dL_setSurface_1 (by decide) ?_
  refine lv_aload_n hx hb dL_setSurface_2 rfl (lv_at hl 0 rfl) ?_
  refine lv_iload_n hx hb dL_setSurface_3 rfl (lv_at hl 1 rfl) ?_
  refine lv_iload_n hx hb dL_setSurface_4 rfl (lv_at hl 2 rfl) ?_
  refine g_xVc (As := [.int a, .int d]) (rest := [.int 0, .ref (gad Γ 491)]) hF hM (cwV 2 hts gL_setSurface_X6_setSurface rfl rfl rfl (by decide +kernel) ⟨(by show fr + 1 ≤ 9; omega), (by show 8 + (_ + 11) + lo ≤ 180; omega)⟩) hK hZ hX hG hS h475 (show gC 475 = (6, 32, 0) from rfl) (by decide) rfl rfl hl.1 (Nat.le_of_ble_eq_true rfl) dL_setSurface_5 ⟨Nat.le_of_ble_eq_true rfl, Nat.le_of_ble_eq_true rfl⟩ rfl (fun ce q9 H locs hG hS hce hcv hcl => ?_)
  refine vx_catch (name := "java/lang/IllegalArgumentException") hown [⟨0, 10, 13, 28⟩] ⟨0, 10, 17, 13⟩ [] (by rw [hnx]; rfl) (List.forall_mem_cons.mpr ⟨Or.inr ⟨by decide, "java/lang/IndexOutOfBoundsException", hts (Cond.classLink RL 28 "java/lang/IndexOutOfBoundsException") (by decide +kernel), hY.1⟩, (fun _ h => absurd h List.not_mem_nil)⟩) (by decide) (by decide) (hts (Cond.classLink RL 13 "java/lang/IllegalArgumentException") (by decide +kernel)) (gx_cast hX (by decide +kernel)) hce hcv hcl ?_
  refine lv_astore (lv' := [(4, .ref q9), (0, .ref (gad Γ 475)), (1, .int a), (2, .int d), (3, .ref (gad Γ 491))]) hx hb dL_setSurface_17 hl (by decide) rfl (fun ls hl => ?_)
  refine lv_iconst (v := 2) hx hb dL_setSurface_19 (by decide) ?_
  exact vx_ret (g_iret hx hb hrt hlocks hS hG rfl rfl dL_setSurface_20)
set_option maxHeartbeats 4000000 in
set_option maxRecDepth 100000 in
theorem wL_setLimit {l : Launch} {Γ : gX} (hcs : 491 ∈ gcs Γ) (h475 : 475 ∈ gcs Γ) (hall : ∀ c ∈ gcs Γ, c < 492) {fr lo : Nat} (hfr : fr ≤ 8) (hlo : lo ≤ 140) {M M1 : Nat → Nat → Int32} {R R1 : Nat → Nat → Option Nat} {O : Int64} (a : Int32) (d : Int32) {v : Int32} (hM : gMet l Γ yX6_setLimit wsX6_setLimit fr lo [.ref (gad Γ 475), .int a, .int d] M R O (some (.int v)) M1 R1 O) : gWrp l Γ yL_setLimit wsL_setLimit 9 180 [.ref (gad Γ 475), .int a, .int d, .ref (gad Γ 491)] M R O (some (.int 0)) M1 R1 v.toInt64 := by
  refine g_startW (cc := cL_setLimit) (maxL := 5) (ret := (some .int)) (hh := [(0, 10, 13, 28), (0, 10, 17, 13), (0, 10, 21, 15)]) (by decide) rfl (Nat.le_of_ble_eq_true rfl) ?_
  intro p e s m below meth c ls hx hb hml hrt hts hown hlocks hname hK hZ hG hS hl hX hY hnx
  have hl : lv_has ls 5 [(0, .ref (gad Γ 475)), (1, .int a), (2, .int d), (3, .ref (gad Γ 491))] := hl
  have hown : s.vm.findClass RL = some m.cls := hown
  have hF : CallFix p m c cL_setLimit 5 s _ wsL_setLimit RL := ⟨hx, hb, hml, hown, hts⟩
  refine lv_aload_n hx hb dL_setLimit_0 rfl (lv_at hl 3 rfl) ?_
  refine lv_iconst (v := 0) hx hb dL_setLimit_1 (by decide) ?_
  refine lv_aload_n hx hb dL_setLimit_2 rfl (lv_at hl 0 rfl) ?_
  refine lv_iload_n hx hb dL_setLimit_3 rfl (lv_at hl 1 rfl) ?_
  refine lv_iload_n hx hb dL_setLimit_4 rfl (lv_at hl 2 rfl) ?_
  refine g_callV (As := [.int a, .int d]) (rest := [.int 0, .ref (gad Γ 491)]) (st1 := [.int v, .int 0, .ref (gad Γ 491)]) hF hM (cwV 2 hts gL_setLimit_X6_setLimit rfl rfl rfl (by decide +kernel) ⟨(by show fr + 1 ≤ 9; omega), (by show 8 + (_ + 11) + lo ≤ 180; omega)⟩) hK hZ hG hS h475 (show gC 475 = (6, 32, 0) from rfl) (by decide) rfl rfl hl.1 (Nat.le_of_ble_eq_true rfl) dL_setLimit_5 ⟨Nat.zero_le _, Nat.zero_le _⟩ rfl rfl (fun H locs hG hS => ?_)
  refine lv_i2l hx hb dL_setLimit_8 rfl ?_
  refine g_last hx hb hK hG hS hcs hall dL_setLimit_9 (fun H locs hG hS => ?_)
  refine lv_goto (tgt := 25) hx hb dL_setLimit_10 (by decide) ?_
  refine lv_iconst (v := 0) hx hb dL_setLimit_25 (by decide) ?_
  refine W.widen (k := 1) (n := 6) (by decide) (by decide) ?_
  exact vx_ret (g_iret hx hb hrt hlocks hS hG rfl rfl dL_setLimit_26)
set_option maxHeartbeats 4000000 in
set_option maxRecDepth 100000 in
theorem wL_setLimit_t1 {l : Launch} {Γ : gX} (hcs : 491 ∈ gcs Γ) (h475 : 475 ∈ gcs Γ) {fr lo : Nat} (hfr : fr ≤ 8) (hlo : lo ≤ 140) {M M1 : Nat → Nat → Int32} {R R1 : Nat → Nat → Option Nat} {O : Int64} (a : Int32) (d : Int32) (hM : gThr l Γ yX6_setLimit wsX6_setLimit fr lo [.ref (gad Γ 475), .int a, .int d] M R O "java/lang/IndexOutOfBoundsException" M1 R1 O) : gWrp l Γ yL_setLimit wsL_setLimit 9 180 [.ref (gad Γ 475), .int a, .int d, .ref (gad Γ 491)] M R O (some (.int 1)) M1 R1 O := by
  refine g_startW (cc := cL_setLimit) (maxL := 5) (ret := (some .int)) (hh := [(0, 10, 13, 28), (0, 10, 17, 13), (0, 10, 21, 15)]) (by decide) rfl (Nat.le_of_ble_eq_true rfl) ?_
  intro p e s m below meth c ls hx hb hml hrt hts hown hlocks hname hK hZ hG hS hl hX hY hnx
  have hl : lv_has ls 5 [(0, .ref (gad Γ 475)), (1, .int a), (2, .int d), (3, .ref (gad Γ 491))] := hl
  have hown : s.vm.findClass RL = some m.cls := hown
  have hF : CallFix p m c cL_setLimit 5 s _ wsL_setLimit RL := ⟨hx, hb, hml, hown, hts⟩
  refine lv_aload_n hx hb dL_setLimit_0 rfl (lv_at hl 3 rfl) ?_
  refine lv_iconst (v := 0) hx hb dL_setLimit_1 (by decide) ?_
  refine lv_aload_n hx hb dL_setLimit_2 rfl (lv_at hl 0 rfl) ?_
  refine lv_iload_n hx hb dL_setLimit_3 rfl (lv_at hl 1 rfl) ?_
  refine lv_iload_n hx hb dL_setLimit_4 rfl (lv_at hl 2 rfl) ?_
  refine g_xVc (As := [.int a, .int d]) (rest := [.int 0, .ref (gad Γ 491)]) hF hM (cwV 2 hts gL_setLimit_X6_setLimit rfl rfl rfl (by decide +kernel) ⟨(by show fr + 1 ≤ 9; omega), (by show 8 + (_ + 11) + lo ≤ 180; omega)⟩) hK hZ hX hG hS h475 (show gC 475 = (6, 32, 0) from rfl) (by decide) rfl rfl hl.1 (Nat.le_of_ble_eq_true rfl) dL_setLimit_5 ⟨Nat.le_of_ble_eq_true rfl, Nat.le_of_ble_eq_true rfl⟩ rfl (fun ce q9 H locs hG hS hce hcv hcl => ?_)
  refine vx_catch (name := "java/lang/IndexOutOfBoundsException") hown [] ⟨0, 10, 13, 28⟩ [⟨0, 10, 17, 13⟩, ⟨0, 10, 21, 15⟩] (by rw [hnx]; rfl) (fun _ h => absurd h List.not_mem_nil) (by decide) (by decide) (hts (Cond.classLink RL 28 "java/lang/IndexOutOfBoundsException") (by decide +kernel)) (gx_cast hX (by decide +kernel)) hce hcv hcl ?_
  refine lv_astore (lv' := [(4, .ref q9), (0, .ref (gad Γ 475)), (1, .int a), (2, .int d), (3, .ref (gad Γ 491))]) hx hb dL_setLimit_13 hl (by decide) rfl (fun ls hl => ?_)
  refine lv_iconst (v := 1) hx hb dL_setLimit_15 (by decide) ?_
  exact vx_ret (g_iret hx hb hrt hlocks hS hG rfl rfl dL_setLimit_16)
set_option maxHeartbeats 4000000 in
set_option maxRecDepth 100000 in
theorem wL_setLimit_t2 {l : Launch} {Γ : gX} (hcs : 491 ∈ gcs Γ) (h475 : 475 ∈ gcs Γ) {fr lo : Nat} (hfr : fr ≤ 8) (hlo : lo ≤ 140) {M M1 : Nat → Nat → Int32} {R R1 : Nat → Nat → Option Nat} {O : Int64} (a : Int32) (d : Int32) (hM : gThr l Γ yX6_setLimit wsX6_setLimit fr lo [.ref (gad Γ 475), .int a, .int d] M R O "java/lang/IllegalArgumentException" M1 R1 O) : gWrp l Γ yL_setLimit wsL_setLimit 9 180 [.ref (gad Γ 475), .int a, .int d, .ref (gad Γ 491)] M R O (some (.int 2)) M1 R1 O := by
  refine g_startW (cc := cL_setLimit) (maxL := 5) (ret := (some .int)) (hh := [(0, 10, 13, 28), (0, 10, 17, 13), (0, 10, 21, 15)]) (by decide) rfl (Nat.le_of_ble_eq_true rfl) ?_
  intro p e s m below meth c ls hx hb hml hrt hts hown hlocks hname hK hZ hG hS hl hX hY hnx
  have hl : lv_has ls 5 [(0, .ref (gad Γ 475)), (1, .int a), (2, .int d), (3, .ref (gad Γ 491))] := hl
  have hown : s.vm.findClass RL = some m.cls := hown
  have hF : CallFix p m c cL_setLimit 5 s _ wsL_setLimit RL := ⟨hx, hb, hml, hown, hts⟩
  refine lv_aload_n hx hb dL_setLimit_0 rfl (lv_at hl 3 rfl) ?_
  refine lv_iconst (v := 0) hx hb dL_setLimit_1 (by decide) ?_
  refine lv_aload_n hx hb dL_setLimit_2 rfl (lv_at hl 0 rfl) ?_
  refine lv_iload_n hx hb dL_setLimit_3 rfl (lv_at hl 1 rfl) ?_
  refine lv_iload_n hx hb dL_setLimit_4 rfl (lv_at hl 2 rfl) ?_
  refine g_xVc (As := [.int a, .int d]) (rest := [.int 0, .ref (gad Γ 491)]) hF hM (cwV 2 hts gL_setLimit_X6_setLimit rfl rfl rfl (by decide +kernel) ⟨(by show fr + 1 ≤ 9; omega), (by show 8 + (_ + 11) + lo ≤ 180; omega)⟩) hK hZ hX hG hS h475 (show gC 475 = (6, 32, 0) from rfl) (by decide) rfl rfl hl.1 (Nat.le_of_ble_eq_true rfl) dL_setLimit_5 ⟨Nat.le_of_ble_eq_true rfl, Nat.le_of_ble_eq_true rfl⟩ rfl (fun ce q9 H locs hG hS hce hcv hcl => ?_)
  refine vx_catch (name := "java/lang/IllegalArgumentException") hown [⟨0, 10, 13, 28⟩] ⟨0, 10, 17, 13⟩ [⟨0, 10, 21, 15⟩] (by rw [hnx]; rfl) (List.forall_mem_cons.mpr ⟨Or.inr ⟨by decide, "java/lang/IndexOutOfBoundsException", hts (Cond.classLink RL 28 "java/lang/IndexOutOfBoundsException") (by decide +kernel), hY.1⟩, (fun _ h => absurd h List.not_mem_nil)⟩) (by decide) (by decide) (hts (Cond.classLink RL 13 "java/lang/IllegalArgumentException") (by decide +kernel)) (gx_cast hX (by decide +kernel)) hce hcv hcl ?_
  refine lv_astore (lv' := [(4, .ref q9), (0, .ref (gad Γ 475)), (1, .int a), (2, .int d), (3, .ref (gad Γ 491))]) hx hb dL_setLimit_17 hl (by decide) rfl (fun ls hl => ?_)
  refine lv_iconst (v := 2) hx hb dL_setLimit_19 (by decide) ?_
  exact vx_ret (g_iret hx hb hrt hlocks hS hG rfl rfl dL_setLimit_20)
set_option maxHeartbeats 4000000 in
set_option maxRecDepth 100000 in
theorem wL_setLimit_t3 {l : Launch} {Γ : gX} (hcs : 491 ∈ gcs Γ) (h475 : 475 ∈ gcs Γ) {fr lo : Nat} (hfr : fr ≤ 8) (hlo : lo ≤ 140) {M M1 : Nat → Nat → Int32} {R R1 : Nat → Nat → Option Nat} {O : Int64} (a : Int32) (d : Int32) (hM : gThr l Γ yX6_setLimit wsX6_setLimit fr lo [.ref (gad Γ 475), .int a, .int d] M R O "java/lang/IllegalStateException" M1 R1 O) : gWrp l Γ yL_setLimit wsL_setLimit 9 180 [.ref (gad Γ 475), .int a, .int d, .ref (gad Γ 491)] M R O (some (.int 3)) M1 R1 O := by
  refine g_startW (cc := cL_setLimit) (maxL := 5) (ret := (some .int)) (hh := [(0, 10, 13, 28), (0, 10, 17, 13), (0, 10, 21, 15)]) (by decide) rfl (Nat.le_of_ble_eq_true rfl) ?_
  intro p e s m below meth c ls hx hb hml hrt hts hown hlocks hname hK hZ hG hS hl hX hY hnx
  have hl : lv_has ls 5 [(0, .ref (gad Γ 475)), (1, .int a), (2, .int d), (3, .ref (gad Γ 491))] := hl
  have hown : s.vm.findClass RL = some m.cls := hown
  have hF : CallFix p m c cL_setLimit 5 s _ wsL_setLimit RL := ⟨hx, hb, hml, hown, hts⟩
  refine lv_aload_n hx hb dL_setLimit_0 rfl (lv_at hl 3 rfl) ?_
  refine lv_iconst (v := 0) hx hb dL_setLimit_1 (by decide) ?_
  refine lv_aload_n hx hb dL_setLimit_2 rfl (lv_at hl 0 rfl) ?_
  refine lv_iload_n hx hb dL_setLimit_3 rfl (lv_at hl 1 rfl) ?_
  refine lv_iload_n hx hb dL_setLimit_4 rfl (lv_at hl 2 rfl) ?_
  refine g_xVc (As := [.int a, .int d]) (rest := [.int 0, .ref (gad Γ 491)]) hF hM (cwV 2 hts gL_setLimit_X6_setLimit rfl rfl rfl (by decide +kernel) ⟨(by show fr + 1 ≤ 9; omega), (by show 8 + (_ + 11) + lo ≤ 180; omega)⟩) hK hZ hX hG hS h475 (show gC 475 = (6, 32, 0) from rfl) (by decide) rfl rfl hl.1 (Nat.le_of_ble_eq_true rfl) dL_setLimit_5 ⟨Nat.le_of_ble_eq_true rfl, Nat.le_of_ble_eq_true rfl⟩ rfl (fun ce q9 H locs hG hS hce hcv hcl => ?_)
  refine vx_catch (name := "java/lang/IllegalStateException") hown [⟨0, 10, 13, 28⟩, ⟨0, 10, 17, 13⟩] ⟨0, 10, 21, 15⟩ [] (by rw [hnx]; rfl) (List.forall_mem_cons.mpr ⟨Or.inr ⟨by decide, "java/lang/IndexOutOfBoundsException", hts (Cond.classLink RL 28 "java/lang/IndexOutOfBoundsException") (by decide +kernel), hY.2.1⟩, (List.forall_mem_cons.mpr ⟨Or.inr ⟨by decide, "java/lang/IllegalArgumentException", hts (Cond.classLink RL 13 "java/lang/IllegalArgumentException") (by decide +kernel), hY.2.2⟩, (fun _ h => absurd h List.not_mem_nil)⟩)⟩) (by decide) (by decide) (hts (Cond.classLink RL 15 "java/lang/IllegalStateException") (by decide +kernel)) (gx_cast hX (by decide +kernel)) hce hcv hcl ?_
  refine lv_astore (lv' := [(4, .ref q9), (0, .ref (gad Γ 475)), (1, .int a), (2, .int d), (3, .ref (gad Γ 491))]) hx hb dL_setLimit_21 hl (by decide) rfl (fun ls hl => ?_)
  refine lv_iconst (v := 3) hx hb dL_setLimit_23 (by decide) ?_
  exact vx_ret (g_iret hx hb hrt hlocks hS hG rfl rfl dL_setLimit_24)
set_option maxHeartbeats 4000000 in
set_option maxRecDepth 100000 in
theorem wL_set {l : Launch} {Γ : gX} (hcs : 491 ∈ gcs Γ) (h475 : 475 ∈ gcs Γ) (hall : ∀ c ∈ gcs Γ, c < 492) {fr lo : Nat} (hfr : fr ≤ 8) (hlo : lo ≤ 140) {M M1 : Nat → Nat → Int32} {R R1 : Nat → Nat → Option Nat} {O : Int64} (a : Int32) (d : Int32) {v : Int32} (hM : gMet l Γ yX6_set wsX6_set fr lo [.ref (gad Γ 475), .int a, .int d] M R O (some (.int v)) M1 R1 O) : gWrp l Γ yL_set wsL_set 9 180 [.ref (gad Γ 475), .int a, .int d, .ref (gad Γ 491)] M R O (some (.int 0)) M1 R1 v.toInt64 := by
  refine g_startW (cc := cL_set) (maxL := 5) (ret := (some .int)) (hh := [(0, 10, 13, 13)]) (by decide) rfl (Nat.le_of_ble_eq_true rfl) ?_
  intro p e s m below meth c ls hx hb hml hrt hts hown hlocks hname hK hZ hG hS hl hX hY hnx
  have hl : lv_has ls 5 [(0, .ref (gad Γ 475)), (1, .int a), (2, .int d), (3, .ref (gad Γ 491))] := hl
  have hown : s.vm.findClass RL = some m.cls := hown
  have hF : CallFix p m c cL_set 5 s _ wsL_set RL := ⟨hx, hb, hml, hown, hts⟩
  refine lv_aload_n hx hb dL_set_0 rfl (lv_at hl 3 rfl) ?_
  refine lv_iconst (v := 0) hx hb dL_set_1 (by decide) ?_
  refine lv_aload_n hx hb dL_set_2 rfl (lv_at hl 0 rfl) ?_
  refine lv_iload_n hx hb dL_set_3 rfl (lv_at hl 1 rfl) ?_
  refine lv_iload_n hx hb dL_set_4 rfl (lv_at hl 2 rfl) ?_
  refine g_callV (As := [.int a, .int d]) (rest := [.int 0, .ref (gad Γ 491)]) (st1 := [.int v, .int 0, .ref (gad Γ 491)]) hF hM (cwV 2 hts gL_set_X6_set rfl rfl rfl (by decide +kernel) ⟨(by show fr + 1 ≤ 9; omega), (by show 8 + (_ + 11) + lo ≤ 180; omega)⟩) hK hZ hG hS h475 (show gC 475 = (6, 32, 0) from rfl) (by decide) rfl rfl hl.1 (Nat.le_of_ble_eq_true rfl) dL_set_5 ⟨Nat.zero_le _, Nat.zero_le _⟩ rfl rfl (fun H locs hG hS => ?_)
  refine lv_i2l hx hb dL_set_8 rfl ?_
  refine g_last hx hb hK hG hS hcs hall dL_set_9 (fun H locs hG hS => ?_)
  refine lv_goto (tgt := 17) hx hb dL_set_10 (by decide) ?_
  refine lv_iconst (v := 0) hx hb dL_set_17 (by decide) ?_
  refine W.widen (k := 1) (n := 6) (by decide) (by decide) ?_
  exact vx_ret (g_iret hx hb hrt hlocks hS hG rfl rfl dL_set_18)
set_option maxHeartbeats 4000000 in
set_option maxRecDepth 100000 in
theorem wL_set_t1 {l : Launch} {Γ : gX} (hcs : 491 ∈ gcs Γ) (h475 : 475 ∈ gcs Γ) {fr lo : Nat} (hfr : fr ≤ 8) (hlo : lo ≤ 140) {M M1 : Nat → Nat → Int32} {R R1 : Nat → Nat → Option Nat} {O : Int64} (a : Int32) (d : Int32) (hM : gThr l Γ yX6_set wsX6_set fr lo [.ref (gad Γ 475), .int a, .int d] M R O "java/lang/IllegalArgumentException" M1 R1 O) : gWrp l Γ yL_set wsL_set 9 180 [.ref (gad Γ 475), .int a, .int d, .ref (gad Γ 491)] M R O (some (.int 1)) M1 R1 O := by
  refine g_startW (cc := cL_set) (maxL := 5) (ret := (some .int)) (hh := [(0, 10, 13, 13)]) (by decide) rfl (Nat.le_of_ble_eq_true rfl) ?_
  intro p e s m below meth c ls hx hb hml hrt hts hown hlocks hname hK hZ hG hS hl hX hY hnx
  have hl : lv_has ls 5 [(0, .ref (gad Γ 475)), (1, .int a), (2, .int d), (3, .ref (gad Γ 491))] := hl
  have hown : s.vm.findClass RL = some m.cls := hown
  have hF : CallFix p m c cL_set 5 s _ wsL_set RL := ⟨hx, hb, hml, hown, hts⟩
  refine lv_aload_n hx hb dL_set_0 rfl (lv_at hl 3 rfl) ?_
  refine lv_iconst (v := 0) hx hb dL_set_1 (by decide) ?_
  refine lv_aload_n hx hb dL_set_2 rfl (lv_at hl 0 rfl) ?_
  refine lv_iload_n hx hb dL_set_3 rfl (lv_at hl 1 rfl) ?_
  refine lv_iload_n hx hb dL_set_4 rfl (lv_at hl 2 rfl) ?_
  refine g_xVc (As := [.int a, .int d]) (rest := [.int 0, .ref (gad Γ 491)]) hF hM (cwV 2 hts gL_set_X6_set rfl rfl rfl (by decide +kernel) ⟨(by show fr + 1 ≤ 9; omega), (by show 8 + (_ + 11) + lo ≤ 180; omega)⟩) hK hZ hX hG hS h475 (show gC 475 = (6, 32, 0) from rfl) (by decide) rfl rfl hl.1 (Nat.le_of_ble_eq_true rfl) dL_set_5 ⟨Nat.le_of_ble_eq_true rfl, Nat.le_of_ble_eq_true rfl⟩ rfl (fun ce q9 H locs hG hS hce hcv hcl => ?_)
  refine vx_catch (name := "java/lang/IllegalArgumentException") hown [] ⟨0, 10, 13, 13⟩ [] (by rw [hnx]; rfl) (fun _ h => absurd h List.not_mem_nil) (by decide) (by decide) (hts (Cond.classLink RL 13 "java/lang/IllegalArgumentException") (by decide +kernel)) (gx_cast hX (by decide +kernel)) hce hcv hcl ?_
  refine lv_astore (lv' := [(4, .ref q9), (0, .ref (gad Γ 475)), (1, .int a), (2, .int d), (3, .ref (gad Γ 491))]) hx hb dL_set_13 hl (by decide) rfl (fun ls hl => ?_)
  refine lv_iconst (v := 1) hx hb dL_set_15 (by decide) ?_
  exact vx_ret (g_iret hx hb hrt hlocks hS hG rfl rfl dL_set_16)
set_option maxHeartbeats 4000000 in
set_option maxRecDepth 100000 in
theorem wL_drive {l : Launch} {Γ : gX} (hcs : 491 ∈ gcs Γ) (h475 : 475 ∈ gcs Γ) (hall : ∀ c ∈ gcs Γ, c < 492) {fr lo : Nat} (hfr : fr ≤ 8) (hlo : lo ≤ 140) {M M1 : Nat → Nat → Int32} {R R1 : Nat → Nat → Option Nat} {O : Int64} (a : Int32) (d : Int32) {v : Int32} (hM : gMet l Γ yX6_drive wsX6_drive fr lo [.ref (gad Γ 475), .int a, .int d] M R O (some (.int v)) M1 R1 O) : gWrp l Γ yL_drive wsL_drive 9 180 [.ref (gad Γ 475), .int a, .int d, .ref (gad Γ 491)] M R O (some (.int 0)) M1 R1 v.toInt64 := by
  refine g_startW (cc := cL_drive) (maxL := 5) (ret := (some .int)) (hh := [(0, 10, 13, 28), (0, 10, 17, 15)]) (by decide) rfl (Nat.le_of_ble_eq_true rfl) ?_
  intro p e s m below meth c ls hx hb hml hrt hts hown hlocks hname hK hZ hG hS hl hX hY hnx
  have hl : lv_has ls 5 [(0, .ref (gad Γ 475)), (1, .int a), (2, .int d), (3, .ref (gad Γ 491))] := hl
  have hown : s.vm.findClass RL = some m.cls := hown
  have hF : CallFix p m c cL_drive 5 s _ wsL_drive RL := ⟨hx, hb, hml, hown, hts⟩
  refine lv_aload_n hx hb dL_drive_0 rfl (lv_at hl 3 rfl) ?_
  refine lv_iconst (v := 0) hx hb dL_drive_1 (by decide) ?_
  refine lv_aload_n hx hb dL_drive_2 rfl (lv_at hl 0 rfl) ?_
  refine lv_iload_n hx hb dL_drive_3 rfl (lv_at hl 1 rfl) ?_
  refine lv_iload_n hx hb dL_drive_4 rfl (lv_at hl 2 rfl) ?_
  refine g_callV (As := [.int a, .int d]) (rest := [.int 0, .ref (gad Γ 491)]) (st1 := [.int v, .int 0, .ref (gad Γ 491)]) hF hM (cwV 2 hts gL_drive_X6_drive rfl rfl rfl (by decide +kernel) ⟨(by show fr + 1 ≤ 9; omega), (by show 8 + (_ + 11) + lo ≤ 180; omega)⟩) hK hZ hG hS h475 (show gC 475 = (6, 32, 0) from rfl) (by decide) rfl rfl hl.1 (Nat.le_of_ble_eq_true rfl) dL_drive_5 ⟨Nat.zero_le _, Nat.zero_le _⟩ rfl rfl (fun H locs hG hS => ?_)
  refine lv_i2l hx hb dL_drive_8 rfl ?_
  refine g_last hx hb hK hG hS hcs hall dL_drive_9 (fun H locs hG hS => ?_)
  refine lv_goto (tgt := 21) hx hb dL_drive_10 (by decide) ?_
  refine lv_iconst (v := 0) hx hb dL_drive_21 (by decide) ?_
  refine W.widen (k := 1) (n := 6) (by decide) (by decide) ?_
  exact vx_ret (g_iret hx hb hrt hlocks hS hG rfl rfl dL_drive_22)
set_option maxHeartbeats 4000000 in
set_option maxRecDepth 100000 in
theorem wL_drive_t1 {l : Launch} {Γ : gX} (hcs : 491 ∈ gcs Γ) (h475 : 475 ∈ gcs Γ) {fr lo : Nat} (hfr : fr ≤ 8) (hlo : lo ≤ 140) {M M1 : Nat → Nat → Int32} {R R1 : Nat → Nat → Option Nat} {O : Int64} (a : Int32) (d : Int32) (hM : gThr l Γ yX6_drive wsX6_drive fr lo [.ref (gad Γ 475), .int a, .int d] M R O "java/lang/IndexOutOfBoundsException" M1 R1 O) : gWrp l Γ yL_drive wsL_drive 9 180 [.ref (gad Γ 475), .int a, .int d, .ref (gad Γ 491)] M R O (some (.int 1)) M1 R1 O := by
  refine g_startW (cc := cL_drive) (maxL := 5) (ret := (some .int)) (hh := [(0, 10, 13, 28), (0, 10, 17, 15)]) (by decide) rfl (Nat.le_of_ble_eq_true rfl) ?_
  intro p e s m below meth c ls hx hb hml hrt hts hown hlocks hname hK hZ hG hS hl hX hY hnx
  have hl : lv_has ls 5 [(0, .ref (gad Γ 475)), (1, .int a), (2, .int d), (3, .ref (gad Γ 491))] := hl
  have hown : s.vm.findClass RL = some m.cls := hown
  have hF : CallFix p m c cL_drive 5 s _ wsL_drive RL := ⟨hx, hb, hml, hown, hts⟩
  refine lv_aload_n hx hb dL_drive_0 rfl (lv_at hl 3 rfl) ?_
  refine lv_iconst (v := 0) hx hb dL_drive_1 (by decide) ?_
  refine lv_aload_n hx hb dL_drive_2 rfl (lv_at hl 0 rfl) ?_
  refine lv_iload_n hx hb dL_drive_3 rfl (lv_at hl 1 rfl) ?_
  refine lv_iload_n hx hb dL_drive_4 rfl (lv_at hl 2 rfl) ?_
  refine g_xVc (As := [.int a, .int d]) (rest := [.int 0, .ref (gad Γ 491)]) hF hM (cwV 2 hts gL_drive_X6_drive rfl rfl rfl (by decide +kernel) ⟨(by show fr + 1 ≤ 9; omega), (by show 8 + (_ + 11) + lo ≤ 180; omega)⟩) hK hZ hX hG hS h475 (show gC 475 = (6, 32, 0) from rfl) (by decide) rfl rfl hl.1 (Nat.le_of_ble_eq_true rfl) dL_drive_5 ⟨Nat.le_of_ble_eq_true rfl, Nat.le_of_ble_eq_true rfl⟩ rfl (fun ce q9 H locs hG hS hce hcv hcl => ?_)
  refine vx_catch (name := "java/lang/IndexOutOfBoundsException") hown [] ⟨0, 10, 13, 28⟩ [⟨0, 10, 17, 15⟩] (by rw [hnx]; rfl) (fun _ h => absurd h List.not_mem_nil) (by decide) (by decide) (hts (Cond.classLink RL 28 "java/lang/IndexOutOfBoundsException") (by decide +kernel)) (gx_cast hX (by decide +kernel)) hce hcv hcl ?_
  refine lv_astore (lv' := [(4, .ref q9), (0, .ref (gad Γ 475)), (1, .int a), (2, .int d), (3, .ref (gad Γ 491))]) hx hb dL_drive_13 hl (by decide) rfl (fun ls hl => ?_)
  refine lv_iconst (v := 1) hx hb dL_drive_15 (by decide) ?_
  exact vx_ret (g_iret hx hb hrt hlocks hS hG rfl rfl dL_drive_16)
set_option maxHeartbeats 4000000 in
set_option maxRecDepth 100000 in
theorem wL_drive_t2 {l : Launch} {Γ : gX} (hcs : 491 ∈ gcs Γ) (h475 : 475 ∈ gcs Γ) {fr lo : Nat} (hfr : fr ≤ 8) (hlo : lo ≤ 140) {M M1 : Nat → Nat → Int32} {R R1 : Nat → Nat → Option Nat} {O : Int64} (a : Int32) (d : Int32) (hM : gThr l Γ yX6_drive wsX6_drive fr lo [.ref (gad Γ 475), .int a, .int d] M R O "java/lang/IllegalStateException" M1 R1 O) : gWrp l Γ yL_drive wsL_drive 9 180 [.ref (gad Γ 475), .int a, .int d, .ref (gad Γ 491)] M R O (some (.int 2)) M1 R1 O := by
  refine g_startW (cc := cL_drive) (maxL := 5) (ret := (some .int)) (hh := [(0, 10, 13, 28), (0, 10, 17, 15)]) (by decide) rfl (Nat.le_of_ble_eq_true rfl) ?_
  intro p e s m below meth c ls hx hb hml hrt hts hown hlocks hname hK hZ hG hS hl hX hY hnx
  have hl : lv_has ls 5 [(0, .ref (gad Γ 475)), (1, .int a), (2, .int d), (3, .ref (gad Γ 491))] := hl
  have hown : s.vm.findClass RL = some m.cls := hown
  have hF : CallFix p m c cL_drive 5 s _ wsL_drive RL := ⟨hx, hb, hml, hown, hts⟩
  refine lv_aload_n hx hb dL_drive_0 rfl (lv_at hl 3 rfl) ?_
  refine lv_iconst (v := 0) hx hb dL_drive_1 (by decide) ?_
  refine lv_aload_n hx hb dL_drive_2 rfl (lv_at hl 0 rfl) ?_
  refine lv_iload_n hx hb dL_drive_3 rfl (lv_at hl 1 rfl) ?_
  refine lv_iload_n hx hb dL_drive_4 rfl (lv_at hl 2 rfl) ?_
  refine g_xVc (As := [.int a, .int d]) (rest := [.int 0, .ref (gad Γ 491)]) hF hM (cwV 2 hts gL_drive_X6_drive rfl rfl rfl (by decide +kernel) ⟨(by show fr + 1 ≤ 9; omega), (by show 8 + (_ + 11) + lo ≤ 180; omega)⟩) hK hZ hX hG hS h475 (show gC 475 = (6, 32, 0) from rfl) (by decide) rfl rfl hl.1 (Nat.le_of_ble_eq_true rfl) dL_drive_5 ⟨Nat.le_of_ble_eq_true rfl, Nat.le_of_ble_eq_true rfl⟩ rfl (fun ce q9 H locs hG hS hce hcv hcl => ?_)
  refine vx_catch (name := "java/lang/IllegalStateException") hown [⟨0, 10, 13, 28⟩] ⟨0, 10, 17, 15⟩ [] (by rw [hnx]; rfl) (List.forall_mem_cons.mpr ⟨Or.inr ⟨by decide, "java/lang/IndexOutOfBoundsException", hts (Cond.classLink RL 28 "java/lang/IndexOutOfBoundsException") (by decide +kernel), hY.2.1⟩, (fun _ h => absurd h List.not_mem_nil)⟩) (by decide) (by decide) (hts (Cond.classLink RL 15 "java/lang/IllegalStateException") (by decide +kernel)) (gx_cast hX (by decide +kernel)) hce hcv hcl ?_
  refine lv_astore (lv' := [(4, .ref q9), (0, .ref (gad Γ 475)), (1, .int a), (2, .int d), (3, .ref (gad Γ 491))]) hx hb dL_drive_17 hl (by decide) rfl (fun ls hl => ?_)
  refine lv_iconst (v := 2) hx hb dL_drive_19 (by decide) ?_
  exact vx_ret (g_iret hx hb hrt hlocks hS hG rfl rfl dL_drive_20)
set_option maxHeartbeats 4000000 in
set_option maxRecDepth 100000 in
theorem wL_spray {l : Launch} {Γ : gX} (hcs : 491 ∈ gcs Γ) (h475 : 475 ∈ gcs Γ) (hall : ∀ c ∈ gcs Γ, c < 492) {fr lo : Nat} (hfr : fr ≤ 8) (hlo : lo ≤ 140) {M M1 : Nat → Nat → Int32} {R R1 : Nat → Nat → Option Nat} {O : Int64} (a : Int32) (d : Int32) {v : Int32} (hM : gMet l Γ yX6_spray wsX6_spray fr lo [.ref (gad Γ 475), .int a, .int d] M R O (some (.int v)) M1 R1 O) : gWrp l Γ yL_spray wsL_spray 9 180 [.ref (gad Γ 475), .int a, .int d, .ref (gad Γ 491)] M R O (some (.int 0)) M1 R1 v.toInt64 := by
  refine g_startW (cc := cL_spray) (maxL := 5) (ret := (some .int)) (hh := [(0, 10, 13, 28), (0, 10, 17, 13), (0, 10, 21, 15)]) (by decide) rfl (Nat.le_of_ble_eq_true rfl) ?_
  intro p e s m below meth c ls hx hb hml hrt hts hown hlocks hname hK hZ hG hS hl hX hY hnx
  have hl : lv_has ls 5 [(0, .ref (gad Γ 475)), (1, .int a), (2, .int d), (3, .ref (gad Γ 491))] := hl
  have hown : s.vm.findClass RL = some m.cls := hown
  have hF : CallFix p m c cL_spray 5 s _ wsL_spray RL := ⟨hx, hb, hml, hown, hts⟩
  refine lv_aload_n hx hb dL_spray_0 rfl (lv_at hl 3 rfl) ?_
  refine lv_iconst (v := 0) hx hb dL_spray_1 (by decide) ?_
  refine lv_aload_n hx hb dL_spray_2 rfl (lv_at hl 0 rfl) ?_
  refine lv_iload_n hx hb dL_spray_3 rfl (lv_at hl 1 rfl) ?_
  refine lv_iload_n hx hb dL_spray_4 rfl (lv_at hl 2 rfl) ?_
  refine g_callV (As := [.int a, .int d]) (rest := [.int 0, .ref (gad Γ 491)]) (st1 := [.int v, .int 0, .ref (gad Γ 491)]) hF hM (cwV 2 hts gL_spray_X6_spray rfl rfl rfl (by decide +kernel) ⟨(by show fr + 1 ≤ 9; omega), (by show 8 + (_ + 11) + lo ≤ 180; omega)⟩) hK hZ hG hS h475 (show gC 475 = (6, 32, 0) from rfl) (by decide) rfl rfl hl.1 (Nat.le_of_ble_eq_true rfl) dL_spray_5 ⟨Nat.zero_le _, Nat.zero_le _⟩ rfl rfl (fun H locs hG hS => ?_)
  refine lv_i2l hx hb dL_spray_8 rfl ?_
  refine g_last hx hb hK hG hS hcs hall dL_spray_9 (fun H locs hG hS => ?_)
  refine lv_goto (tgt := 25) hx hb dL_spray_10 (by decide) ?_
  refine lv_iconst (v := 0) hx hb dL_spray_25 (by decide) ?_
  refine W.widen (k := 1) (n := 6) (by decide) (by decide) ?_
  exact vx_ret (g_iret hx hb hrt hlocks hS hG rfl rfl dL_spray_26)
set_option maxHeartbeats 4000000 in
set_option maxRecDepth 100000 in
theorem wL_spray_t1 {l : Launch} {Γ : gX} (hcs : 491 ∈ gcs Γ) (h475 : 475 ∈ gcs Γ) {fr lo : Nat} (hfr : fr ≤ 8) (hlo : lo ≤ 140) {M M1 : Nat → Nat → Int32} {R R1 : Nat → Nat → Option Nat} {O : Int64} (a : Int32) (d : Int32) (hM : gThr l Γ yX6_spray wsX6_spray fr lo [.ref (gad Γ 475), .int a, .int d] M R O "java/lang/IndexOutOfBoundsException" M1 R1 O) : gWrp l Γ yL_spray wsL_spray 9 180 [.ref (gad Γ 475), .int a, .int d, .ref (gad Γ 491)] M R O (some (.int 1)) M1 R1 O := by
  refine g_startW (cc := cL_spray) (maxL := 5) (ret := (some .int)) (hh := [(0, 10, 13, 28), (0, 10, 17, 13), (0, 10, 21, 15)]) (by decide) rfl (Nat.le_of_ble_eq_true rfl) ?_
  intro p e s m below meth c ls hx hb hml hrt hts hown hlocks hname hK hZ hG hS hl hX hY hnx
  have hl : lv_has ls 5 [(0, .ref (gad Γ 475)), (1, .int a), (2, .int d), (3, .ref (gad Γ 491))] := hl
  have hown : s.vm.findClass RL = some m.cls := hown
  have hF : CallFix p m c cL_spray 5 s _ wsL_spray RL := ⟨hx, hb, hml, hown, hts⟩
  refine lv_aload_n hx hb dL_spray_0 rfl (lv_at hl 3 rfl) ?_
  refine lv_iconst (v := 0) hx hb dL_spray_1 (by decide) ?_
  refine lv_aload_n hx hb dL_spray_2 rfl (lv_at hl 0 rfl) ?_
  refine lv_iload_n hx hb dL_spray_3 rfl (lv_at hl 1 rfl) ?_
  refine lv_iload_n hx hb dL_spray_4 rfl (lv_at hl 2 rfl) ?_
  refine g_xVc (As := [.int a, .int d]) (rest := [.int 0, .ref (gad Γ 491)]) hF hM (cwV 2 hts gL_spray_X6_spray rfl rfl rfl (by decide +kernel) ⟨(by show fr + 1 ≤ 9; omega), (by show 8 + (_ + 11) + lo ≤ 180; omega)⟩) hK hZ hX hG hS h475 (show gC 475 = (6, 32, 0) from rfl) (by decide) rfl rfl hl.1 (Nat.le_of_ble_eq_true rfl) dL_spray_5 ⟨Nat.le_of_ble_eq_true rfl, Nat.le_of_ble_eq_true rfl⟩ rfl (fun ce q9 H locs hG hS hce hcv hcl => ?_)
  refine vx_catch (name := "java/lang/IndexOutOfBoundsException") hown [] ⟨0, 10, 13, 28⟩ [⟨0, 10, 17, 13⟩, ⟨0, 10, 21, 15⟩] (by rw [hnx]; rfl) (fun _ h => absurd h List.not_mem_nil) (by decide) (by decide) (hts (Cond.classLink RL 28 "java/lang/IndexOutOfBoundsException") (by decide +kernel)) (gx_cast hX (by decide +kernel)) hce hcv hcl ?_
  refine lv_astore (lv' := [(4, .ref q9), (0, .ref (gad Γ 475)), (1, .int a), (2, .int d), (3, .ref (gad Γ 491))]) hx hb dL_spray_13 hl (by decide) rfl (fun ls hl => ?_)
  refine lv_iconst (v := 1) hx hb dL_spray_15 (by decide) ?_
  exact vx_ret (g_iret hx hb hrt hlocks hS hG rfl rfl dL_spray_16)
set_option maxHeartbeats 4000000 in
set_option maxRecDepth 100000 in
theorem wL_spray_t2 {l : Launch} {Γ : gX} (hcs : 491 ∈ gcs Γ) (h475 : 475 ∈ gcs Γ) {fr lo : Nat} (hfr : fr ≤ 8) (hlo : lo ≤ 140) {M M1 : Nat → Nat → Int32} {R R1 : Nat → Nat → Option Nat} {O : Int64} (a : Int32) (d : Int32) (hM : gThr l Γ yX6_spray wsX6_spray fr lo [.ref (gad Γ 475), .int a, .int d] M R O "java/lang/IllegalArgumentException" M1 R1 O) : gWrp l Γ yL_spray wsL_spray 9 180 [.ref (gad Γ 475), .int a, .int d, .ref (gad Γ 491)] M R O (some (.int 2)) M1 R1 O := by
  refine g_startW (cc := cL_spray) (maxL := 5) (ret := (some .int)) (hh := [(0, 10, 13, 28), (0, 10, 17, 13), (0, 10, 21, 15)]) (by decide) rfl (Nat.le_of_ble_eq_true rfl) ?_
  intro p e s m below meth c ls hx hb hml hrt hts hown hlocks hname hK hZ hG hS hl hX hY hnx
  have hl : lv_has ls 5 [(0, .ref (gad Γ 475)), (1, .int a), (2, .int d), (3, .ref (gad Γ 491))] := hl
  have hown : s.vm.findClass RL = some m.cls := hown
  have hF : CallFix p m c cL_spray 5 s _ wsL_spray RL := ⟨hx, hb, hml, hown, hts⟩
  refine lv_aload_n hx hb dL_spray_0 rfl (lv_at hl 3 rfl) ?_
  refine lv_iconst (v := 0) hx hb dL_spray_1 (by decide) ?_
  refine lv_aload_n hx hb dL_spray_2 rfl (lv_at hl 0 rfl) ?_
  refine lv_iload_n hx hb dL_spray_3 rfl (lv_at hl 1 rfl) ?_
  refine lv_iload_n hx hb dL_spray_4 rfl (lv_at hl 2 rfl) ?_
  refine g_xVc (As := [.int a, .int d]) (rest := [.int 0, .ref (gad Γ 491)]) hF hM (cwV 2 hts gL_spray_X6_spray rfl rfl rfl (by decide +kernel) ⟨(by show fr + 1 ≤ 9; omega), (by show 8 + (_ + 11) + lo ≤ 180; omega)⟩) hK hZ hX hG hS h475 (show gC 475 = (6, 32, 0) from rfl) (by decide) rfl rfl hl.1 (Nat.le_of_ble_eq_true rfl) dL_spray_5 ⟨Nat.le_of_ble_eq_true rfl, Nat.le_of_ble_eq_true rfl⟩ rfl (fun ce q9 H locs hG hS hce hcv hcl => ?_)
  refine vx_catch (name := "java/lang/IllegalArgumentException") hown [⟨0, 10, 13, 28⟩] ⟨0, 10, 17, 13⟩ [⟨0, 10, 21, 15⟩] (by rw [hnx]; rfl) (List.forall_mem_cons.mpr ⟨Or.inr ⟨by decide, "java/lang/IndexOutOfBoundsException", hts (Cond.classLink RL 28 "java/lang/IndexOutOfBoundsException") (by decide +kernel), hY.1⟩, (fun _ h => absurd h List.not_mem_nil)⟩) (by decide) (by decide) (hts (Cond.classLink RL 13 "java/lang/IllegalArgumentException") (by decide +kernel)) (gx_cast hX (by decide +kernel)) hce hcv hcl ?_
  refine lv_astore (lv' := [(4, .ref q9), (0, .ref (gad Γ 475)), (1, .int a), (2, .int d), (3, .ref (gad Γ 491))]) hx hb dL_spray_17 hl (by decide) rfl (fun ls hl => ?_)
  refine lv_iconst (v := 2) hx hb dL_spray_19 (by decide) ?_
  exact vx_ret (g_iret hx hb hrt hlocks hS hG rfl rfl dL_spray_20)
set_option maxHeartbeats 4000000 in
set_option maxRecDepth 100000 in
theorem wL_spray_t3 {l : Launch} {Γ : gX} (hcs : 491 ∈ gcs Γ) (h475 : 475 ∈ gcs Γ) {fr lo : Nat} (hfr : fr ≤ 8) (hlo : lo ≤ 140) {M M1 : Nat → Nat → Int32} {R R1 : Nat → Nat → Option Nat} {O : Int64} (a : Int32) (d : Int32) (hM : gThr l Γ yX6_spray wsX6_spray fr lo [.ref (gad Γ 475), .int a, .int d] M R O "java/lang/IllegalStateException" M1 R1 O) : gWrp l Γ yL_spray wsL_spray 9 180 [.ref (gad Γ 475), .int a, .int d, .ref (gad Γ 491)] M R O (some (.int 3)) M1 R1 O := by
  refine g_startW (cc := cL_spray) (maxL := 5) (ret := (some .int)) (hh := [(0, 10, 13, 28), (0, 10, 17, 13), (0, 10, 21, 15)]) (by decide) rfl (Nat.le_of_ble_eq_true rfl) ?_
  intro p e s m below meth c ls hx hb hml hrt hts hown hlocks hname hK hZ hG hS hl hX hY hnx
  have hl : lv_has ls 5 [(0, .ref (gad Γ 475)), (1, .int a), (2, .int d), (3, .ref (gad Γ 491))] := hl
  have hown : s.vm.findClass RL = some m.cls := hown
  have hF : CallFix p m c cL_spray 5 s _ wsL_spray RL := ⟨hx, hb, hml, hown, hts⟩
  refine lv_aload_n hx hb dL_spray_0 rfl (lv_at hl 3 rfl) ?_
  refine lv_iconst (v := 0) hx hb dL_spray_1 (by decide) ?_
  refine lv_aload_n hx hb dL_spray_2 rfl (lv_at hl 0 rfl) ?_
  refine lv_iload_n hx hb dL_spray_3 rfl (lv_at hl 1 rfl) ?_
  refine lv_iload_n hx hb dL_spray_4 rfl (lv_at hl 2 rfl) ?_
  refine g_xVc (As := [.int a, .int d]) (rest := [.int 0, .ref (gad Γ 491)]) hF hM (cwV 2 hts gL_spray_X6_spray rfl rfl rfl (by decide +kernel) ⟨(by show fr + 1 ≤ 9; omega), (by show 8 + (_ + 11) + lo ≤ 180; omega)⟩) hK hZ hX hG hS h475 (show gC 475 = (6, 32, 0) from rfl) (by decide) rfl rfl hl.1 (Nat.le_of_ble_eq_true rfl) dL_spray_5 ⟨Nat.le_of_ble_eq_true rfl, Nat.le_of_ble_eq_true rfl⟩ rfl (fun ce q9 H locs hG hS hce hcv hcl => ?_)
  refine vx_catch (name := "java/lang/IllegalStateException") hown [⟨0, 10, 13, 28⟩, ⟨0, 10, 17, 13⟩] ⟨0, 10, 21, 15⟩ [] (by rw [hnx]; rfl) (List.forall_mem_cons.mpr ⟨Or.inr ⟨by decide, "java/lang/IndexOutOfBoundsException", hts (Cond.classLink RL 28 "java/lang/IndexOutOfBoundsException") (by decide +kernel), hY.2.1⟩, (List.forall_mem_cons.mpr ⟨Or.inr ⟨by decide, "java/lang/IllegalArgumentException", hts (Cond.classLink RL 13 "java/lang/IllegalArgumentException") (by decide +kernel), hY.2.2⟩, (fun _ h => absurd h List.not_mem_nil)⟩)⟩) (by decide) (by decide) (hts (Cond.classLink RL 15 "java/lang/IllegalStateException") (by decide +kernel)) (gx_cast hX (by decide +kernel)) hce hcv hcl ?_
  refine lv_astore (lv' := [(4, .ref q9), (0, .ref (gad Γ 475)), (1, .int a), (2, .int d), (3, .ref (gad Γ 491))]) hx hb dL_spray_21 hl (by decide) rfl (fun ls hl => ?_)
  refine lv_iconst (v := 3) hx hb dL_spray_23 (by decide) ?_
  exact vx_ret (g_iret hx hb hrt hlocks hS hG rfl rfl dL_spray_24)
set_option maxHeartbeats 4000000 in
set_option maxRecDepth 100000 in
theorem wL_fill {l : Launch} {Γ : gX} (hcs : 491 ∈ gcs Γ) (h475 : 475 ∈ gcs Γ) (hall : ∀ c ∈ gcs Γ, c < 492) {fr lo : Nat} (hfr : fr ≤ 8) (hlo : lo ≤ 140) {M M1 : Nat → Nat → Int32} {R R1 : Nat → Nat → Option Nat} {O : Int64} (a : Int32) {v : Int32} (hM : gMet l Γ yX6_fill wsX6_fill fr lo [.ref (gad Γ 475), .int a] M R O (some (.int v)) M1 R1 O) : gWrp l Γ yL_fill wsL_fill 9 180 [.ref (gad Γ 475), .int a, .ref (gad Γ 491)] M R O (some (.int 0)) M1 R1 v.toInt64 := by
  refine g_startW (cc := cL_fill) (maxL := 4) (ret := (some .int)) (hh := [(0, 9, 12, 28), (0, 9, 15, 15)]) (by decide) rfl (Nat.le_of_ble_eq_true rfl) ?_
  intro p e s m below meth c ls hx hb hml hrt hts hown hlocks hname hK hZ hG hS hl hX hY hnx
  have hl : lv_has ls 4 [(0, .ref (gad Γ 475)), (1, .int a), (2, .ref (gad Γ 491))] := hl
  have hown : s.vm.findClass RL = some m.cls := hown
  have hF : CallFix p m c cL_fill 4 s _ wsL_fill RL := ⟨hx, hb, hml, hown, hts⟩
  refine lv_aload_n hx hb dL_fill_0 rfl (lv_at hl 2 rfl) ?_
  refine lv_iconst (v := 0) hx hb dL_fill_1 (by decide) ?_
  refine lv_aload_n hx hb dL_fill_2 rfl (lv_at hl 0 rfl) ?_
  refine lv_iload_n hx hb dL_fill_3 rfl (lv_at hl 1 rfl) ?_
  refine g_callV (As := [.int a]) (rest := [.int 0, .ref (gad Γ 491)]) (st1 := [.int v, .int 0, .ref (gad Γ 491)]) hF hM (cwV 1 hts gL_fill_X6_fill rfl rfl rfl (by decide +kernel) ⟨(by show fr + 1 ≤ 9; omega), (by show 8 + (_ + 11) + lo ≤ 180; omega)⟩) hK hZ hG hS h475 (show gC 475 = (6, 32, 0) from rfl) (by decide) rfl rfl hl.1 (Nat.le_of_ble_eq_true rfl) dL_fill_4 ⟨Nat.zero_le _, Nat.zero_le _⟩ rfl rfl (fun H locs hG hS => ?_)
  refine lv_i2l hx hb dL_fill_7 rfl ?_
  refine g_last hx hb hK hG hS hcs hall dL_fill_8 (fun H locs hG hS => ?_)
  refine lv_goto (tgt := 18) hx hb dL_fill_9 (by decide) ?_
  refine lv_iconst (v := 0) hx hb dL_fill_18 (by decide) ?_
  refine W.widen (k := 1) (n := 6) (by decide) (by decide) ?_
  exact vx_ret (g_iret hx hb hrt hlocks hS hG rfl rfl dL_fill_19)
set_option maxHeartbeats 4000000 in
set_option maxRecDepth 100000 in
theorem wL_fill_t1 {l : Launch} {Γ : gX} (hcs : 491 ∈ gcs Γ) (h475 : 475 ∈ gcs Γ) {fr lo : Nat} (hfr : fr ≤ 8) (hlo : lo ≤ 140) {M M1 : Nat → Nat → Int32} {R R1 : Nat → Nat → Option Nat} {O : Int64} (a : Int32) (hM : gThr l Γ yX6_fill wsX6_fill fr lo [.ref (gad Γ 475), .int a] M R O "java/lang/IndexOutOfBoundsException" M1 R1 O) : gWrp l Γ yL_fill wsL_fill 9 180 [.ref (gad Γ 475), .int a, .ref (gad Γ 491)] M R O (some (.int 1)) M1 R1 O := by
  refine g_startW (cc := cL_fill) (maxL := 4) (ret := (some .int)) (hh := [(0, 9, 12, 28), (0, 9, 15, 15)]) (by decide) rfl (Nat.le_of_ble_eq_true rfl) ?_
  intro p e s m below meth c ls hx hb hml hrt hts hown hlocks hname hK hZ hG hS hl hX hY hnx
  have hl : lv_has ls 4 [(0, .ref (gad Γ 475)), (1, .int a), (2, .ref (gad Γ 491))] := hl
  have hown : s.vm.findClass RL = some m.cls := hown
  have hF : CallFix p m c cL_fill 4 s _ wsL_fill RL := ⟨hx, hb, hml, hown, hts⟩
  refine lv_aload_n hx hb dL_fill_0 rfl (lv_at hl 2 rfl) ?_
  refine lv_iconst (v := 0) hx hb dL_fill_1 (by decide) ?_
  refine lv_aload_n hx hb dL_fill_2 rfl (lv_at hl 0 rfl) ?_
  refine lv_iload_n hx hb dL_fill_3 rfl (lv_at hl 1 rfl) ?_
  refine g_xVc (As := [.int a]) (rest := [.int 0, .ref (gad Γ 491)]) hF hM (cwV 1 hts gL_fill_X6_fill rfl rfl rfl (by decide +kernel) ⟨(by show fr + 1 ≤ 9; omega), (by show 8 + (_ + 11) + lo ≤ 180; omega)⟩) hK hZ hX hG hS h475 (show gC 475 = (6, 32, 0) from rfl) (by decide) rfl rfl hl.1 (Nat.le_of_ble_eq_true rfl) dL_fill_4 ⟨Nat.le_of_ble_eq_true rfl, Nat.le_of_ble_eq_true rfl⟩ rfl (fun ce q9 H locs hG hS hce hcv hcl => ?_)
  refine vx_catch (name := "java/lang/IndexOutOfBoundsException") hown [] ⟨0, 9, 12, 28⟩ [⟨0, 9, 15, 15⟩] (by rw [hnx]; rfl) (fun _ h => absurd h List.not_mem_nil) (by decide) (by decide) (hts (Cond.classLink RL 28 "java/lang/IndexOutOfBoundsException") (by decide +kernel)) (gx_cast hX (by decide +kernel)) hce hcv hcl ?_
  refine lv_astore_n (lv' := [(3, .ref q9), (0, .ref (gad Γ 475)), (1, .int a), (2, .ref (gad Γ 491))]) hx hb dL_fill_12 rfl hl (by decide) rfl (fun ls hl => ?_)
  refine lv_iconst (v := 1) hx hb dL_fill_13 (by decide) ?_
  exact vx_ret (g_iret hx hb hrt hlocks hS hG rfl rfl dL_fill_14)
set_option maxHeartbeats 4000000 in
set_option maxRecDepth 100000 in
theorem wL_fill_t2 {l : Launch} {Γ : gX} (hcs : 491 ∈ gcs Γ) (h475 : 475 ∈ gcs Γ) {fr lo : Nat} (hfr : fr ≤ 8) (hlo : lo ≤ 140) {M M1 : Nat → Nat → Int32} {R R1 : Nat → Nat → Option Nat} {O : Int64} (a : Int32) (hM : gThr l Γ yX6_fill wsX6_fill fr lo [.ref (gad Γ 475), .int a] M R O "java/lang/IllegalStateException" M1 R1 O) : gWrp l Γ yL_fill wsL_fill 9 180 [.ref (gad Γ 475), .int a, .ref (gad Γ 491)] M R O (some (.int 2)) M1 R1 O := by
  refine g_startW (cc := cL_fill) (maxL := 4) (ret := (some .int)) (hh := [(0, 9, 12, 28), (0, 9, 15, 15)]) (by decide) rfl (Nat.le_of_ble_eq_true rfl) ?_
  intro p e s m below meth c ls hx hb hml hrt hts hown hlocks hname hK hZ hG hS hl hX hY hnx
  have hl : lv_has ls 4 [(0, .ref (gad Γ 475)), (1, .int a), (2, .ref (gad Γ 491))] := hl
  have hown : s.vm.findClass RL = some m.cls := hown
  have hF : CallFix p m c cL_fill 4 s _ wsL_fill RL := ⟨hx, hb, hml, hown, hts⟩
  refine lv_aload_n hx hb dL_fill_0 rfl (lv_at hl 2 rfl) ?_
  refine lv_iconst (v := 0) hx hb dL_fill_1 (by decide) ?_
  refine lv_aload_n hx hb dL_fill_2 rfl (lv_at hl 0 rfl) ?_
  refine lv_iload_n hx hb dL_fill_3 rfl (lv_at hl 1 rfl) ?_
  refine g_xVc (As := [.int a]) (rest := [.int 0, .ref (gad Γ 491)]) hF hM (cwV 1 hts gL_fill_X6_fill rfl rfl rfl (by decide +kernel) ⟨(by show fr + 1 ≤ 9; omega), (by show 8 + (_ + 11) + lo ≤ 180; omega)⟩) hK hZ hX hG hS h475 (show gC 475 = (6, 32, 0) from rfl) (by decide) rfl rfl hl.1 (Nat.le_of_ble_eq_true rfl) dL_fill_4 ⟨Nat.le_of_ble_eq_true rfl, Nat.le_of_ble_eq_true rfl⟩ rfl (fun ce q9 H locs hG hS hce hcv hcl => ?_)
  refine vx_catch (name := "java/lang/IllegalStateException") hown [⟨0, 9, 12, 28⟩] ⟨0, 9, 15, 15⟩ [] (by rw [hnx]; rfl) (List.forall_mem_cons.mpr ⟨Or.inr ⟨by decide, "java/lang/IndexOutOfBoundsException", hts (Cond.classLink RL 28 "java/lang/IndexOutOfBoundsException") (by decide +kernel), hY.2.1⟩, (fun _ h => absurd h List.not_mem_nil)⟩) (by decide) (by decide) (hts (Cond.classLink RL 15 "java/lang/IllegalStateException") (by decide +kernel)) (gx_cast hX (by decide +kernel)) hce hcv hcl ?_
  refine lv_astore_n (lv' := [(3, .ref q9), (0, .ref (gad Γ 475)), (1, .int a), (2, .ref (gad Γ 491))]) hx hb dL_fill_15 rfl hl (by decide) rfl (fun ls hl => ?_)
  refine lv_iconst (v := 2) hx hb dL_fill_16 (by decide) ?_
  exact vx_ret (g_iret hx hb hrt hlocks hS hG rfl rfl dL_fill_17)
set_option maxHeartbeats 4000000 in
set_option maxRecDepth 100000 in
theorem wL_pass {l : Launch} {Γ : gX} (hcs : 491 ∈ gcs Γ) (h475 : 475 ∈ gcs Γ) (hall : ∀ c ∈ gcs Γ, c < 492) {fr lo : Nat} (hfr : fr ≤ 8) (hlo : lo ≤ 140) {M M1 : Nat → Nat → Int32} {R R1 : Nat → Nat → Option Nat} {O : Int64} (a : Int32) {v : Int32} (hM : gMet l Γ yX6_pass wsX6_pass fr lo [.ref (gad Γ 475), .int a] M R O (some (.int v)) M1 R1 O) : gWrp l Γ yL_pass wsL_pass 9 180 [.ref (gad Γ 475), .int a, .ref (gad Γ 491)] M R O (some (.int 0)) M1 R1 v.toInt64 := by
  refine g_startW (cc := cL_pass) (maxL := 4) (ret := (some .int)) (hh := [(0, 9, 12, 13)]) (by decide) rfl (Nat.le_of_ble_eq_true rfl) ?_
  intro p e s m below meth c ls hx hb hml hrt hts hown hlocks hname hK hZ hG hS hl hX hY hnx
  have hl : lv_has ls 4 [(0, .ref (gad Γ 475)), (1, .int a), (2, .ref (gad Γ 491))] := hl
  have hown : s.vm.findClass RL = some m.cls := hown
  have hF : CallFix p m c cL_pass 4 s _ wsL_pass RL := ⟨hx, hb, hml, hown, hts⟩
  refine lv_aload_n hx hb dL_pass_0 rfl (lv_at hl 2 rfl) ?_
  refine lv_iconst (v := 0) hx hb dL_pass_1 (by decide) ?_
  refine lv_aload_n hx hb dL_pass_2 rfl (lv_at hl 0 rfl) ?_
  refine lv_iload_n hx hb dL_pass_3 rfl (lv_at hl 1 rfl) ?_
  refine g_callV (As := [.int a]) (rest := [.int 0, .ref (gad Γ 491)]) (st1 := [.int v, .int 0, .ref (gad Γ 491)]) hF hM (cwV 1 hts gL_pass_X6_pass rfl rfl rfl (by decide +kernel) ⟨(by show fr + 1 ≤ 9; omega), (by show 8 + (_ + 11) + lo ≤ 180; omega)⟩) hK hZ hG hS h475 (show gC 475 = (6, 32, 0) from rfl) (by decide) rfl rfl hl.1 (Nat.le_of_ble_eq_true rfl) dL_pass_4 ⟨Nat.zero_le _, Nat.zero_le _⟩ rfl rfl (fun H locs hG hS => ?_)
  refine lv_i2l hx hb dL_pass_7 rfl ?_
  refine g_last hx hb hK hG hS hcs hall dL_pass_8 (fun H locs hG hS => ?_)
  refine lv_goto (tgt := 15) hx hb dL_pass_9 (by decide) ?_
  refine lv_iconst (v := 0) hx hb dL_pass_15 (by decide) ?_
  refine W.widen (k := 1) (n := 6) (by decide) (by decide) ?_
  exact vx_ret (g_iret hx hb hrt hlocks hS hG rfl rfl dL_pass_16)
set_option maxHeartbeats 4000000 in
set_option maxRecDepth 100000 in
theorem wL_pass_t1 {l : Launch} {Γ : gX} (hcs : 491 ∈ gcs Γ) (h475 : 475 ∈ gcs Γ) {fr lo : Nat} (hfr : fr ≤ 8) (hlo : lo ≤ 140) {M M1 : Nat → Nat → Int32} {R R1 : Nat → Nat → Option Nat} {O : Int64} (a : Int32) (hM : gThr l Γ yX6_pass wsX6_pass fr lo [.ref (gad Γ 475), .int a] M R O "java/lang/IllegalArgumentException" M1 R1 O) : gWrp l Γ yL_pass wsL_pass 9 180 [.ref (gad Γ 475), .int a, .ref (gad Γ 491)] M R O (some (.int 1)) M1 R1 O := by
  refine g_startW (cc := cL_pass) (maxL := 4) (ret := (some .int)) (hh := [(0, 9, 12, 13)]) (by decide) rfl (Nat.le_of_ble_eq_true rfl) ?_
  intro p e s m below meth c ls hx hb hml hrt hts hown hlocks hname hK hZ hG hS hl hX hY hnx
  have hl : lv_has ls 4 [(0, .ref (gad Γ 475)), (1, .int a), (2, .ref (gad Γ 491))] := hl
  have hown : s.vm.findClass RL = some m.cls := hown
  have hF : CallFix p m c cL_pass 4 s _ wsL_pass RL := ⟨hx, hb, hml, hown, hts⟩
  refine lv_aload_n hx hb dL_pass_0 rfl (lv_at hl 2 rfl) ?_
  refine lv_iconst (v := 0) hx hb dL_pass_1 (by decide) ?_
  refine lv_aload_n hx hb dL_pass_2 rfl (lv_at hl 0 rfl) ?_
  refine lv_iload_n hx hb dL_pass_3 rfl (lv_at hl 1 rfl) ?_
  refine g_xVc (As := [.int a]) (rest := [.int 0, .ref (gad Γ 491)]) hF hM (cwV 1 hts gL_pass_X6_pass rfl rfl rfl (by decide +kernel) ⟨(by show fr + 1 ≤ 9; omega), (by show 8 + (_ + 11) + lo ≤ 180; omega)⟩) hK hZ hX hG hS h475 (show gC 475 = (6, 32, 0) from rfl) (by decide) rfl rfl hl.1 (Nat.le_of_ble_eq_true rfl) dL_pass_4 ⟨Nat.le_of_ble_eq_true rfl, Nat.le_of_ble_eq_true rfl⟩ rfl (fun ce q9 H locs hG hS hce hcv hcl => ?_)
  refine vx_catch (name := "java/lang/IllegalArgumentException") hown [] ⟨0, 9, 12, 13⟩ [] (by rw [hnx]; rfl) (fun _ h => absurd h List.not_mem_nil) (by decide) (by decide) (hts (Cond.classLink RL 13 "java/lang/IllegalArgumentException") (by decide +kernel)) (gx_cast hX (by decide +kernel)) hce hcv hcl ?_
  refine lv_astore_n (lv' := [(3, .ref q9), (0, .ref (gad Γ 475)), (1, .int a), (2, .ref (gad Γ 491))]) hx hb dL_pass_12 rfl hl (by decide) rfl (fun ls hl => ?_)
  refine lv_iconst (v := 1) hx hb dL_pass_13 (by decide) ?_
  exact vx_ret (g_iret hx hb hrt hlocks hS hG rfl rfl dL_pass_14)
set_option maxHeartbeats 4000000 in
set_option maxRecDepth 100000 in
theorem wL_undo {l : Launch} {Γ : gX} (hcs : 491 ∈ gcs Γ) (h475 : 475 ∈ gcs Γ) (hall : ∀ c ∈ gcs Γ, c < 492) {fr lo : Nat} (hfr : fr ≤ 8) (hlo : lo ≤ 140) {M M1 : Nat → Nat → Int32} {R R1 : Nat → Nat → Option Nat} {O : Int64}  {v : Int32} (hM : gMet l Γ yX6_undo wsX6_undo fr lo [.ref (gad Γ 475)] M R O (some (.int v)) M1 R1 O) : gWrp l Γ yL_undo wsL_undo 9 180 [.ref (gad Γ 475), .ref (gad Γ 491)] M R O (some (.int 0)) M1 R1 v.toInt64 := by
  refine g_startW (cc := cL_undo) (maxL := 3) (ret := (some .int)) (hh := [(0, 8, 11, 15)]) (by decide) rfl (Nat.le_of_ble_eq_true rfl) ?_
  intro p e s m below meth c ls hx hb hml hrt hts hown hlocks hname hK hZ hG hS hl hX hY hnx
  have hl : lv_has ls 3 [(0, .ref (gad Γ 475)), (1, .ref (gad Γ 491))] := hl
  have hown : s.vm.findClass RL = some m.cls := hown
  have hF : CallFix p m c cL_undo 3 s _ wsL_undo RL := ⟨hx, hb, hml, hown, hts⟩
  refine lv_aload_n hx hb dL_undo_0 rfl (lv_at hl 1 rfl) ?_
  refine lv_iconst (v := 0) hx hb dL_undo_1 (by decide) ?_
  refine lv_aload_n hx hb dL_undo_2 rfl (lv_at hl 0 rfl) ?_
  refine g_callV (As := []) (rest := [.int 0, .ref (gad Γ 491)]) (st1 := [.int v, .int 0, .ref (gad Γ 491)]) hF hM (cwV 0 hts gL_undo_X6_undo rfl rfl rfl (by decide +kernel) ⟨(by show fr + 1 ≤ 9; omega), (by show 8 + (_ + 11) + lo ≤ 180; omega)⟩) hK hZ hG hS h475 (show gC 475 = (6, 32, 0) from rfl) (by decide) rfl rfl hl.1 (Nat.le_of_ble_eq_true rfl) dL_undo_3 ⟨Nat.zero_le _, Nat.zero_le _⟩ rfl rfl (fun H locs hG hS => ?_)
  refine lv_i2l hx hb dL_undo_6 rfl ?_
  refine g_last hx hb hK hG hS hcs hall dL_undo_7 (fun H locs hG hS => ?_)
  refine lv_goto (tgt := 14) hx hb dL_undo_8 (by decide) ?_
  refine lv_iconst (v := 0) hx hb dL_undo_14 (by decide) ?_
  refine W.widen (k := 1) (n := 6) (by decide) (by decide) ?_
  exact vx_ret (g_iret hx hb hrt hlocks hS hG rfl rfl dL_undo_15)
set_option maxHeartbeats 4000000 in
set_option maxRecDepth 100000 in
theorem wL_undo_t1 {l : Launch} {Γ : gX} (hcs : 491 ∈ gcs Γ) (h475 : 475 ∈ gcs Γ) {fr lo : Nat} (hfr : fr ≤ 8) (hlo : lo ≤ 140) {M M1 : Nat → Nat → Int32} {R R1 : Nat → Nat → Option Nat} {O : Int64}  (hM : gThr l Γ yX6_undo wsX6_undo fr lo [.ref (gad Γ 475)] M R O "java/lang/IllegalStateException" M1 R1 O) : gWrp l Γ yL_undo wsL_undo 9 180 [.ref (gad Γ 475), .ref (gad Γ 491)] M R O (some (.int 1)) M1 R1 O := by
  refine g_startW (cc := cL_undo) (maxL := 3) (ret := (some .int)) (hh := [(0, 8, 11, 15)]) (by decide) rfl (Nat.le_of_ble_eq_true rfl) ?_
  intro p e s m below meth c ls hx hb hml hrt hts hown hlocks hname hK hZ hG hS hl hX hY hnx
  have hl : lv_has ls 3 [(0, .ref (gad Γ 475)), (1, .ref (gad Γ 491))] := hl
  have hown : s.vm.findClass RL = some m.cls := hown
  have hF : CallFix p m c cL_undo 3 s _ wsL_undo RL := ⟨hx, hb, hml, hown, hts⟩
  refine lv_aload_n hx hb dL_undo_0 rfl (lv_at hl 1 rfl) ?_
  refine lv_iconst (v := 0) hx hb dL_undo_1 (by decide) ?_
  refine lv_aload_n hx hb dL_undo_2 rfl (lv_at hl 0 rfl) ?_
  refine g_xVc (As := []) (rest := [.int 0, .ref (gad Γ 491)]) hF hM (cwV 0 hts gL_undo_X6_undo rfl rfl rfl (by decide +kernel) ⟨(by show fr + 1 ≤ 9; omega), (by show 8 + (_ + 11) + lo ≤ 180; omega)⟩) hK hZ hX hG hS h475 (show gC 475 = (6, 32, 0) from rfl) (by decide) rfl rfl hl.1 (Nat.le_of_ble_eq_true rfl) dL_undo_3 ⟨Nat.le_of_ble_eq_true rfl, Nat.le_of_ble_eq_true rfl⟩ rfl (fun ce q9 H locs hG hS hce hcv hcl => ?_)
  refine vx_catch (name := "java/lang/IllegalStateException") hown [] ⟨0, 8, 11, 15⟩ [] (by rw [hnx]; rfl) (fun _ h => absurd h List.not_mem_nil) (by decide) (by decide) (hts (Cond.classLink RL 15 "java/lang/IllegalStateException") (by decide +kernel)) (gx_cast hX (by decide +kernel)) hce hcv hcl ?_
  refine lv_astore_n (lv' := [(2, .ref q9), (0, .ref (gad Γ 475)), (1, .ref (gad Γ 491))]) hx hb dL_undo_11 rfl hl (by decide) rfl (fun ls hl => ?_)
  refine lv_iconst (v := 1) hx hb dL_undo_12 (by decide) ?_
  exact vx_ret (g_iret hx hb hrt hlocks hS hG rfl rfl dL_undo_13)
set_option maxHeartbeats 4000000 in
set_option maxRecDepth 100000 in
theorem wL_whyNoFill {l : Launch} {Γ : gX} (hcs : 491 ∈ gcs Γ) (h475 : 475 ∈ gcs Γ) (hall : ∀ c ∈ gcs Γ, c < 492) {fr lo : Nat} (hfr : fr ≤ 8) (hlo : lo ≤ 140) {M M1 : Nat → Nat → Int32} {R R1 : Nat → Nat → Option Nat} {O : Int64} (a : Int32) {v : Int32} (hM : gMet l Γ yX6_whyNoFill wsX6_whyNoFill fr lo [.ref (gad Γ 475), .int a] M R O (some (.int v)) M1 R1 O) : gWrp l Γ yL_whyNoFill wsL_whyNoFill 9 180 [.ref (gad Γ 475), .int a, .ref (gad Γ 491)] M R O (some (.int 0)) M1 R1 v.toInt64 := by
  refine g_startW (cc := cL_whyNoFill) (maxL := 4) (ret := (some .int)) (hh := [(0, 9, 12, 28)]) (by decide) rfl (Nat.le_of_ble_eq_true rfl) ?_
  intro p e s m below meth c ls hx hb hml hrt hts hown hlocks hname hK hZ hG hS hl hX hY hnx
  have hl : lv_has ls 4 [(0, .ref (gad Γ 475)), (1, .int a), (2, .ref (gad Γ 491))] := hl
  have hown : s.vm.findClass RL = some m.cls := hown
  have hF : CallFix p m c cL_whyNoFill 4 s _ wsL_whyNoFill RL := ⟨hx, hb, hml, hown, hts⟩
  refine lv_aload_n hx hb dL_whyNoFill_0 rfl (lv_at hl 2 rfl) ?_
  refine lv_iconst (v := 0) hx hb dL_whyNoFill_1 (by decide) ?_
  refine lv_aload_n hx hb dL_whyNoFill_2 rfl (lv_at hl 0 rfl) ?_
  refine lv_iload_n hx hb dL_whyNoFill_3 rfl (lv_at hl 1 rfl) ?_
  refine g_callV (As := [.int a]) (rest := [.int 0, .ref (gad Γ 491)]) (st1 := [.int v, .int 0, .ref (gad Γ 491)]) hF hM (cwV 1 hts gL_whyNoFill_X6_whyNoFill rfl rfl rfl (by decide +kernel) ⟨(by show fr + 1 ≤ 9; omega), (by show 8 + (_ + 11) + lo ≤ 180; omega)⟩) hK hZ hG hS h475 (show gC 475 = (6, 32, 0) from rfl) (by decide) rfl rfl hl.1 (Nat.le_of_ble_eq_true rfl) dL_whyNoFill_4 ⟨Nat.zero_le _, Nat.zero_le _⟩ rfl rfl (fun H locs hG hS => ?_)
  refine lv_i2l hx hb dL_whyNoFill_7 rfl ?_
  refine g_last hx hb hK hG hS hcs hall dL_whyNoFill_8 (fun H locs hG hS => ?_)
  refine lv_goto (tgt := 15) hx hb dL_whyNoFill_9 (by decide) ?_
  refine lv_iconst (v := 0) hx hb dL_whyNoFill_15 (by decide) ?_
  refine W.widen (k := 1) (n := 6) (by decide) (by decide) ?_
  exact vx_ret (g_iret hx hb hrt hlocks hS hG rfl rfl dL_whyNoFill_16)
set_option maxHeartbeats 4000000 in
set_option maxRecDepth 100000 in
theorem wL_whyNoFill_t1 {l : Launch} {Γ : gX} (hcs : 491 ∈ gcs Γ) (h475 : 475 ∈ gcs Γ) {fr lo : Nat} (hfr : fr ≤ 8) (hlo : lo ≤ 140) {M M1 : Nat → Nat → Int32} {R R1 : Nat → Nat → Option Nat} {O : Int64} (a : Int32) (hM : gThr l Γ yX6_whyNoFill wsX6_whyNoFill fr lo [.ref (gad Γ 475), .int a] M R O "java/lang/IndexOutOfBoundsException" M1 R1 O) : gWrp l Γ yL_whyNoFill wsL_whyNoFill 9 180 [.ref (gad Γ 475), .int a, .ref (gad Γ 491)] M R O (some (.int 1)) M1 R1 O := by
  refine g_startW (cc := cL_whyNoFill) (maxL := 4) (ret := (some .int)) (hh := [(0, 9, 12, 28)]) (by decide) rfl (Nat.le_of_ble_eq_true rfl) ?_
  intro p e s m below meth c ls hx hb hml hrt hts hown hlocks hname hK hZ hG hS hl hX hY hnx
  have hl : lv_has ls 4 [(0, .ref (gad Γ 475)), (1, .int a), (2, .ref (gad Γ 491))] := hl
  have hown : s.vm.findClass RL = some m.cls := hown
  have hF : CallFix p m c cL_whyNoFill 4 s _ wsL_whyNoFill RL := ⟨hx, hb, hml, hown, hts⟩
  refine lv_aload_n hx hb dL_whyNoFill_0 rfl (lv_at hl 2 rfl) ?_
  refine lv_iconst (v := 0) hx hb dL_whyNoFill_1 (by decide) ?_
  refine lv_aload_n hx hb dL_whyNoFill_2 rfl (lv_at hl 0 rfl) ?_
  refine lv_iload_n hx hb dL_whyNoFill_3 rfl (lv_at hl 1 rfl) ?_
  refine g_xVc (As := [.int a]) (rest := [.int 0, .ref (gad Γ 491)]) hF hM (cwV 1 hts gL_whyNoFill_X6_whyNoFill rfl rfl rfl (by decide +kernel) ⟨(by show fr + 1 ≤ 9; omega), (by show 8 + (_ + 11) + lo ≤ 180; omega)⟩) hK hZ hX hG hS h475 (show gC 475 = (6, 32, 0) from rfl) (by decide) rfl rfl hl.1 (Nat.le_of_ble_eq_true rfl) dL_whyNoFill_4 ⟨Nat.le_of_ble_eq_true rfl, Nat.le_of_ble_eq_true rfl⟩ rfl (fun ce q9 H locs hG hS hce hcv hcl => ?_)
  refine vx_catch (name := "java/lang/IndexOutOfBoundsException") hown [] ⟨0, 9, 12, 28⟩ [] (by rw [hnx]; rfl) (fun _ h => absurd h List.not_mem_nil) (by decide) (by decide) (hts (Cond.classLink RL 28 "java/lang/IndexOutOfBoundsException") (by decide +kernel)) (gx_cast hX (by decide +kernel)) hce hcv hcl ?_
  refine lv_astore_n (lv' := [(3, .ref q9), (0, .ref (gad Γ 475)), (1, .int a), (2, .ref (gad Γ 491))]) hx hb dL_whyNoFill_12 rfl hl (by decide) rfl (fun ls hl => ?_)
  refine lv_iconst (v := 1) hx hb dL_whyNoFill_13 (by decide) ?_
  exact vx_ret (g_iret hx hb hrt hlocks hS hG rfl rfl dL_whyNoFill_14)
set_option maxHeartbeats 4000000 in
set_option maxRecDepth 100000 in
theorem wL_ahead {l : Launch} {Γ : gX} (hcs : 491 ∈ gcs Γ) (h475 : 475 ∈ gcs Γ) (hall : ∀ c ∈ gcs Γ, c < 492) {fr lo : Nat} (hfr : fr ≤ 8) (hlo : lo ≤ 140) {M M1 : Nat → Nat → Int32} {R R1 : Nat → Nat → Option Nat} {O : Int64} (a : Int32) (d : Int32) {v : Int32} (hM : gMet l Γ yX6_ahead wsX6_ahead fr lo [.ref (gad Γ 475), .int a, .int d] M R O (some (.int v)) M1 R1 O) : gWrp l Γ yL_ahead wsL_ahead 9 180 [.ref (gad Γ 475), .int a, .int d, .ref (gad Γ 491)] M R O (some (.int 0)) M1 R1 v.toInt64 := by
  refine g_startW (cc := cL_ahead) (maxL := 5) (ret := (some .int)) (hh := [(0, 10, 13, 28), (0, 10, 17, 13)]) (by decide) rfl (Nat.le_of_ble_eq_true rfl) ?_
  intro p e s m below meth c ls hx hb hml hrt hts hown hlocks hname hK hZ hG hS hl hX hY hnx
  have hl : lv_has ls 5 [(0, .ref (gad Γ 475)), (1, .int a), (2, .int d), (3, .ref (gad Γ 491))] := hl
  have hown : s.vm.findClass RL = some m.cls := hown
  have hF : CallFix p m c cL_ahead 5 s _ wsL_ahead RL := ⟨hx, hb, hml, hown, hts⟩
  refine lv_aload_n hx hb dL_ahead_0 rfl (lv_at hl 3 rfl) ?_
  refine lv_iconst (v := 0) hx hb dL_ahead_1 (by decide) ?_
  refine lv_aload_n hx hb dL_ahead_2 rfl (lv_at hl 0 rfl) ?_
  refine lv_iload_n hx hb dL_ahead_3 rfl (lv_at hl 1 rfl) ?_
  refine lv_iload_n hx hb dL_ahead_4 rfl (lv_at hl 2 rfl) ?_
  refine g_callV (As := [.int a, .int d]) (rest := [.int 0, .ref (gad Γ 491)]) (st1 := [.int v, .int 0, .ref (gad Γ 491)]) hF hM (cwV 2 hts gL_ahead_X6_ahead rfl rfl rfl (by decide +kernel) ⟨(by show fr + 1 ≤ 9; omega), (by show 8 + (_ + 11) + lo ≤ 180; omega)⟩) hK hZ hG hS h475 (show gC 475 = (6, 32, 0) from rfl) (by decide) rfl rfl hl.1 (Nat.le_of_ble_eq_true rfl) dL_ahead_5 ⟨Nat.zero_le _, Nat.zero_le _⟩ rfl rfl (fun H locs hG hS => ?_)
  refine lv_i2l hx hb dL_ahead_8 rfl ?_
  refine g_last hx hb hK hG hS hcs hall dL_ahead_9 (fun H locs hG hS => ?_)
  refine lv_goto (tgt := 21) hx hb dL_ahead_10 (by decide) ?_
  refine lv_iconst (v := 0) hx hb dL_ahead_21 (by decide) ?_
  refine W.widen (k := 1) (n := 6) (by decide) (by decide) ?_
  exact vx_ret (g_iret hx hb hrt hlocks hS hG rfl rfl dL_ahead_22)
set_option maxHeartbeats 4000000 in
set_option maxRecDepth 100000 in
theorem wL_ahead_t1 {l : Launch} {Γ : gX} (hcs : 491 ∈ gcs Γ) (h475 : 475 ∈ gcs Γ) {fr lo : Nat} (hfr : fr ≤ 8) (hlo : lo ≤ 140) {M M1 : Nat → Nat → Int32} {R R1 : Nat → Nat → Option Nat} {O : Int64} (a : Int32) (d : Int32) (hM : gThr l Γ yX6_ahead wsX6_ahead fr lo [.ref (gad Γ 475), .int a, .int d] M R O "java/lang/IndexOutOfBoundsException" M1 R1 O) : gWrp l Γ yL_ahead wsL_ahead 9 180 [.ref (gad Γ 475), .int a, .int d, .ref (gad Γ 491)] M R O (some (.int 1)) M1 R1 O := by
  refine g_startW (cc := cL_ahead) (maxL := 5) (ret := (some .int)) (hh := [(0, 10, 13, 28), (0, 10, 17, 13)]) (by decide) rfl (Nat.le_of_ble_eq_true rfl) ?_
  intro p e s m below meth c ls hx hb hml hrt hts hown hlocks hname hK hZ hG hS hl hX hY hnx
  have hl : lv_has ls 5 [(0, .ref (gad Γ 475)), (1, .int a), (2, .int d), (3, .ref (gad Γ 491))] := hl
  have hown : s.vm.findClass RL = some m.cls := hown
  have hF : CallFix p m c cL_ahead 5 s _ wsL_ahead RL := ⟨hx, hb, hml, hown, hts⟩
  refine lv_aload_n hx hb dL_ahead_0 rfl (lv_at hl 3 rfl) ?_
  refine lv_iconst (v := 0) hx hb dL_ahead_1 (by decide) ?_
  refine lv_aload_n hx hb dL_ahead_2 rfl (lv_at hl 0 rfl) ?_
  refine lv_iload_n hx hb dL_ahead_3 rfl (lv_at hl 1 rfl) ?_
  refine lv_iload_n hx hb dL_ahead_4 rfl (lv_at hl 2 rfl) ?_
  refine g_xVc (As := [.int a, .int d]) (rest := [.int 0, .ref (gad Γ 491)]) hF hM (cwV 2 hts gL_ahead_X6_ahead rfl rfl rfl (by decide +kernel) ⟨(by show fr + 1 ≤ 9; omega), (by show 8 + (_ + 11) + lo ≤ 180; omega)⟩) hK hZ hX hG hS h475 (show gC 475 = (6, 32, 0) from rfl) (by decide) rfl rfl hl.1 (Nat.le_of_ble_eq_true rfl) dL_ahead_5 ⟨Nat.le_of_ble_eq_true rfl, Nat.le_of_ble_eq_true rfl⟩ rfl (fun ce q9 H locs hG hS hce hcv hcl => ?_)
  refine vx_catch (name := "java/lang/IndexOutOfBoundsException") hown [] ⟨0, 10, 13, 28⟩ [⟨0, 10, 17, 13⟩] (by rw [hnx]; rfl) (fun _ h => absurd h List.not_mem_nil) (by decide) (by decide) (hts (Cond.classLink RL 28 "java/lang/IndexOutOfBoundsException") (by decide +kernel)) (gx_cast hX (by decide +kernel)) hce hcv hcl ?_
  refine lv_astore (lv' := [(4, .ref q9), (0, .ref (gad Γ 475)), (1, .int a), (2, .int d), (3, .ref (gad Γ 491))]) hx hb dL_ahead_13 hl (by decide) rfl (fun ls hl => ?_)
  refine lv_iconst (v := 1) hx hb dL_ahead_15 (by decide) ?_
  exact vx_ret (g_iret hx hb hrt hlocks hS hG rfl rfl dL_ahead_16)
set_option maxHeartbeats 4000000 in
set_option maxRecDepth 100000 in
theorem wL_ahead_t2 {l : Launch} {Γ : gX} (hcs : 491 ∈ gcs Γ) (h475 : 475 ∈ gcs Γ) {fr lo : Nat} (hfr : fr ≤ 8) (hlo : lo ≤ 140) {M M1 : Nat → Nat → Int32} {R R1 : Nat → Nat → Option Nat} {O : Int64} (a : Int32) (d : Int32) (hM : gThr l Γ yX6_ahead wsX6_ahead fr lo [.ref (gad Γ 475), .int a, .int d] M R O "java/lang/IllegalArgumentException" M1 R1 O) : gWrp l Γ yL_ahead wsL_ahead 9 180 [.ref (gad Γ 475), .int a, .int d, .ref (gad Γ 491)] M R O (some (.int 2)) M1 R1 O := by
  refine g_startW (cc := cL_ahead) (maxL := 5) (ret := (some .int)) (hh := [(0, 10, 13, 28), (0, 10, 17, 13)]) (by decide) rfl (Nat.le_of_ble_eq_true rfl) ?_
  intro p e s m below meth c ls hx hb hml hrt hts hown hlocks hname hK hZ hG hS hl hX hY hnx
  have hl : lv_has ls 5 [(0, .ref (gad Γ 475)), (1, .int a), (2, .int d), (3, .ref (gad Γ 491))] := hl
  have hown : s.vm.findClass RL = some m.cls := hown
  have hF : CallFix p m c cL_ahead 5 s _ wsL_ahead RL := ⟨hx, hb, hml, hown, hts⟩
  refine lv_aload_n hx hb dL_ahead_0 rfl (lv_at hl 3 rfl) ?_
  refine lv_iconst (v := 0) hx hb dL_ahead_1 (by decide) ?_
  refine lv_aload_n hx hb dL_ahead_2 rfl (lv_at hl 0 rfl) ?_
  refine lv_iload_n hx hb dL_ahead_3 rfl (lv_at hl 1 rfl) ?_
  refine lv_iload_n hx hb dL_ahead_4 rfl (lv_at hl 2 rfl) ?_
  refine g_xVc (As := [.int a, .int d]) (rest := [.int 0, .ref (gad Γ 491)]) hF hM (cwV 2 hts gL_ahead_X6_ahead rfl rfl rfl (by decide +kernel) ⟨(by show fr + 1 ≤ 9; omega), (by show 8 + (_ + 11) + lo ≤ 180; omega)⟩) hK hZ hX hG hS h475 (show gC 475 = (6, 32, 0) from rfl) (by decide) rfl rfl hl.1 (Nat.le_of_ble_eq_true rfl) dL_ahead_5 ⟨Nat.le_of_ble_eq_true rfl, Nat.le_of_ble_eq_true rfl⟩ rfl (fun ce q9 H locs hG hS hce hcv hcl => ?_)
  refine vx_catch (name := "java/lang/IllegalArgumentException") hown [⟨0, 10, 13, 28⟩] ⟨0, 10, 17, 13⟩ [] (by rw [hnx]; rfl) (List.forall_mem_cons.mpr ⟨Or.inr ⟨by decide, "java/lang/IndexOutOfBoundsException", hts (Cond.classLink RL 28 "java/lang/IndexOutOfBoundsException") (by decide +kernel), hY.1⟩, (fun _ h => absurd h List.not_mem_nil)⟩) (by decide) (by decide) (hts (Cond.classLink RL 13 "java/lang/IllegalArgumentException") (by decide +kernel)) (gx_cast hX (by decide +kernel)) hce hcv hcl ?_
  refine lv_astore (lv' := [(4, .ref q9), (0, .ref (gad Γ 475)), (1, .int a), (2, .int d), (3, .ref (gad Γ 491))]) hx hb dL_ahead_17 hl (by decide) rfl (fun ls hl => ?_)
  refine lv_iconst (v := 2) hx hb dL_ahead_19 (by decide) ?_
  exact vx_ret (g_iret hx hb hrt hlocks hS hG rfl rfl dL_ahead_20)
set_option maxHeartbeats 4000000 in
set_option maxRecDepth 100000 in
theorem wL_waterFor {l : Launch} {Γ : gX} (hcs : 491 ∈ gcs Γ) (h475 : 475 ∈ gcs Γ) (hall : ∀ c ∈ gcs Γ, c < 492) {fr lo : Nat} (hfr : fr ≤ 8) (hlo : lo ≤ 140) {M M1 : Nat → Nat → Int32} {R R1 : Nat → Nat → Option Nat} {O : Int64} (a : Int32) {v : Int32} (hM : gMet l Γ yX6_waterFor wsX6_waterFor fr lo [.ref (gad Γ 475), .int a] M R O (some (.int v)) M1 R1 O) : gWrp l Γ yL_waterFor wsL_waterFor 9 180 [.ref (gad Γ 475), .int a, .ref (gad Γ 491)] M R O (some (.int 0)) M1 R1 v.toInt64 := by
  refine g_startW (cc := cL_waterFor) (maxL := 4) (ret := (some .int)) (hh := [(0, 9, 12, 28)]) (by decide) rfl (Nat.le_of_ble_eq_true rfl) ?_
  intro p e s m below meth c ls hx hb hml hrt hts hown hlocks hname hK hZ hG hS hl hX hY hnx
  have hl : lv_has ls 4 [(0, .ref (gad Γ 475)), (1, .int a), (2, .ref (gad Γ 491))] := hl
  have hown : s.vm.findClass RL = some m.cls := hown
  have hF : CallFix p m c cL_waterFor 4 s _ wsL_waterFor RL := ⟨hx, hb, hml, hown, hts⟩
  refine lv_aload_n hx hb dL_waterFor_0 rfl (lv_at hl 2 rfl) ?_
  refine lv_iconst (v := 0) hx hb dL_waterFor_1 (by decide) ?_
  refine lv_aload_n hx hb dL_waterFor_2 rfl (lv_at hl 0 rfl) ?_
  refine lv_iload_n hx hb dL_waterFor_3 rfl (lv_at hl 1 rfl) ?_
  refine g_callV (As := [.int a]) (rest := [.int 0, .ref (gad Γ 491)]) (st1 := [.int v, .int 0, .ref (gad Γ 491)]) hF hM (cwV 1 hts gL_waterFor_X6_waterFor rfl rfl rfl (by decide +kernel) ⟨(by show fr + 1 ≤ 9; omega), (by show 8 + (_ + 11) + lo ≤ 180; omega)⟩) hK hZ hG hS h475 (show gC 475 = (6, 32, 0) from rfl) (by decide) rfl rfl hl.1 (Nat.le_of_ble_eq_true rfl) dL_waterFor_4 ⟨Nat.zero_le _, Nat.zero_le _⟩ rfl rfl (fun H locs hG hS => ?_)
  refine lv_i2l hx hb dL_waterFor_7 rfl ?_
  refine g_last hx hb hK hG hS hcs hall dL_waterFor_8 (fun H locs hG hS => ?_)
  refine lv_goto (tgt := 15) hx hb dL_waterFor_9 (by decide) ?_
  refine lv_iconst (v := 0) hx hb dL_waterFor_15 (by decide) ?_
  refine W.widen (k := 1) (n := 6) (by decide) (by decide) ?_
  exact vx_ret (g_iret hx hb hrt hlocks hS hG rfl rfl dL_waterFor_16)
set_option maxHeartbeats 4000000 in
set_option maxRecDepth 100000 in
theorem wL_waterFor_t1 {l : Launch} {Γ : gX} (hcs : 491 ∈ gcs Γ) (h475 : 475 ∈ gcs Γ) {fr lo : Nat} (hfr : fr ≤ 8) (hlo : lo ≤ 140) {M M1 : Nat → Nat → Int32} {R R1 : Nat → Nat → Option Nat} {O : Int64} (a : Int32) (hM : gThr l Γ yX6_waterFor wsX6_waterFor fr lo [.ref (gad Γ 475), .int a] M R O "java/lang/IndexOutOfBoundsException" M1 R1 O) : gWrp l Γ yL_waterFor wsL_waterFor 9 180 [.ref (gad Γ 475), .int a, .ref (gad Γ 491)] M R O (some (.int 1)) M1 R1 O := by
  refine g_startW (cc := cL_waterFor) (maxL := 4) (ret := (some .int)) (hh := [(0, 9, 12, 28)]) (by decide) rfl (Nat.le_of_ble_eq_true rfl) ?_
  intro p e s m below meth c ls hx hb hml hrt hts hown hlocks hname hK hZ hG hS hl hX hY hnx
  have hl : lv_has ls 4 [(0, .ref (gad Γ 475)), (1, .int a), (2, .ref (gad Γ 491))] := hl
  have hown : s.vm.findClass RL = some m.cls := hown
  have hF : CallFix p m c cL_waterFor 4 s _ wsL_waterFor RL := ⟨hx, hb, hml, hown, hts⟩
  refine lv_aload_n hx hb dL_waterFor_0 rfl (lv_at hl 2 rfl) ?_
  refine lv_iconst (v := 0) hx hb dL_waterFor_1 (by decide) ?_
  refine lv_aload_n hx hb dL_waterFor_2 rfl (lv_at hl 0 rfl) ?_
  refine lv_iload_n hx hb dL_waterFor_3 rfl (lv_at hl 1 rfl) ?_
  refine g_xVc (As := [.int a]) (rest := [.int 0, .ref (gad Γ 491)]) hF hM (cwV 1 hts gL_waterFor_X6_waterFor rfl rfl rfl (by decide +kernel) ⟨(by show fr + 1 ≤ 9; omega), (by show 8 + (_ + 11) + lo ≤ 180; omega)⟩) hK hZ hX hG hS h475 (show gC 475 = (6, 32, 0) from rfl) (by decide) rfl rfl hl.1 (Nat.le_of_ble_eq_true rfl) dL_waterFor_4 ⟨Nat.le_of_ble_eq_true rfl, Nat.le_of_ble_eq_true rfl⟩ rfl (fun ce q9 H locs hG hS hce hcv hcl => ?_)
  refine vx_catch (name := "java/lang/IndexOutOfBoundsException") hown [] ⟨0, 9, 12, 28⟩ [] (by rw [hnx]; rfl) (fun _ h => absurd h List.not_mem_nil) (by decide) (by decide) (hts (Cond.classLink RL 28 "java/lang/IndexOutOfBoundsException") (by decide +kernel)) (gx_cast hX (by decide +kernel)) hce hcv hcl ?_
  refine lv_astore_n (lv' := [(3, .ref q9), (0, .ref (gad Γ 475)), (1, .int a), (2, .ref (gad Γ 491))]) hx hb dL_waterFor_12 rfl hl (by decide) rfl (fun ls hl => ?_)
  refine lv_iconst (v := 1) hx hb dL_waterFor_13 (by decide) ?_
  exact vx_ret (g_iret hx hb hrt hlocks hS hG rfl rfl dL_waterFor_14)
set_option maxHeartbeats 4000000 in
set_option maxRecDepth 100000 in
theorem wL_limitFor {l : Launch} {Γ : gX} (hcs : 491 ∈ gcs Γ) (h475 : 475 ∈ gcs Γ) (hall : ∀ c ∈ gcs Γ, c < 492) {fr lo : Nat} (hfr : fr ≤ 8) (hlo : lo ≤ 140) {M M1 : Nat → Nat → Int32} {R R1 : Nat → Nat → Option Nat} {O : Int64} (a : Int32) {v : Int32} (hM : gMet l Γ yX6_limitFor wsX6_limitFor fr lo [.ref (gad Γ 475), .int a] M R O (some (.int v)) M1 R1 O) : gWrp l Γ yL_limitFor wsL_limitFor 9 180 [.ref (gad Γ 475), .int a, .ref (gad Γ 491)] M R O (some (.int 0)) M1 R1 v.toInt64 := by
  refine g_startW (cc := cL_limitFor) (maxL := 4) (ret := (some .int)) (hh := [(0, 9, 12, 28)]) (by decide) rfl (Nat.le_of_ble_eq_true rfl) ?_
  intro p e s m below meth c ls hx hb hml hrt hts hown hlocks hname hK hZ hG hS hl hX hY hnx
  have hl : lv_has ls 4 [(0, .ref (gad Γ 475)), (1, .int a), (2, .ref (gad Γ 491))] := hl
  have hown : s.vm.findClass RL = some m.cls := hown
  have hF : CallFix p m c cL_limitFor 4 s _ wsL_limitFor RL := ⟨hx, hb, hml, hown, hts⟩
  refine lv_aload_n hx hb dL_limitFor_0 rfl (lv_at hl 2 rfl) ?_
  refine lv_iconst (v := 0) hx hb dL_limitFor_1 (by decide) ?_
  refine lv_aload_n hx hb dL_limitFor_2 rfl (lv_at hl 0 rfl) ?_
  refine lv_iload_n hx hb dL_limitFor_3 rfl (lv_at hl 1 rfl) ?_
  refine g_callV (As := [.int a]) (rest := [.int 0, .ref (gad Γ 491)]) (st1 := [.int v, .int 0, .ref (gad Γ 491)]) hF hM (cwV 1 hts gL_limitFor_X6_limitFor rfl rfl rfl (by decide +kernel) ⟨(by show fr + 1 ≤ 9; omega), (by show 8 + (_ + 11) + lo ≤ 180; omega)⟩) hK hZ hG hS h475 (show gC 475 = (6, 32, 0) from rfl) (by decide) rfl rfl hl.1 (Nat.le_of_ble_eq_true rfl) dL_limitFor_4 ⟨Nat.zero_le _, Nat.zero_le _⟩ rfl rfl (fun H locs hG hS => ?_)
  refine lv_i2l hx hb dL_limitFor_7 rfl ?_
  refine g_last hx hb hK hG hS hcs hall dL_limitFor_8 (fun H locs hG hS => ?_)
  refine lv_goto (tgt := 15) hx hb dL_limitFor_9 (by decide) ?_
  refine lv_iconst (v := 0) hx hb dL_limitFor_15 (by decide) ?_
  refine W.widen (k := 1) (n := 6) (by decide) (by decide) ?_
  exact vx_ret (g_iret hx hb hrt hlocks hS hG rfl rfl dL_limitFor_16)
set_option maxHeartbeats 4000000 in
set_option maxRecDepth 100000 in
theorem wL_limitFor_t1 {l : Launch} {Γ : gX} (hcs : 491 ∈ gcs Γ) (h475 : 475 ∈ gcs Γ) {fr lo : Nat} (hfr : fr ≤ 8) (hlo : lo ≤ 140) {M M1 : Nat → Nat → Int32} {R R1 : Nat → Nat → Option Nat} {O : Int64} (a : Int32) (hM : gThr l Γ yX6_limitFor wsX6_limitFor fr lo [.ref (gad Γ 475), .int a] M R O "java/lang/IndexOutOfBoundsException" M1 R1 O) : gWrp l Γ yL_limitFor wsL_limitFor 9 180 [.ref (gad Γ 475), .int a, .ref (gad Γ 491)] M R O (some (.int 1)) M1 R1 O := by
  refine g_startW (cc := cL_limitFor) (maxL := 4) (ret := (some .int)) (hh := [(0, 9, 12, 28)]) (by decide) rfl (Nat.le_of_ble_eq_true rfl) ?_
  intro p e s m below meth c ls hx hb hml hrt hts hown hlocks hname hK hZ hG hS hl hX hY hnx
  have hl : lv_has ls 4 [(0, .ref (gad Γ 475)), (1, .int a), (2, .ref (gad Γ 491))] := hl
  have hown : s.vm.findClass RL = some m.cls := hown
  have hF : CallFix p m c cL_limitFor 4 s _ wsL_limitFor RL := ⟨hx, hb, hml, hown, hts⟩
  refine lv_aload_n hx hb dL_limitFor_0 rfl (lv_at hl 2 rfl) ?_
  refine lv_iconst (v := 0) hx hb dL_limitFor_1 (by decide) ?_
  refine lv_aload_n hx hb dL_limitFor_2 rfl (lv_at hl 0 rfl) ?_
  refine lv_iload_n hx hb dL_limitFor_3 rfl (lv_at hl 1 rfl) ?_
  refine g_xVc (As := [.int a]) (rest := [.int 0, .ref (gad Γ 491)]) hF hM (cwV 1 hts gL_limitFor_X6_limitFor rfl rfl rfl (by decide +kernel) ⟨(by show fr + 1 ≤ 9; omega), (by show 8 + (_ + 11) + lo ≤ 180; omega)⟩) hK hZ hX hG hS h475 (show gC 475 = (6, 32, 0) from rfl) (by decide) rfl rfl hl.1 (Nat.le_of_ble_eq_true rfl) dL_limitFor_4 ⟨Nat.le_of_ble_eq_true rfl, Nat.le_of_ble_eq_true rfl⟩ rfl (fun ce q9 H locs hG hS hce hcv hcl => ?_)
  refine vx_catch (name := "java/lang/IndexOutOfBoundsException") hown [] ⟨0, 9, 12, 28⟩ [] (by rw [hnx]; rfl) (fun _ h => absurd h List.not_mem_nil) (by decide) (by decide) (hts (Cond.classLink RL 28 "java/lang/IndexOutOfBoundsException") (by decide +kernel)) (gx_cast hX (by decide +kernel)) hce hcv hcl ?_
  refine lv_astore_n (lv' := [(3, .ref q9), (0, .ref (gad Γ 475)), (1, .int a), (2, .ref (gad Γ 491))]) hx hb dL_limitFor_12 rfl hl (by decide) rfl (fun ls hl => ?_)
  refine lv_iconst (v := 1) hx hb dL_limitFor_13 (by decide) ?_
  exact vx_ret (g_iret hx hb hrt hlocks hS hG rfl rfl dL_limitFor_14)
set_option maxHeartbeats 4000000 in
set_option maxRecDepth 100000 in
theorem wL_bestSpray {l : Launch} {Γ : gX} (hcs : 491 ∈ gcs Γ) (h475 : 475 ∈ gcs Γ) (hall : ∀ c ∈ gcs Γ, c < 492) {fr lo : Nat} (hfr : fr ≤ 8) (hlo : lo ≤ 140) {M M1 : Nat → Nat → Int32} {R R1 : Nat → Nat → Option Nat} {O : Int64} (a : Int32) (d : Int32) {v : Int32} (hM : gMet l Γ yX6_bestSpray wsX6_bestSpray fr lo [.ref (gad Γ 475), .int a, .int d] M R O (some (.int v)) M1 R1 O) : gWrp l Γ yL_bestSpray wsL_bestSpray 9 180 [.ref (gad Γ 475), .int a, .int d, .ref (gad Γ 491)] M R O (some (.int 0)) M1 R1 v.toInt64 := by
  refine g_startW (cc := cL_bestSpray) (maxL := 5) (ret := (some .int)) (hh := [(0, 10, 13, 28), (0, 10, 17, 13)]) (by decide) rfl (Nat.le_of_ble_eq_true rfl) ?_
  intro p e s m below meth c ls hx hb hml hrt hts hown hlocks hname hK hZ hG hS hl hX hY hnx
  have hl : lv_has ls 5 [(0, .ref (gad Γ 475)), (1, .int a), (2, .int d), (3, .ref (gad Γ 491))] := hl
  have hown : s.vm.findClass RL = some m.cls := hown
  have hF : CallFix p m c cL_bestSpray 5 s _ wsL_bestSpray RL := ⟨hx, hb, hml, hown, hts⟩
  refine lv_aload_n hx hb dL_bestSpray_0 rfl (lv_at hl 3 rfl) ?_
  refine lv_iconst (v := 0) hx hb dL_bestSpray_1 (by decide) ?_
  refine lv_aload_n hx hb dL_bestSpray_2 rfl (lv_at hl 0 rfl) ?_
  refine lv_iload_n hx hb dL_bestSpray_3 rfl (lv_at hl 1 rfl) ?_
  refine lv_iload_n hx hb dL_bestSpray_4 rfl (lv_at hl 2 rfl) ?_
  refine g_callV (As := [.int a, .int d]) (rest := [.int 0, .ref (gad Γ 491)]) (st1 := [.int v, .int 0, .ref (gad Γ 491)]) hF hM (cwV 2 hts gL_bestSpray_X6_bestSpray rfl rfl rfl (by decide +kernel) ⟨(by show fr + 1 ≤ 9; omega), (by show 8 + (_ + 11) + lo ≤ 180; omega)⟩) hK hZ hG hS h475 (show gC 475 = (6, 32, 0) from rfl) (by decide) rfl rfl hl.1 (Nat.le_of_ble_eq_true rfl) dL_bestSpray_5 ⟨Nat.zero_le _, Nat.zero_le _⟩ rfl rfl (fun H locs hG hS => ?_)
  refine lv_i2l hx hb dL_bestSpray_8 rfl ?_
  refine g_last hx hb hK hG hS hcs hall dL_bestSpray_9 (fun H locs hG hS => ?_)
  refine lv_goto (tgt := 21) hx hb dL_bestSpray_10 (by decide) ?_
  refine lv_iconst (v := 0) hx hb dL_bestSpray_21 (by decide) ?_
  refine W.widen (k := 1) (n := 6) (by decide) (by decide) ?_
  exact vx_ret (g_iret hx hb hrt hlocks hS hG rfl rfl dL_bestSpray_22)
set_option maxHeartbeats 4000000 in
set_option maxRecDepth 100000 in
theorem wL_bestSpray_t1 {l : Launch} {Γ : gX} (hcs : 491 ∈ gcs Γ) (h475 : 475 ∈ gcs Γ) {fr lo : Nat} (hfr : fr ≤ 8) (hlo : lo ≤ 140) {M M1 : Nat → Nat → Int32} {R R1 : Nat → Nat → Option Nat} {O : Int64} (a : Int32) (d : Int32) (hM : gThr l Γ yX6_bestSpray wsX6_bestSpray fr lo [.ref (gad Γ 475), .int a, .int d] M R O "java/lang/IndexOutOfBoundsException" M1 R1 O) : gWrp l Γ yL_bestSpray wsL_bestSpray 9 180 [.ref (gad Γ 475), .int a, .int d, .ref (gad Γ 491)] M R O (some (.int 1)) M1 R1 O := by
  refine g_startW (cc := cL_bestSpray) (maxL := 5) (ret := (some .int)) (hh := [(0, 10, 13, 28), (0, 10, 17, 13)]) (by decide) rfl (Nat.le_of_ble_eq_true rfl) ?_
  intro p e s m below meth c ls hx hb hml hrt hts hown hlocks hname hK hZ hG hS hl hX hY hnx
  have hl : lv_has ls 5 [(0, .ref (gad Γ 475)), (1, .int a), (2, .int d), (3, .ref (gad Γ 491))] := hl
  have hown : s.vm.findClass RL = some m.cls := hown
  have hF : CallFix p m c cL_bestSpray 5 s _ wsL_bestSpray RL := ⟨hx, hb, hml, hown, hts⟩
  refine lv_aload_n hx hb dL_bestSpray_0 rfl (lv_at hl 3 rfl) ?_
  refine lv_iconst (v := 0) hx hb dL_bestSpray_1 (by decide) ?_
  refine lv_aload_n hx hb dL_bestSpray_2 rfl (lv_at hl 0 rfl) ?_
  refine lv_iload_n hx hb dL_bestSpray_3 rfl (lv_at hl 1 rfl) ?_
  refine lv_iload_n hx hb dL_bestSpray_4 rfl (lv_at hl 2 rfl) ?_
  refine g_xVc (As := [.int a, .int d]) (rest := [.int 0, .ref (gad Γ 491)]) hF hM (cwV 2 hts gL_bestSpray_X6_bestSpray rfl rfl rfl (by decide +kernel) ⟨(by show fr + 1 ≤ 9; omega), (by show 8 + (_ + 11) + lo ≤ 180; omega)⟩) hK hZ hX hG hS h475 (show gC 475 = (6, 32, 0) from rfl) (by decide) rfl rfl hl.1 (Nat.le_of_ble_eq_true rfl) dL_bestSpray_5 ⟨Nat.le_of_ble_eq_true rfl, Nat.le_of_ble_eq_true rfl⟩ rfl (fun ce q9 H locs hG hS hce hcv hcl => ?_)
  refine vx_catch (name := "java/lang/IndexOutOfBoundsException") hown [] ⟨0, 10, 13, 28⟩ [⟨0, 10, 17, 13⟩] (by rw [hnx]; rfl) (fun _ h => absurd h List.not_mem_nil) (by decide) (by decide) (hts (Cond.classLink RL 28 "java/lang/IndexOutOfBoundsException") (by decide +kernel)) (gx_cast hX (by decide +kernel)) hce hcv hcl ?_
  refine lv_astore (lv' := [(4, .ref q9), (0, .ref (gad Γ 475)), (1, .int a), (2, .int d), (3, .ref (gad Γ 491))]) hx hb dL_bestSpray_13 hl (by decide) rfl (fun ls hl => ?_)
  refine lv_iconst (v := 1) hx hb dL_bestSpray_15 (by decide) ?_
  exact vx_ret (g_iret hx hb hrt hlocks hS hG rfl rfl dL_bestSpray_16)
set_option maxHeartbeats 4000000 in
set_option maxRecDepth 100000 in
theorem wL_bestSpray_t2 {l : Launch} {Γ : gX} (hcs : 491 ∈ gcs Γ) (h475 : 475 ∈ gcs Γ) {fr lo : Nat} (hfr : fr ≤ 8) (hlo : lo ≤ 140) {M M1 : Nat → Nat → Int32} {R R1 : Nat → Nat → Option Nat} {O : Int64} (a : Int32) (d : Int32) (hM : gThr l Γ yX6_bestSpray wsX6_bestSpray fr lo [.ref (gad Γ 475), .int a, .int d] M R O "java/lang/IllegalArgumentException" M1 R1 O) : gWrp l Γ yL_bestSpray wsL_bestSpray 9 180 [.ref (gad Γ 475), .int a, .int d, .ref (gad Γ 491)] M R O (some (.int 2)) M1 R1 O := by
  refine g_startW (cc := cL_bestSpray) (maxL := 5) (ret := (some .int)) (hh := [(0, 10, 13, 28), (0, 10, 17, 13)]) (by decide) rfl (Nat.le_of_ble_eq_true rfl) ?_
  intro p e s m below meth c ls hx hb hml hrt hts hown hlocks hname hK hZ hG hS hl hX hY hnx
  have hl : lv_has ls 5 [(0, .ref (gad Γ 475)), (1, .int a), (2, .int d), (3, .ref (gad Γ 491))] := hl
  have hown : s.vm.findClass RL = some m.cls := hown
  have hF : CallFix p m c cL_bestSpray 5 s _ wsL_bestSpray RL := ⟨hx, hb, hml, hown, hts⟩
  refine lv_aload_n hx hb dL_bestSpray_0 rfl (lv_at hl 3 rfl) ?_
  refine lv_iconst (v := 0) hx hb dL_bestSpray_1 (by decide) ?_
  refine lv_aload_n hx hb dL_bestSpray_2 rfl (lv_at hl 0 rfl) ?_
  refine lv_iload_n hx hb dL_bestSpray_3 rfl (lv_at hl 1 rfl) ?_
  refine lv_iload_n hx hb dL_bestSpray_4 rfl (lv_at hl 2 rfl) ?_
  refine g_xVc (As := [.int a, .int d]) (rest := [.int 0, .ref (gad Γ 491)]) hF hM (cwV 2 hts gL_bestSpray_X6_bestSpray rfl rfl rfl (by decide +kernel) ⟨(by show fr + 1 ≤ 9; omega), (by show 8 + (_ + 11) + lo ≤ 180; omega)⟩) hK hZ hX hG hS h475 (show gC 475 = (6, 32, 0) from rfl) (by decide) rfl rfl hl.1 (Nat.le_of_ble_eq_true rfl) dL_bestSpray_5 ⟨Nat.le_of_ble_eq_true rfl, Nat.le_of_ble_eq_true rfl⟩ rfl (fun ce q9 H locs hG hS hce hcv hcl => ?_)
  refine vx_catch (name := "java/lang/IllegalArgumentException") hown [⟨0, 10, 13, 28⟩] ⟨0, 10, 17, 13⟩ [] (by rw [hnx]; rfl) (List.forall_mem_cons.mpr ⟨Or.inr ⟨by decide, "java/lang/IndexOutOfBoundsException", hts (Cond.classLink RL 28 "java/lang/IndexOutOfBoundsException") (by decide +kernel), hY.1⟩, (fun _ h => absurd h List.not_mem_nil)⟩) (by decide) (by decide) (hts (Cond.classLink RL 13 "java/lang/IllegalArgumentException") (by decide +kernel)) (gx_cast hX (by decide +kernel)) hce hcv hcl ?_
  refine lv_astore (lv' := [(4, .ref q9), (0, .ref (gad Γ 475)), (1, .int a), (2, .int d), (3, .ref (gad Γ 491))]) hx hb dL_bestSpray_17 hl (by decide) rfl (fun ls hl => ?_)
  refine lv_iconst (v := 2) hx hb dL_bestSpray_19 (by decide) ?_
  exact vx_ret (g_iret hx hb hrt hlocks hS hG rfl rfl dL_bestSpray_20)
set_option maxHeartbeats 4000000 in
set_option maxRecDepth 100000 in
theorem wL_complainsIn {l : Launch} {Γ : gX} (hcs : 491 ∈ gcs Γ) (h475 : 475 ∈ gcs Γ) (hall : ∀ c ∈ gcs Γ, c < 492) {fr lo : Nat} (hfr : fr ≤ 8) (hlo : lo ≤ 140) {M M1 : Nat → Nat → Int32} {R R1 : Nat → Nat → Option Nat} {O : Int64} (a : Int32) {v : Int32} (hM : gMet l Γ yX6_complainsIn wsX6_complainsIn fr lo [.ref (gad Γ 475), .int a] M R O (some (.int v)) M1 R1 O) : gWrp l Γ yL_complainsIn wsL_complainsIn 9 180 [.ref (gad Γ 475), .int a, .ref (gad Γ 491)] M R O (some (.int 0)) M1 R1 v.toInt64 := by
  refine g_startW (cc := cL_complainsIn) (maxL := 4) (ret := (some .int)) (hh := [(0, 9, 12, 28)]) (by decide) rfl (Nat.le_of_ble_eq_true rfl) ?_
  intro p e s m below meth c ls hx hb hml hrt hts hown hlocks hname hK hZ hG hS hl hX hY hnx
  have hl : lv_has ls 4 [(0, .ref (gad Γ 475)), (1, .int a), (2, .ref (gad Γ 491))] := hl
  have hown : s.vm.findClass RL = some m.cls := hown
  have hF : CallFix p m c cL_complainsIn 4 s _ wsL_complainsIn RL := ⟨hx, hb, hml, hown, hts⟩
  refine lv_aload_n hx hb dL_complainsIn_0 rfl (lv_at hl 2 rfl) ?_
  refine lv_iconst (v := 0) hx hb dL_complainsIn_1 (by decide) ?_
  refine lv_aload_n hx hb dL_complainsIn_2 rfl (lv_at hl 0 rfl) ?_
  refine lv_iload_n hx hb dL_complainsIn_3 rfl (lv_at hl 1 rfl) ?_
  refine g_callV (As := [.int a]) (rest := [.int 0, .ref (gad Γ 491)]) (st1 := [.int v, .int 0, .ref (gad Γ 491)]) hF hM (cwV 1 hts gL_complainsIn_X6_complainsIn rfl rfl rfl (by decide +kernel) ⟨(by show fr + 1 ≤ 9; omega), (by show 8 + (_ + 11) + lo ≤ 180; omega)⟩) hK hZ hG hS h475 (show gC 475 = (6, 32, 0) from rfl) (by decide) rfl rfl hl.1 (Nat.le_of_ble_eq_true rfl) dL_complainsIn_4 ⟨Nat.zero_le _, Nat.zero_le _⟩ rfl rfl (fun H locs hG hS => ?_)
  refine lv_i2l hx hb dL_complainsIn_7 rfl ?_
  refine g_last hx hb hK hG hS hcs hall dL_complainsIn_8 (fun H locs hG hS => ?_)
  refine lv_goto (tgt := 15) hx hb dL_complainsIn_9 (by decide) ?_
  refine lv_iconst (v := 0) hx hb dL_complainsIn_15 (by decide) ?_
  refine W.widen (k := 1) (n := 6) (by decide) (by decide) ?_
  exact vx_ret (g_iret hx hb hrt hlocks hS hG rfl rfl dL_complainsIn_16)
set_option maxHeartbeats 4000000 in
set_option maxRecDepth 100000 in
theorem wL_complainsIn_t1 {l : Launch} {Γ : gX} (hcs : 491 ∈ gcs Γ) (h475 : 475 ∈ gcs Γ) {fr lo : Nat} (hfr : fr ≤ 8) (hlo : lo ≤ 140) {M M1 : Nat → Nat → Int32} {R R1 : Nat → Nat → Option Nat} {O : Int64} (a : Int32) (hM : gThr l Γ yX6_complainsIn wsX6_complainsIn fr lo [.ref (gad Γ 475), .int a] M R O "java/lang/IndexOutOfBoundsException" M1 R1 O) : gWrp l Γ yL_complainsIn wsL_complainsIn 9 180 [.ref (gad Γ 475), .int a, .ref (gad Γ 491)] M R O (some (.int 1)) M1 R1 O := by
  refine g_startW (cc := cL_complainsIn) (maxL := 4) (ret := (some .int)) (hh := [(0, 9, 12, 28)]) (by decide) rfl (Nat.le_of_ble_eq_true rfl) ?_
  intro p e s m below meth c ls hx hb hml hrt hts hown hlocks hname hK hZ hG hS hl hX hY hnx
  have hl : lv_has ls 4 [(0, .ref (gad Γ 475)), (1, .int a), (2, .ref (gad Γ 491))] := hl
  have hown : s.vm.findClass RL = some m.cls := hown
  have hF : CallFix p m c cL_complainsIn 4 s _ wsL_complainsIn RL := ⟨hx, hb, hml, hown, hts⟩
  refine lv_aload_n hx hb dL_complainsIn_0 rfl (lv_at hl 2 rfl) ?_
  refine lv_iconst (v := 0) hx hb dL_complainsIn_1 (by decide) ?_
  refine lv_aload_n hx hb dL_complainsIn_2 rfl (lv_at hl 0 rfl) ?_
  refine lv_iload_n hx hb dL_complainsIn_3 rfl (lv_at hl 1 rfl) ?_
  refine g_xVc (As := [.int a]) (rest := [.int 0, .ref (gad Γ 491)]) hF hM (cwV 1 hts gL_complainsIn_X6_complainsIn rfl rfl rfl (by decide +kernel) ⟨(by show fr + 1 ≤ 9; omega), (by show 8 + (_ + 11) + lo ≤ 180; omega)⟩) hK hZ hX hG hS h475 (show gC 475 = (6, 32, 0) from rfl) (by decide) rfl rfl hl.1 (Nat.le_of_ble_eq_true rfl) dL_complainsIn_4 ⟨Nat.le_of_ble_eq_true rfl, Nat.le_of_ble_eq_true rfl⟩ rfl (fun ce q9 H locs hG hS hce hcv hcl => ?_)
  refine vx_catch (name := "java/lang/IndexOutOfBoundsException") hown [] ⟨0, 9, 12, 28⟩ [] (by rw [hnx]; rfl) (fun _ h => absurd h List.not_mem_nil) (by decide) (by decide) (hts (Cond.classLink RL 28 "java/lang/IndexOutOfBoundsException") (by decide +kernel)) (gx_cast hX (by decide +kernel)) hce hcv hcl ?_
  refine lv_astore_n (lv' := [(3, .ref q9), (0, .ref (gad Γ 475)), (1, .int a), (2, .ref (gad Γ 491))]) hx hb dL_complainsIn_12 rfl hl (by decide) rfl (fun ls hl => ?_)
  refine lv_iconst (v := 1) hx hb dL_complainsIn_13 (by decide) ?_
  exact vx_ret (g_iret hx hb hrt hlocks hS hG rfl rfl dL_complainsIn_14)
set_option maxHeartbeats 4000000 in
set_option maxRecDepth 100000 in
theorem wL_runScript {l : Launch} {Γ : gX} (hcs : 491 ∈ gcs Γ) (h475 : 475 ∈ gcs Γ) (hall : ∀ c ∈ gcs Γ, c < 492) {fr lo : Nat} (hfr : fr ≤ 8) (hlo : lo ≤ 140) {M M1 : Nat → Nat → Int32} {R R1 : Nat → Nat → Option Nat} {O : Int64} (a : Int32) (d : Int64) {v : Int32} (hM : gMet l Γ yX6_runScript wsX6_runScript fr lo [.ref (gad Γ 475), .int a, .long d] M R O (some (.int v)) M1 R1 O) : gWrp l Γ yL_runScript wsL_runScript 9 180 [.ref (gad Γ 475), .int a, .long d, .ref (gad Γ 491)] M R O (some (.int 0)) M1 R1 v.toInt64 := by
  refine g_startW (cc := cL_runScript) (maxL := 6) (ret := (some .int)) (hh := [(0, 11, 14, 13)]) (by decide) rfl (Nat.le_of_ble_eq_true rfl) ?_
  intro p e s m below meth c ls hx hb hml hrt hts hown hlocks hname hK hZ hG hS hl hX hY hnx
  have hl : lv_has ls 6 [(0, .ref (gad Γ 475)), (1, .int a), (2, .long d), (4, .ref (gad Γ 491))] := hl
  have hown : s.vm.findClass RL = some m.cls := hown
  have hF : CallFix p m c cL_runScript 6 s _ wsL_runScript RL := ⟨hx, hb, hml, hown, hts⟩
  refine lv_aload hx hb dL_runScript_0 (lv_at hl 3 rfl) ?_
  refine lv_iconst (v := 0) hx hb dL_runScript_2 (by decide) ?_
  refine lv_aload_n hx hb dL_runScript_3 rfl (lv_at hl 0 rfl) ?_
  refine lv_iload_n hx hb dL_runScript_4 rfl (lv_at hl 1 rfl) ?_
  refine lv_lload_n hx hb dL_runScript_5 rfl (lv_at hl 2 rfl) ?_
  refine g_callV (As := [.int a, .long d]) (rest := [.int 0, .ref (gad Γ 491)]) (st1 := [.int v, .int 0, .ref (gad Γ 491)]) hF hM (cwV 2 hts gL_runScript_X6_runScript rfl rfl rfl (by decide +kernel) ⟨(by show fr + 1 ≤ 9; omega), (by show 8 + (_ + 11) + lo ≤ 180; omega)⟩) hK hZ hG hS h475 (show gC 475 = (6, 32, 0) from rfl) (by decide) rfl rfl hl.1 (Nat.le_of_ble_eq_true rfl) dL_runScript_6 ⟨Nat.zero_le _, Nat.zero_le _⟩ rfl rfl (fun H locs hG hS => ?_)
  refine lv_i2l hx hb dL_runScript_9 rfl ?_
  refine g_last hx hb hK hG hS hcs hall dL_runScript_10 (fun H locs hG hS => ?_)
  refine lv_goto (tgt := 18) hx hb dL_runScript_11 (by decide) ?_
  refine lv_iconst (v := 0) hx hb dL_runScript_18 (by decide) ?_
  refine W.widen (k := 1) (n := 6) (by decide) (by decide) ?_
  exact vx_ret (g_iret hx hb hrt hlocks hS hG rfl rfl dL_runScript_19)
set_option maxHeartbeats 4000000 in
set_option maxRecDepth 100000 in
theorem wL_runScript_t1 {l : Launch} {Γ : gX} (hcs : 491 ∈ gcs Γ) (h475 : 475 ∈ gcs Γ) {fr lo : Nat} (hfr : fr ≤ 8) (hlo : lo ≤ 140) {M M1 : Nat → Nat → Int32} {R R1 : Nat → Nat → Option Nat} {O : Int64} (a : Int32) (d : Int64) (hM : gThr l Γ yX6_runScript wsX6_runScript fr lo [.ref (gad Γ 475), .int a, .long d] M R O "java/lang/IllegalArgumentException" M1 R1 O) : gWrp l Γ yL_runScript wsL_runScript 9 180 [.ref (gad Γ 475), .int a, .long d, .ref (gad Γ 491)] M R O (some (.int 1)) M1 R1 O := by
  refine g_startW (cc := cL_runScript) (maxL := 6) (ret := (some .int)) (hh := [(0, 11, 14, 13)]) (by decide) rfl (Nat.le_of_ble_eq_true rfl) ?_
  intro p e s m below meth c ls hx hb hml hrt hts hown hlocks hname hK hZ hG hS hl hX hY hnx
  have hl : lv_has ls 6 [(0, .ref (gad Γ 475)), (1, .int a), (2, .long d), (4, .ref (gad Γ 491))] := hl
  have hown : s.vm.findClass RL = some m.cls := hown
  have hF : CallFix p m c cL_runScript 6 s _ wsL_runScript RL := ⟨hx, hb, hml, hown, hts⟩
  refine lv_aload hx hb dL_runScript_0 (lv_at hl 3 rfl) ?_
  refine lv_iconst (v := 0) hx hb dL_runScript_2 (by decide) ?_
  refine lv_aload_n hx hb dL_runScript_3 rfl (lv_at hl 0 rfl) ?_
  refine lv_iload_n hx hb dL_runScript_4 rfl (lv_at hl 1 rfl) ?_
  refine lv_lload_n hx hb dL_runScript_5 rfl (lv_at hl 2 rfl) ?_
  refine g_xVc (As := [.int a, .long d]) (rest := [.int 0, .ref (gad Γ 491)]) hF hM (cwV 2 hts gL_runScript_X6_runScript rfl rfl rfl (by decide +kernel) ⟨(by show fr + 1 ≤ 9; omega), (by show 8 + (_ + 11) + lo ≤ 180; omega)⟩) hK hZ hX hG hS h475 (show gC 475 = (6, 32, 0) from rfl) (by decide) rfl rfl hl.1 (Nat.le_of_ble_eq_true rfl) dL_runScript_6 ⟨Nat.le_of_ble_eq_true rfl, Nat.le_of_ble_eq_true rfl⟩ rfl (fun ce q9 H locs hG hS hce hcv hcl => ?_)
  refine vx_catch (name := "java/lang/IllegalArgumentException") hown [] ⟨0, 11, 14, 13⟩ [] (by rw [hnx]; rfl) (fun _ h => absurd h List.not_mem_nil) (by decide) (by decide) (hts (Cond.classLink RL 13 "java/lang/IllegalArgumentException") (by decide +kernel)) (gx_cast hX (by decide +kernel)) hce hcv hcl ?_
  refine lv_astore (lv' := [(5, .ref q9), (0, .ref (gad Γ 475)), (1, .int a), (2, .long d), (4, .ref (gad Γ 491))]) hx hb dL_runScript_14 hl (by decide) rfl (fun ls hl => ?_)
  refine lv_iconst (v := 1) hx hb dL_runScript_16 (by decide) ?_
  exact vx_ret (g_iret hx hb hrt hlocks hS hG rfl rfl dL_runScript_17)
set_option maxHeartbeats 4000000 in
set_option maxRecDepth 100000 in
theorem wL_simulate {l : Launch} {Γ : gX} (hcs : 491 ∈ gcs Γ) (h475 : 475 ∈ gcs Γ) (hall : ∀ c ∈ gcs Γ, c < 492) {fr lo : Nat} (hfr : fr ≤ 8) (hlo : lo ≤ 140) {M M1 : Nat → Nat → Int32} {R R1 : Nat → Nat → Option Nat} {O : Int64} (a : Int64) (d : Int32) {v : Int32} (hM : gMet l Γ yX6_simulate wsX6_simulate fr lo [.ref (gad Γ 475), .long a, .int d] M R O (some (.int v)) M1 R1 O) : gWrp l Γ yL_simulate wsL_simulate 9 180 [.ref (gad Γ 475), .long a, .int d, .ref (gad Γ 491)] M R O (some (.int 0)) M1 R1 v.toInt64 := by
  refine g_startW (cc := cL_simulate) (maxL := 6) (ret := (some .int)) (hh := [(0, 11, 14, 13)]) (by decide) rfl (Nat.le_of_ble_eq_true rfl) ?_
  intro p e s m below meth c ls hx hb hml hrt hts hown hlocks hname hK hZ hG hS hl hX hY hnx
  have hl : lv_has ls 6 [(0, .ref (gad Γ 475)), (1, .long a), (3, .int d), (4, .ref (gad Γ 491))] := hl
  have hown : s.vm.findClass RL = some m.cls := hown
  have hF : CallFix p m c cL_simulate 6 s _ wsL_simulate RL := ⟨hx, hb, hml, hown, hts⟩
  refine lv_aload hx hb dL_simulate_0 (lv_at hl 3 rfl) ?_
  refine lv_iconst (v := 0) hx hb dL_simulate_2 (by decide) ?_
  refine lv_aload_n hx hb dL_simulate_3 rfl (lv_at hl 0 rfl) ?_
  refine lv_lload_n hx hb dL_simulate_4 rfl (lv_at hl 1 rfl) ?_
  refine lv_iload_n hx hb dL_simulate_5 rfl (lv_at hl 2 rfl) ?_
  refine g_callV (As := [.long a, .int d]) (rest := [.int 0, .ref (gad Γ 491)]) (st1 := [.int v, .int 0, .ref (gad Γ 491)]) hF hM (cwV 2 hts gL_simulate_X6_simulate rfl rfl rfl (by decide +kernel) ⟨(by show fr + 1 ≤ 9; omega), (by show 8 + (_ + 11) + lo ≤ 180; omega)⟩) hK hZ hG hS h475 (show gC 475 = (6, 32, 0) from rfl) (by decide) rfl rfl hl.1 (Nat.le_of_ble_eq_true rfl) dL_simulate_6 ⟨Nat.zero_le _, Nat.zero_le _⟩ rfl rfl (fun H locs hG hS => ?_)
  refine lv_i2l hx hb dL_simulate_9 rfl ?_
  refine g_last hx hb hK hG hS hcs hall dL_simulate_10 (fun H locs hG hS => ?_)
  refine lv_goto (tgt := 18) hx hb dL_simulate_11 (by decide) ?_
  refine lv_iconst (v := 0) hx hb dL_simulate_18 (by decide) ?_
  refine W.widen (k := 1) (n := 6) (by decide) (by decide) ?_
  exact vx_ret (g_iret hx hb hrt hlocks hS hG rfl rfl dL_simulate_19)
set_option maxHeartbeats 4000000 in
set_option maxRecDepth 100000 in
theorem wL_simulate_t1 {l : Launch} {Γ : gX} (hcs : 491 ∈ gcs Γ) (h475 : 475 ∈ gcs Γ) {fr lo : Nat} (hfr : fr ≤ 8) (hlo : lo ≤ 140) {M M1 : Nat → Nat → Int32} {R R1 : Nat → Nat → Option Nat} {O : Int64} (a : Int64) (d : Int32) (hM : gThr l Γ yX6_simulate wsX6_simulate fr lo [.ref (gad Γ 475), .long a, .int d] M R O "java/lang/IllegalArgumentException" M1 R1 O) : gWrp l Γ yL_simulate wsL_simulate 9 180 [.ref (gad Γ 475), .long a, .int d, .ref (gad Γ 491)] M R O (some (.int 1)) M1 R1 O := by
  refine g_startW (cc := cL_simulate) (maxL := 6) (ret := (some .int)) (hh := [(0, 11, 14, 13)]) (by decide) rfl (Nat.le_of_ble_eq_true rfl) ?_
  intro p e s m below meth c ls hx hb hml hrt hts hown hlocks hname hK hZ hG hS hl hX hY hnx
  have hl : lv_has ls 6 [(0, .ref (gad Γ 475)), (1, .long a), (3, .int d), (4, .ref (gad Γ 491))] := hl
  have hown : s.vm.findClass RL = some m.cls := hown
  have hF : CallFix p m c cL_simulate 6 s _ wsL_simulate RL := ⟨hx, hb, hml, hown, hts⟩
  refine lv_aload hx hb dL_simulate_0 (lv_at hl 3 rfl) ?_
  refine lv_iconst (v := 0) hx hb dL_simulate_2 (by decide) ?_
  refine lv_aload_n hx hb dL_simulate_3 rfl (lv_at hl 0 rfl) ?_
  refine lv_lload_n hx hb dL_simulate_4 rfl (lv_at hl 1 rfl) ?_
  refine lv_iload_n hx hb dL_simulate_5 rfl (lv_at hl 2 rfl) ?_
  refine g_xVc (As := [.long a, .int d]) (rest := [.int 0, .ref (gad Γ 491)]) hF hM (cwV 2 hts gL_simulate_X6_simulate rfl rfl rfl (by decide +kernel) ⟨(by show fr + 1 ≤ 9; omega), (by show 8 + (_ + 11) + lo ≤ 180; omega)⟩) hK hZ hX hG hS h475 (show gC 475 = (6, 32, 0) from rfl) (by decide) rfl rfl hl.1 (Nat.le_of_ble_eq_true rfl) dL_simulate_6 ⟨Nat.le_of_ble_eq_true rfl, Nat.le_of_ble_eq_true rfl⟩ rfl (fun ce q9 H locs hG hS hce hcv hcl => ?_)
  refine vx_catch (name := "java/lang/IllegalArgumentException") hown [] ⟨0, 11, 14, 13⟩ [] (by rw [hnx]; rfl) (fun _ h => absurd h List.not_mem_nil) (by decide) (by decide) (hts (Cond.classLink RL 13 "java/lang/IllegalArgumentException") (by decide +kernel)) (gx_cast hX (by decide +kernel)) hce hcv hcl ?_
  refine lv_astore (lv' := [(5, .ref q9), (0, .ref (gad Γ 475)), (1, .long a), (3, .int d), (4, .ref (gad Γ 491))]) hx hb dL_simulate_14 hl (by decide) rfl (fun ls hl => ?_)
  refine lv_iconst (v := 1) hx hb dL_simulate_16 (by decide) ?_
  exact vx_ret (g_iret hx hb hrt hlocks hS hG rfl rfl dL_simulate_17)
set_option maxHeartbeats 4000000 in
set_option maxRecDepth 100000 in
theorem wL_save {l : Launch} {Γ : gX} (hcs : 491 ∈ gcs Γ) (h475 : 475 ∈ gcs Γ) (hall : ∀ c ∈ gcs Γ, c < 492) {fr lo : Nat} (hfr : fr ≤ 8) (hlo : lo ≤ 140) {M M1 : Nat → Nat → Int32} {R R1 : Nat → Nat → Option Nat} {O : Int64} (a : Int32) {v : Int32} (hM : gMet l Γ yX6_save wsX6_save fr lo [.ref (gad Γ 475), .int a] M R O (some (.int v)) M1 R1 O) : gWrp l Γ yL_save wsL_save 9 180 [.ref (gad Γ 475), .int a, .ref (gad Γ 491)] M R O (some (.int 0)) M1 R1 v.toInt64 := by
  refine g_startW (cc := cL_save) (maxL := 4) (ret := (some .int)) (hh := [(0, 9, 12, 28)]) (by decide) rfl (Nat.le_of_ble_eq_true rfl) ?_
  intro p e s m below meth c ls hx hb hml hrt hts hown hlocks hname hK hZ hG hS hl hX hY hnx
  have hl : lv_has ls 4 [(0, .ref (gad Γ 475)), (1, .int a), (2, .ref (gad Γ 491))] := hl
  have hown : s.vm.findClass RL = some m.cls := hown
  have hF : CallFix p m c cL_save 4 s _ wsL_save RL := ⟨hx, hb, hml, hown, hts⟩
  refine lv_aload_n hx hb dL_save_0 rfl (lv_at hl 2 rfl) ?_
  refine lv_iconst (v := 0) hx hb dL_save_1 (by decide) ?_
  refine lv_aload_n hx hb dL_save_2 rfl (lv_at hl 0 rfl) ?_
  refine lv_iload_n hx hb dL_save_3 rfl (lv_at hl 1 rfl) ?_
  refine g_callV (As := [.int a]) (rest := [.int 0, .ref (gad Γ 491)]) (st1 := [.int v, .int 0, .ref (gad Γ 491)]) hF hM (cwV 1 hts gL_save_X6_save rfl rfl rfl (by decide +kernel) ⟨(by show fr + 1 ≤ 9; omega), (by show 8 + (_ + 11) + lo ≤ 180; omega)⟩) hK hZ hG hS h475 (show gC 475 = (6, 32, 0) from rfl) (by decide) rfl rfl hl.1 (Nat.le_of_ble_eq_true rfl) dL_save_4 ⟨Nat.zero_le _, Nat.zero_le _⟩ rfl rfl (fun H locs hG hS => ?_)
  refine lv_i2l hx hb dL_save_7 rfl ?_
  refine g_last hx hb hK hG hS hcs hall dL_save_8 (fun H locs hG hS => ?_)
  refine lv_goto (tgt := 15) hx hb dL_save_9 (by decide) ?_
  refine lv_iconst (v := 0) hx hb dL_save_15 (by decide) ?_
  refine W.widen (k := 1) (n := 6) (by decide) (by decide) ?_
  exact vx_ret (g_iret hx hb hrt hlocks hS hG rfl rfl dL_save_16)
set_option maxHeartbeats 4000000 in
set_option maxRecDepth 100000 in
theorem wL_save_t1 {l : Launch} {Γ : gX} (hcs : 491 ∈ gcs Γ) (h475 : 475 ∈ gcs Γ) {fr lo : Nat} (hfr : fr ≤ 8) (hlo : lo ≤ 140) {M M1 : Nat → Nat → Int32} {R R1 : Nat → Nat → Option Nat} {O : Int64} (a : Int32) (hM : gThr l Γ yX6_save wsX6_save fr lo [.ref (gad Γ 475), .int a] M R O "java/lang/IndexOutOfBoundsException" M1 R1 O) : gWrp l Γ yL_save wsL_save 9 180 [.ref (gad Γ 475), .int a, .ref (gad Γ 491)] M R O (some (.int 1)) M1 R1 O := by
  refine g_startW (cc := cL_save) (maxL := 4) (ret := (some .int)) (hh := [(0, 9, 12, 28)]) (by decide) rfl (Nat.le_of_ble_eq_true rfl) ?_
  intro p e s m below meth c ls hx hb hml hrt hts hown hlocks hname hK hZ hG hS hl hX hY hnx
  have hl : lv_has ls 4 [(0, .ref (gad Γ 475)), (1, .int a), (2, .ref (gad Γ 491))] := hl
  have hown : s.vm.findClass RL = some m.cls := hown
  have hF : CallFix p m c cL_save 4 s _ wsL_save RL := ⟨hx, hb, hml, hown, hts⟩
  refine lv_aload_n hx hb dL_save_0 rfl (lv_at hl 2 rfl) ?_
  refine lv_iconst (v := 0) hx hb dL_save_1 (by decide) ?_
  refine lv_aload_n hx hb dL_save_2 rfl (lv_at hl 0 rfl) ?_
  refine lv_iload_n hx hb dL_save_3 rfl (lv_at hl 1 rfl) ?_
  refine g_xVc (As := [.int a]) (rest := [.int 0, .ref (gad Γ 491)]) hF hM (cwV 1 hts gL_save_X6_save rfl rfl rfl (by decide +kernel) ⟨(by show fr + 1 ≤ 9; omega), (by show 8 + (_ + 11) + lo ≤ 180; omega)⟩) hK hZ hX hG hS h475 (show gC 475 = (6, 32, 0) from rfl) (by decide) rfl rfl hl.1 (Nat.le_of_ble_eq_true rfl) dL_save_4 ⟨Nat.le_of_ble_eq_true rfl, Nat.le_of_ble_eq_true rfl⟩ rfl (fun ce q9 H locs hG hS hce hcv hcl => ?_)
  refine vx_catch (name := "java/lang/IndexOutOfBoundsException") hown [] ⟨0, 9, 12, 28⟩ [] (by rw [hnx]; rfl) (fun _ h => absurd h List.not_mem_nil) (by decide) (by decide) (hts (Cond.classLink RL 28 "java/lang/IndexOutOfBoundsException") (by decide +kernel)) (gx_cast hX (by decide +kernel)) hce hcv hcl ?_
  refine lv_astore_n (lv' := [(3, .ref q9), (0, .ref (gad Γ 475)), (1, .int a), (2, .ref (gad Γ 491))]) hx hb dL_save_12 rfl hl (by decide) rfl (fun ls hl => ?_)
  refine lv_iconst (v := 1) hx hb dL_save_13 (by decide) ?_
  exact vx_ret (g_iret hx hb hrt hlocks hS hG rfl rfl dL_save_14)
set_option maxHeartbeats 4000000 in
set_option maxRecDepth 100000 in
theorem wL_restore {l : Launch} {Γ : gX} (hcs : 491 ∈ gcs Γ) (h475 : 475 ∈ gcs Γ) (hall : ∀ c ∈ gcs Γ, c < 492) {fr lo : Nat} (hfr : fr ≤ 8) (hlo : lo ≤ 140) {M M1 : Nat → Nat → Int32} {R R1 : Nat → Nat → Option Nat} {O : Int64} (a : Int32) {v : Int32} (hM : gMet l Γ yX6_restore wsX6_restore fr lo [.ref (gad Γ 475), .int a] M R O (some (.int v)) M1 R1 O) : gWrp l Γ yL_restore wsL_restore 9 180 [.ref (gad Γ 475), .int a, .ref (gad Γ 491)] M R O (some (.int 0)) M1 R1 v.toInt64 := by
  refine g_startW (cc := cL_restore) (maxL := 4) (ret := (some .int)) (hh := [(0, 9, 12, 28), (0, 9, 15, 15)]) (by decide) rfl (Nat.le_of_ble_eq_true rfl) ?_
  intro p e s m below meth c ls hx hb hml hrt hts hown hlocks hname hK hZ hG hS hl hX hY hnx
  have hl : lv_has ls 4 [(0, .ref (gad Γ 475)), (1, .int a), (2, .ref (gad Γ 491))] := hl
  have hown : s.vm.findClass RL = some m.cls := hown
  have hF : CallFix p m c cL_restore 4 s _ wsL_restore RL := ⟨hx, hb, hml, hown, hts⟩
  refine lv_aload_n hx hb dL_restore_0 rfl (lv_at hl 2 rfl) ?_
  refine lv_iconst (v := 0) hx hb dL_restore_1 (by decide) ?_
  refine lv_aload_n hx hb dL_restore_2 rfl (lv_at hl 0 rfl) ?_
  refine lv_iload_n hx hb dL_restore_3 rfl (lv_at hl 1 rfl) ?_
  refine g_callV (As := [.int a]) (rest := [.int 0, .ref (gad Γ 491)]) (st1 := [.int v, .int 0, .ref (gad Γ 491)]) hF hM (cwV 1 hts gL_restore_X6_restore rfl rfl rfl (by decide +kernel) ⟨(by show fr + 1 ≤ 9; omega), (by show 8 + (_ + 11) + lo ≤ 180; omega)⟩) hK hZ hG hS h475 (show gC 475 = (6, 32, 0) from rfl) (by decide) rfl rfl hl.1 (Nat.le_of_ble_eq_true rfl) dL_restore_4 ⟨Nat.zero_le _, Nat.zero_le _⟩ rfl rfl (fun H locs hG hS => ?_)
  refine lv_i2l hx hb dL_restore_7 rfl ?_
  refine g_last hx hb hK hG hS hcs hall dL_restore_8 (fun H locs hG hS => ?_)
  refine lv_goto (tgt := 18) hx hb dL_restore_9 (by decide) ?_
  refine lv_iconst (v := 0) hx hb dL_restore_18 (by decide) ?_
  refine W.widen (k := 1) (n := 6) (by decide) (by decide) ?_
  exact vx_ret (g_iret hx hb hrt hlocks hS hG rfl rfl dL_restore_19)
set_option maxHeartbeats 4000000 in
set_option maxRecDepth 100000 in
theorem wL_restore_t1 {l : Launch} {Γ : gX} (hcs : 491 ∈ gcs Γ) (h475 : 475 ∈ gcs Γ) {fr lo : Nat} (hfr : fr ≤ 8) (hlo : lo ≤ 140) {M M1 : Nat → Nat → Int32} {R R1 : Nat → Nat → Option Nat} {O : Int64} (a : Int32) (hM : gThr l Γ yX6_restore wsX6_restore fr lo [.ref (gad Γ 475), .int a] M R O "java/lang/IndexOutOfBoundsException" M1 R1 O) : gWrp l Γ yL_restore wsL_restore 9 180 [.ref (gad Γ 475), .int a, .ref (gad Γ 491)] M R O (some (.int 1)) M1 R1 O := by
  refine g_startW (cc := cL_restore) (maxL := 4) (ret := (some .int)) (hh := [(0, 9, 12, 28), (0, 9, 15, 15)]) (by decide) rfl (Nat.le_of_ble_eq_true rfl) ?_
  intro p e s m below meth c ls hx hb hml hrt hts hown hlocks hname hK hZ hG hS hl hX hY hnx
  have hl : lv_has ls 4 [(0, .ref (gad Γ 475)), (1, .int a), (2, .ref (gad Γ 491))] := hl
  have hown : s.vm.findClass RL = some m.cls := hown
  have hF : CallFix p m c cL_restore 4 s _ wsL_restore RL := ⟨hx, hb, hml, hown, hts⟩
  refine lv_aload_n hx hb dL_restore_0 rfl (lv_at hl 2 rfl) ?_
  refine lv_iconst (v := 0) hx hb dL_restore_1 (by decide) ?_
  refine lv_aload_n hx hb dL_restore_2 rfl (lv_at hl 0 rfl) ?_
  refine lv_iload_n hx hb dL_restore_3 rfl (lv_at hl 1 rfl) ?_
  refine g_xVc (As := [.int a]) (rest := [.int 0, .ref (gad Γ 491)]) hF hM (cwV 1 hts gL_restore_X6_restore rfl rfl rfl (by decide +kernel) ⟨(by show fr + 1 ≤ 9; omega), (by show 8 + (_ + 11) + lo ≤ 180; omega)⟩) hK hZ hX hG hS h475 (show gC 475 = (6, 32, 0) from rfl) (by decide) rfl rfl hl.1 (Nat.le_of_ble_eq_true rfl) dL_restore_4 ⟨Nat.le_of_ble_eq_true rfl, Nat.le_of_ble_eq_true rfl⟩ rfl (fun ce q9 H locs hG hS hce hcv hcl => ?_)
  refine vx_catch (name := "java/lang/IndexOutOfBoundsException") hown [] ⟨0, 9, 12, 28⟩ [⟨0, 9, 15, 15⟩] (by rw [hnx]; rfl) (fun _ h => absurd h List.not_mem_nil) (by decide) (by decide) (hts (Cond.classLink RL 28 "java/lang/IndexOutOfBoundsException") (by decide +kernel)) (gx_cast hX (by decide +kernel)) hce hcv hcl ?_
  refine lv_astore_n (lv' := [(3, .ref q9), (0, .ref (gad Γ 475)), (1, .int a), (2, .ref (gad Γ 491))]) hx hb dL_restore_12 rfl hl (by decide) rfl (fun ls hl => ?_)
  refine lv_iconst (v := 1) hx hb dL_restore_13 (by decide) ?_
  exact vx_ret (g_iret hx hb hrt hlocks hS hG rfl rfl dL_restore_14)
set_option maxHeartbeats 4000000 in
set_option maxRecDepth 100000 in
theorem wL_restore_t2 {l : Launch} {Γ : gX} (hcs : 491 ∈ gcs Γ) (h475 : 475 ∈ gcs Γ) {fr lo : Nat} (hfr : fr ≤ 8) (hlo : lo ≤ 140) {M M1 : Nat → Nat → Int32} {R R1 : Nat → Nat → Option Nat} {O : Int64} (a : Int32) (hM : gThr l Γ yX6_restore wsX6_restore fr lo [.ref (gad Γ 475), .int a] M R O "java/lang/IllegalStateException" M1 R1 O) : gWrp l Γ yL_restore wsL_restore 9 180 [.ref (gad Γ 475), .int a, .ref (gad Γ 491)] M R O (some (.int 2)) M1 R1 O := by
  refine g_startW (cc := cL_restore) (maxL := 4) (ret := (some .int)) (hh := [(0, 9, 12, 28), (0, 9, 15, 15)]) (by decide) rfl (Nat.le_of_ble_eq_true rfl) ?_
  intro p e s m below meth c ls hx hb hml hrt hts hown hlocks hname hK hZ hG hS hl hX hY hnx
  have hl : lv_has ls 4 [(0, .ref (gad Γ 475)), (1, .int a), (2, .ref (gad Γ 491))] := hl
  have hown : s.vm.findClass RL = some m.cls := hown
  have hF : CallFix p m c cL_restore 4 s _ wsL_restore RL := ⟨hx, hb, hml, hown, hts⟩
  refine lv_aload_n hx hb dL_restore_0 rfl (lv_at hl 2 rfl) ?_
  refine lv_iconst (v := 0) hx hb dL_restore_1 (by decide) ?_
  refine lv_aload_n hx hb dL_restore_2 rfl (lv_at hl 0 rfl) ?_
  refine lv_iload_n hx hb dL_restore_3 rfl (lv_at hl 1 rfl) ?_
  refine g_xVc (As := [.int a]) (rest := [.int 0, .ref (gad Γ 491)]) hF hM (cwV 1 hts gL_restore_X6_restore rfl rfl rfl (by decide +kernel) ⟨(by show fr + 1 ≤ 9; omega), (by show 8 + (_ + 11) + lo ≤ 180; omega)⟩) hK hZ hX hG hS h475 (show gC 475 = (6, 32, 0) from rfl) (by decide) rfl rfl hl.1 (Nat.le_of_ble_eq_true rfl) dL_restore_4 ⟨Nat.le_of_ble_eq_true rfl, Nat.le_of_ble_eq_true rfl⟩ rfl (fun ce q9 H locs hG hS hce hcv hcl => ?_)
  refine vx_catch (name := "java/lang/IllegalStateException") hown [⟨0, 9, 12, 28⟩] ⟨0, 9, 15, 15⟩ [] (by rw [hnx]; rfl) (List.forall_mem_cons.mpr ⟨Or.inr ⟨by decide, "java/lang/IndexOutOfBoundsException", hts (Cond.classLink RL 28 "java/lang/IndexOutOfBoundsException") (by decide +kernel), hY.2.1⟩, (fun _ h => absurd h List.not_mem_nil)⟩) (by decide) (by decide) (hts (Cond.classLink RL 15 "java/lang/IllegalStateException") (by decide +kernel)) (gx_cast hX (by decide +kernel)) hce hcv hcl ?_
  refine lv_astore_n (lv' := [(3, .ref q9), (0, .ref (gad Γ 475)), (1, .int a), (2, .ref (gad Γ 491))]) hx hb dL_restore_15 rfl hl (by decide) rfl (fun ls hl => ?_)
  refine lv_iconst (v := 2) hx hb dL_restore_16 (by decide) ?_
  exact vx_ret (g_iret hx hb hrt hlocks hS hG rfl rfl dL_restore_17)
