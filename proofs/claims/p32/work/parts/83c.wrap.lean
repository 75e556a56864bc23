/-! THE LAW: its wrappers. Laid by gen/q28.py. -/
set_option maxHeartbeats 4000000 in
set_option maxRecDepth 100000 in
theorem wL_tryDrive {l : Launch} {Γ : gX} (h475 : 475 ∈ gcs Γ) {fr lo : Nat} (hfr : fr ≤ 8) (hlo : lo ≤ 140) {M M1 : Nat → Nat → Int32} {R R1 : Nat → Nat → Option Nat} {O : Int64} (a : Int32) (d : Int32) {v : Int32} (hM : gMet l Γ yX6_drive wsX6_drive fr lo [.ref (gad Γ 475), .int a, .int d] M R O (some (.int v)) M1 R1 O) : gWrp l Γ yL_tryDrive wsL_tryDrive 9 180 [.ref (gad Γ 475), .int a, .int d] M R O (some (.int v)) M1 R1 O := by
  refine g_startW (cc := cL_tryDrive) (maxL := 4) (ret := (some .int)) (hh := [(0, 6, 7, 38), (0, 6, 11, 24)]) (by decide) rfl (Nat.le_of_ble_eq_true rfl) ?_
  intro p e s m below meth c ls hx hb hml hrt hts hown hlocks hname hK hZ hG hS hl hX hY hnx
  have hl : lv_has ls 4 [(0, .ref (gad Γ 475)), (1, .int a), (2, .int d)] := hl
  have hown : s.vm.findClass RL = some m.cls := hown
  have hF : CallFix p m c cL_tryDrive 4 s _ wsL_tryDrive RL := ⟨hx, hb, hml, hown, hts⟩
  refine lv_aload_n hx hb dL_tryDrive_0 rfl (lv_at hl 0 rfl) ?_
  refine lv_iload_n hx hb dL_tryDrive_1 rfl (lv_at hl 1 rfl) ?_
  refine lv_iload_n hx hb dL_tryDrive_2 rfl (lv_at hl 2 rfl) ?_
  refine g_callV (As := [.int a, .int d]) (rest := []) (st1 := [.int v]) hF hM (cwV 2 hts gL_tryDrive_X6_drive rfl rfl rfl (by decide +kernel) ⟨(by show fr + 1 ≤ 9; omega), (by show 8 + (_ + 11) + lo ≤ 180; omega)⟩) hK hZ hG hS h475 (show gC 475 = (6, 32, 0) from rfl) (by decide) rfl rfl hl.1 (Nat.le_of_ble_eq_true rfl) dL_tryDrive_3 ⟨Nat.zero_le _, Nat.zero_le _⟩ rfl rfl (fun H locs hG hS => ?_)
  refine W.widen (k := 1) (n := 6) (by decide) (by decide) ?_
  exact vx_ret (g_iret hx hb hrt hlocks hS hG rfl rfl dL_tryDrive_6)
set_option maxHeartbeats 4000000 in
set_option maxRecDepth 100000 in
theorem wL_tryDrive_t1 {l : Launch} {Γ : gX} (h475 : 475 ∈ gcs Γ) {fr lo : Nat} (hfr : fr ≤ 8) (hlo : lo ≤ 140) {M M1 : Nat → Nat → Int32} {R R1 : Nat → Nat → Option Nat} {O : Int64} (a : Int32) (d : Int32) (hM : gThr l Γ yX6_drive wsX6_drive fr lo [.ref (gad Γ 475), .int a, .int d] M R O "java/lang/IndexOutOfBoundsException" M1 R1 O) : gWrp l Γ yL_tryDrive wsL_tryDrive 9 180 [.ref (gad Γ 475), .int a, .int d] M R O (some (.int (-9999001))) M1 R1 O := by
  refine g_startW (cc := cL_tryDrive) (maxL := 4) (ret := (some .int)) (hh := [(0, 6, 7, 38), (0, 6, 11, 24)]) (by decide) rfl (Nat.le_of_ble_eq_true rfl) ?_
  intro p e s m below meth c ls hx hb hml hrt hts hown hlocks hname hK hZ hG hS hl hX hY hnx
  have hl : lv_has ls 4 [(0, .ref (gad Γ 475)), (1, .int a), (2, .int d)] := hl
  have hown : s.vm.findClass RL = some m.cls := hown
  have hF : CallFix p m c cL_tryDrive 4 s _ wsL_tryDrive RL := ⟨hx, hb, hml, hown, hts⟩
  refine lv_aload_n hx hb dL_tryDrive_0 rfl (lv_at hl 0 rfl) ?_
  refine lv_iload_n hx hb dL_tryDrive_1 rfl (lv_at hl 1 rfl) ?_
  refine lv_iload_n hx hb dL_tryDrive_2 rfl (lv_at hl 2 rfl) ?_
  refine g_xVc (As := [.int a, .int d]) (rest := []) hF hM (cwV 2 hts gL_tryDrive_X6_drive rfl rfl rfl (by decide +kernel) ⟨(by show fr + 1 ≤ 9; omega), (by show 8 + (_ + 11) + lo ≤ 180; omega)⟩) hK hZ hX hG hS h475 (show gC 475 = (6, 32, 0) from rfl) (by decide) rfl rfl hl.1 (Nat.le_of_ble_eq_true rfl) dL_tryDrive_3 ⟨Nat.le_of_ble_eq_true rfl, Nat.le_of_ble_eq_true rfl⟩ rfl (fun ce q9 H locs hG hS hce hcv hcl => ?_)
  refine vx_catch (name := "java/lang/IndexOutOfBoundsException") hown [] ⟨0, 6, 7, 38⟩ [⟨0, 6, 11, 24⟩] (by rw [hnx]; rfl) (fun _ h => absurd h List.not_mem_nil) (by decide) (by decide) (hts (Cond.classLink RL 38 "java/lang/IndexOutOfBoundsException") (by decide +kernel)) (gx_cast hX (by decide +kernel)) hce hcv hcl ?_
  refine lv_astore_n (lv' := [(3, .ref q9), (0, .ref (gad Γ 475)), (1, .int a), (2, .int d)]) hx hb dL_tryDrive_7 rfl hl (by decide) rfl (fun ls hl => ?_)
  refine lv_ldc hx hb hown (hts (Cond.constant RL 40 (-9999001)) (by decide +kernel)) dL_tryDrive_8 ?_
  exact vx_ret (g_iret hx hb hrt hlocks hS hG rfl rfl dL_tryDrive_10)
set_option maxHeartbeats 4000000 in
set_option maxRecDepth 100000 in
theorem wL_tryDrive_t2 {l : Launch} {Γ : gX} (h475 : 475 ∈ gcs Γ) {fr lo : Nat} (hfr : fr ≤ 8) (hlo : lo ≤ 140) {M M1 : Nat → Nat → Int32} {R R1 : Nat → Nat → Option Nat} {O : Int64} (a : Int32) (d : Int32) (hM : gThr l Γ yX6_drive wsX6_drive fr lo [.ref (gad Γ 475), .int a, .int d] M R O "java/lang/IllegalStateException" M1 R1 O) : gWrp l Γ yL_tryDrive wsL_tryDrive 9 180 [.ref (gad Γ 475), .int a, .int d] M R O (some (.int (-9999003))) M1 R1 O := by
  refine g_startW (cc := cL_tryDrive) (maxL := 4) (ret := (some .int)) (hh := [(0, 6, 7, 38), (0, 6, 11, 24)]) (by decide) rfl (Nat.le_of_ble_eq_true rfl) ?_
  intro p e s m below meth c ls hx hb hml hrt hts hown hlocks hname hK hZ hG hS hl hX hY hnx
  have hl : lv_has ls 4 [(0, .ref (gad Γ 475)), (1, .int a), (2, .int d)] := hl
  have hown : s.vm.findClass RL = some m.cls := hown
  have hF : CallFix p m c cL_tryDrive 4 s _ wsL_tryDrive RL := ⟨hx, hb, hml, hown, hts⟩
  refine lv_aload_n hx hb dL_tryDrive_0 rfl (lv_at hl 0 rfl) ?_
  refine lv_iload_n hx hb dL_tryDrive_1 rfl (lv_at hl 1 rfl) ?_
  refine lv_iload_n hx hb dL_tryDrive_2 rfl (lv_at hl 2 rfl) ?_
  refine g_xVc (As := [.int a, .int d]) (rest := []) hF hM (cwV 2 hts gL_tryDrive_X6_drive rfl rfl rfl (by decide +kernel) ⟨(by show fr + 1 ≤ 9; omega), (by show 8 + (_ + 11) + lo ≤ 180; omega)⟩) hK hZ hX hG hS h475 (show gC 475 = (6, 32, 0) from rfl) (by decide) rfl rfl hl.1 (Nat.le_of_ble_eq_true rfl) dL_tryDrive_3 ⟨Nat.le_of_ble_eq_true rfl, Nat.le_of_ble_eq_true rfl⟩ rfl (fun ce q9 H locs hG hS hce hcv hcl => ?_)
  refine vx_catch (name := "java/lang/IllegalStateException") hown [⟨0, 6, 7, 38⟩] ⟨0, 6, 11, 24⟩ [] (by rw [hnx]; rfl) (List.forall_mem_cons.mpr ⟨Or.inr ⟨by decide, "java/lang/IndexOutOfBoundsException", hts (Cond.classLink RL 38 "java/lang/IndexOutOfBoundsException") (by decide +kernel), hY.2.1⟩, (fun _ h => absurd h List.not_mem_nil)⟩) (by decide) (by decide) (hts (Cond.classLink RL 24 "java/lang/IllegalStateException") (by decide +kernel)) (gx_cast hX (by decide +kernel)) hce hcv hcl ?_
  refine lv_astore_n (lv' := [(3, .ref q9), (0, .ref (gad Γ 475)), (1, .int a), (2, .int d)]) hx hb dL_tryDrive_11 rfl hl (by decide) rfl (fun ls hl => ?_)
  refine lv_ldc hx hb hown (hts (Cond.constant RL 26 (-9999003)) (by decide +kernel)) dL_tryDrive_12 ?_
  exact vx_ret (g_iret hx hb hrt hlocks hS hG rfl rfl dL_tryDrive_14)
set_option maxHeartbeats 4000000 in
set_option maxRecDepth 100000 in
theorem wL_trySpray {l : Launch} {Γ : gX} (h475 : 475 ∈ gcs Γ) {fr lo : Nat} (hfr : fr ≤ 8) (hlo : lo ≤ 140) {M M1 : Nat → Nat → Int32} {R R1 : Nat → Nat → Option Nat} {O : Int64} (a : Int32) (d : Int32) {v : Int32} (hM : gMet l Γ yX6_spray wsX6_spray fr lo [.ref (gad Γ 475), .int a, .int d] M R O (some (.int v)) M1 R1 O) : gWrp l Γ yL_trySpray wsL_trySpray 9 180 [.ref (gad Γ 475), .int a, .int d] M R O (some (.int v)) M1 R1 O := by
  refine g_startW (cc := cL_trySpray) (maxL := 4) (ret := (some .int)) (hh := [(0, 6, 7, 38), (0, 6, 11, 13), (0, 6, 15, 24)]) (by decide) rfl (Nat.le_of_ble_eq_true rfl) ?_
  intro p e s m below meth c ls hx hb hml hrt hts hown hlocks hname hK hZ hG hS hl hX hY hnx
  have hl : lv_has ls 4 [(0, .ref (gad Γ 475)), (1, .int a), (2, .int d)] := hl
  have hown : s.vm.findClass RL = some m.cls := hown
  have hF : CallFix p m c cL_trySpray 4 s _ wsL_trySpray RL := ⟨hx, hb, hml, hown, hts⟩
  refine lv_aload_n hx hb dL_trySpray_0 rfl (lv_at hl 0 rfl) ?_
  refine lv_iload_n hx hb dL_trySpray_1 rfl (lv_at hl 1 rfl) ?_
  refine lv_iload_n hx hb dL_trySpray_2 rfl (lv_at hl 2 rfl) ?_
  refine g_callV (As := [.int a, .int d]) (rest := []) (st1 := [.int v]) hF hM (cwV 2 hts gL_trySpray_X6_spray rfl rfl rfl (by decide +kernel) ⟨(by show fr + 1 ≤ 9; omega), (by show 8 + (_ + 11) + lo ≤ 180; omega)⟩) hK hZ hG hS h475 (show gC 475 = (6, 32, 0) from rfl) (by decide) rfl rfl hl.1 (Nat.le_of_ble_eq_true rfl) dL_trySpray_3 ⟨Nat.zero_le _, Nat.zero_le _⟩ rfl rfl (fun H locs hG hS => ?_)
  refine W.widen (k := 1) (n := 6) (by decide) (by decide) ?_
  exact vx_ret (g_iret hx hb hrt hlocks hS hG rfl rfl dL_trySpray_6)
set_option maxHeartbeats 4000000 in
set_option maxRecDepth 100000 in
theorem wL_trySpray_t1 {l : Launch} {Γ : gX} (h475 : 475 ∈ gcs Γ) {fr lo : Nat} (hfr : fr ≤ 8) (hlo : lo ≤ 140) {M M1 : Nat → Nat → Int32} {R R1 : Nat → Nat → Option Nat} {O : Int64} (a : Int32) (d : Int32) (hM : gThr l Γ yX6_spray wsX6_spray fr lo [.ref (gad Γ 475), .int a, .int d] M R O "java/lang/IndexOutOfBoundsException" M1 R1 O) : gWrp l Γ yL_trySpray wsL_trySpray 9 180 [.ref (gad Γ 475), .int a, .int d] M R O (some (.int (-9999001))) M1 R1 O := by
  refine g_startW (cc := cL_trySpray) (maxL := 4) (ret := (some .int)) (hh := [(0, 6, 7, 38), (0, 6, 11, 13), (0, 6, 15, 24)]) (by decide) rfl (Nat.le_of_ble_eq_true rfl) ?_
  intro p e s m below meth c ls hx hb hml hrt hts hown hlocks hname hK hZ hG hS hl hX hY hnx
  have hl : lv_has ls 4 [(0, .ref (gad Γ 475)), (1, .int a), (2, .int d)] := hl
  have hown : s.vm.findClass RL = some m.cls := hown
  have hF : CallFix p m c cL_trySpray 4 s _ wsL_trySpray RL := ⟨hx, hb, hml, hown, hts⟩
  refine lv_aload_n hx hb dL_trySpray_0 rfl (lv_at hl 0 rfl) ?_
  refine lv_iload_n hx hb dL_trySpray_1 rfl (lv_at hl 1 rfl) ?_
  refine lv_iload_n hx hb dL_trySpray_2 rfl (lv_at hl 2 rfl) ?_
  refine g_xVc (As := [.int a, .int d]) (rest := []) hF hM (cwV 2 hts gL_trySpray_X6_spray rfl rfl rfl (by decide +kernel) ⟨(by show fr + 1 ≤ 9; omega), (by show 8 + (_ + 11) + lo ≤ 180; omega)⟩) hK hZ hX hG hS h475 (show gC 475 = (6, 32, 0) from rfl) (by decide) rfl rfl hl.1 (Nat.le_of_ble_eq_true rfl) dL_trySpray_3 ⟨Nat.le_of_ble_eq_true rfl, Nat.le_of_ble_eq_true rfl⟩ rfl (fun ce q9 H locs hG hS hce hcv hcl => ?_)
  refine vx_catch (name := "java/lang/IndexOutOfBoundsException") hown [] ⟨0, 6, 7, 38⟩ [⟨0, 6, 11, 13⟩, ⟨0, 6, 15, 24⟩] (by rw [hnx]; rfl) (fun _ h => absurd h List.not_mem_nil) (by decide) (by decide) (hts (Cond.classLink RL 38 "java/lang/IndexOutOfBoundsException") (by decide +kernel)) (gx_cast hX (by decide +kernel)) hce hcv hcl ?_
  refine lv_astore_n (lv' := [(3, .ref q9), (0, .ref (gad Γ 475)), (1, .int a), (2, .int d)]) hx hb dL_trySpray_7 rfl hl (by decide) rfl (fun ls hl => ?_)
  refine lv_ldc hx hb hown (hts (Cond.constant RL 40 (-9999001)) (by decide +kernel)) dL_trySpray_8 ?_
  exact vx_ret (g_iret hx hb hrt hlocks hS hG rfl rfl dL_trySpray_10)
set_option maxHeartbeats 4000000 in
set_option maxRecDepth 100000 in
theorem wL_trySpray_t2 {l : Launch} {Γ : gX} (h475 : 475 ∈ gcs Γ) {fr lo : Nat} (hfr : fr ≤ 8) (hlo : lo ≤ 140) {M M1 : Nat → Nat → Int32} {R R1 : Nat → Nat → Option Nat} {O : Int64} (a : Int32) (d : Int32) (hM : gThr l Γ yX6_spray wsX6_spray fr lo [.ref (gad Γ 475), .int a, .int d] M R O "java/lang/IllegalArgumentException" M1 R1 O) : gWrp l Γ yL_trySpray wsL_trySpray 9 180 [.ref (gad Γ 475), .int a, .int d] M R O (some (.int (-9999002))) M1 R1 O := by
  refine g_startW (cc := cL_trySpray) (maxL := 4) (ret := (some .int)) (hh := [(0, 6, 7, 38), (0, 6, 11, 13), (0, 6, 15, 24)]) (by decide) rfl (Nat.le_of_ble_eq_true rfl) ?_
  intro p e s m below meth c ls hx hb hml hrt hts hown hlocks hname hK hZ hG hS hl hX hY hnx
  have hl : lv_has ls 4 [(0, .ref (gad Γ 475)), (1, .int a), (2, .int d)] := hl
  have hown : s.vm.findClass RL = some m.cls := hown
  have hF : CallFix p m c cL_trySpray 4 s _ wsL_trySpray RL := ⟨hx, hb, hml, hown, hts⟩
  refine lv_aload_n hx hb dL_trySpray_0 rfl (lv_at hl 0 rfl) ?_
  refine lv_iload_n hx hb dL_trySpray_1 rfl (lv_at hl 1 rfl) ?_
  refine lv_iload_n hx hb dL_trySpray_2 rfl (lv_at hl 2 rfl) ?_
  refine g_xVc (As := [.int a, .int d]) (rest := []) hF hM (cwV 2 hts gL_trySpray_X6_spray rfl rfl rfl (by decide +kernel) ⟨(by show fr + 1 ≤ 9; omega), (by show 8 + (_ + 11) + lo ≤ 180; omega)⟩) hK hZ hX hG hS h475 (show gC 475 = (6, 32, 0) from rfl) (by decide) rfl rfl hl.1 (Nat.le_of_ble_eq_true rfl) dL_trySpray_3 ⟨Nat.le_of_ble_eq_true rfl, Nat.le_of_ble_eq_true rfl⟩ rfl (fun ce q9 H locs hG hS hce hcv hcl => ?_)
  refine vx_catch (name := "java/lang/IllegalArgumentException") hown [⟨0, 6, 7, 38⟩] ⟨0, 6, 11, 13⟩ [⟨0, 6, 15, 24⟩] (by rw [hnx]; rfl) (List.forall_mem_cons.mpr ⟨Or.inr ⟨by decide, "java/lang/IndexOutOfBoundsException", hts (Cond.classLink RL 38 "java/lang/IndexOutOfBoundsException") (by decide +kernel), hY.1⟩, (fun _ h => absurd h List.not_mem_nil)⟩) (by decide) (by decide) (hts (Cond.classLink RL 13 "java/lang/IllegalArgumentException") (by decide +kernel)) (gx_cast hX (by decide +kernel)) hce hcv hcl ?_
  refine lv_astore_n (lv' := [(3, .ref q9), (0, .ref (gad Γ 475)), (1, .int a), (2, .int d)]) hx hb dL_trySpray_11 rfl hl (by decide) rfl (fun ls hl => ?_)
  refine lv_ldc hx hb hown (hts (Cond.constant RL 15 (-9999002)) (by decide +kernel)) dL_trySpray_12 ?_
  exact vx_ret (g_iret hx hb hrt hlocks hS hG rfl rfl dL_trySpray_14)
set_option maxHeartbeats 4000000 in
set_option maxRecDepth 100000 in
theorem wL_trySpray_t3 {l : Launch} {Γ : gX} (h475 : 475 ∈ gcs Γ) {fr lo : Nat} (hfr : fr ≤ 8) (hlo : lo ≤ 140) {M M1 : Nat → Nat → Int32} {R R1 : Nat → Nat → Option Nat} {O : Int64} (a : Int32) (d : Int32) (hM : gThr l Γ yX6_spray wsX6_spray fr lo [.ref (gad Γ 475), .int a, .int d] M R O "java/lang/IllegalStateException" M1 R1 O) : gWrp l Γ yL_trySpray wsL_trySpray 9 180 [.ref (gad Γ 475), .int a, .int d] M R O (some (.int (-9999003))) M1 R1 O := by
  refine g_startW (cc := cL_trySpray) (maxL := 4) (ret := (some .int)) (hh := [(0, 6, 7, 38), (0, 6, 11, 13), (0, 6, 15, 24)]) (by decide) rfl (Nat.le_of_ble_eq_true rfl) ?_
  intro p e s m below meth c ls hx hb hml hrt hts hown hlocks hname hK hZ hG hS hl hX hY hnx
  have hl : lv_has ls 4 [(0, .ref (gad Γ 475)), (1, .int a), (2, .int d)] := hl
  have hown : s.vm.findClass RL = some m.cls := hown
  have hF : CallFix p m c cL_trySpray 4 s _ wsL_trySpray RL := ⟨hx, hb, hml, hown, hts⟩
  refine lv_aload_n hx hb dL_trySpray_0 rfl (lv_at hl 0 rfl) ?_
  refine lv_iload_n hx hb dL_trySpray_1 rfl (lv_at hl 1 rfl) ?_
  refine lv_iload_n hx hb dL_trySpray_2 rfl (lv_at hl 2 rfl) ?_
  refine g_xVc (As := [.int a, .int d]) (rest := []) hF hM (cwV 2 hts gL_trySpray_X6_spray rfl rfl rfl (by decide +kernel) ⟨(by show fr + 1 ≤ 9; omega), (by show 8 + (_ + 11) + lo ≤ 180; omega)⟩) hK hZ hX hG hS h475 (show gC 475 = (6, 32, 0) from rfl) (by decide) rfl rfl hl.1 (Nat.le_of_ble_eq_true rfl) dL_trySpray_3 ⟨Nat.le_of_ble_eq_true rfl, Nat.le_of_ble_eq_true rfl⟩ rfl (fun ce q9 H locs hG hS hce hcv hcl => ?_)
  refine vx_catch (name := "java/lang/IllegalStateException") hown [⟨0, 6, 7, 38⟩, ⟨0, 6, 11, 13⟩] ⟨0, 6, 15, 24⟩ [] (by rw [hnx]; rfl) (List.forall_mem_cons.mpr ⟨Or.inr ⟨by decide, "java/lang/IndexOutOfBoundsException", hts (Cond.classLink RL 38 "java/lang/IndexOutOfBoundsException") (by decide +kernel), hY.2.1⟩, (List.forall_mem_cons.mpr ⟨Or.inr ⟨by decide, "java/lang/IllegalArgumentException", hts (Cond.classLink RL 13 "java/lang/IllegalArgumentException") (by decide +kernel), hY.2.2⟩, (fun _ h => absurd h List.not_mem_nil)⟩)⟩) (by decide) (by decide) (hts (Cond.classLink RL 24 "java/lang/IllegalStateException") (by decide +kernel)) (gx_cast hX (by decide +kernel)) hce hcv hcl ?_
  refine lv_astore_n (lv' := [(3, .ref q9), (0, .ref (gad Γ 475)), (1, .int a), (2, .int d)]) hx hb dL_trySpray_15 rfl hl (by decide) rfl (fun ls hl => ?_)
  refine lv_ldc hx hb hown (hts (Cond.constant RL 26 (-9999003)) (by decide +kernel)) dL_trySpray_16 ?_
  exact vx_ret (g_iret hx hb hrt hlocks hS hG rfl rfl dL_trySpray_18)
set_option maxHeartbeats 4000000 in
set_option maxRecDepth 100000 in
theorem wL_tryFill {l : Launch} {Γ : gX} (h475 : 475 ∈ gcs Γ) {fr lo : Nat} (hfr : fr ≤ 8) (hlo : lo ≤ 140) {M M1 : Nat → Nat → Int32} {R R1 : Nat → Nat → Option Nat} {O : Int64} (a : Int32) {v : Int32} (hM : gMet l Γ yX6_fill wsX6_fill fr lo [.ref (gad Γ 475), .int a] M R O (some (.int v)) M1 R1 O) : gWrp l Γ yL_tryFill wsL_tryFill 9 180 [.ref (gad Γ 475), .int a] M R O (some (.int v)) M1 R1 O := by
  refine g_startW (cc := cL_tryFill) (maxL := 3) (ret := (some .int)) (hh := [(0, 5, 6, 38), (0, 5, 10, 24)]) (by decide) rfl (Nat.le_of_ble_eq_true rfl) ?_
  intro p e s m below meth c ls hx hb hml hrt hts hown hlocks hname hK hZ hG hS hl hX hY hnx
  have hl : lv_has ls 3 [(0, .ref (gad Γ 475)), (1, .int a)] := hl
  have hown : s.vm.findClass RL = some m.cls := hown
  have hF : CallFix p m c cL_tryFill 3 s _ wsL_tryFill RL := ⟨hx, hb, hml, hown, hts⟩
  refine lv_aload_n hx hb dL_tryFill_0 rfl (lv_at hl 0 rfl) ?_
  refine lv_iload_n hx hb dL_tryFill_1 rfl (lv_at hl 1 rfl) ?_
  refine g_callV (As := [.int a]) (rest := []) (st1 := [.int v]) hF hM (cwV 1 hts gL_tryFill_X6_fill rfl rfl rfl (by decide +kernel) ⟨(by show fr + 1 ≤ 9; omega), (by show 8 + (_ + 11) + lo ≤ 180; omega)⟩) hK hZ hG hS h475 (show gC 475 = (6, 32, 0) from rfl) (by decide) rfl rfl hl.1 (Nat.le_of_ble_eq_true rfl) dL_tryFill_2 ⟨Nat.zero_le _, Nat.zero_le _⟩ rfl rfl (fun H locs hG hS => ?_)
  refine W.widen (k := 1) (n := 6) (by decide) (by decide) ?_
  exact vx_ret (g_iret hx hb hrt hlocks hS hG rfl rfl dL_tryFill_5)
set_option maxHeartbeats 4000000 in
set_option maxRecDepth 100000 in
theorem wL_tryFill_t1 {l : Launch} {Γ : gX} (h475 : 475 ∈ gcs Γ) {fr lo : Nat} (hfr : fr ≤ 8) (hlo : lo ≤ 140) {M M1 : Nat → Nat → Int32} {R R1 : Nat → Nat → Option Nat} {O : Int64} (a : Int32) (hM : gThr l Γ yX6_fill wsX6_fill fr lo [.ref (gad Γ 475), .int a] M R O "java/lang/IndexOutOfBoundsException" M1 R1 O) : gWrp l Γ yL_tryFill wsL_tryFill 9 180 [.ref (gad Γ 475), .int a] M R O (some (.int (-9999001))) M1 R1 O := by
  refine g_startW (cc := cL_tryFill) (maxL := 3) (ret := (some .int)) (hh := [(0, 5, 6, 38), (0, 5, 10, 24)]) (by decide) rfl (Nat.le_of_ble_eq_true rfl) ?_
  intro p e s m below meth c ls hx hb hml hrt hts hown hlocks hname hK hZ hG hS hl hX hY hnx
  have hl : lv_has ls 3 [(0, .ref (gad Γ 475)), (1, .int a)] := hl
  have hown : s.vm.findClass RL = some m.cls := hown
  have hF : CallFix p m c cL_tryFill 3 s _ wsL_tryFill RL := ⟨hx, hb, hml, hown, hts⟩
  refine lv_aload_n hx hb dL_tryFill_0 rfl (lv_at hl 0 rfl) ?_
  refine lv_iload_n hx hb dL_tryFill_1 rfl (lv_at hl 1 rfl) ?_
  refine g_xVc (As := [.int a]) (rest := []) hF hM (cwV 1 hts gL_tryFill_X6_fill rfl rfl rfl (by decide +kernel) ⟨(by show fr + 1 ≤ 9; omega), (by show 8 + (_ + 11) + lo ≤ 180; omega)⟩) hK hZ hX hG hS h475 (show gC 475 = (6, 32, 0) from rfl) (by decide) rfl rfl hl.1 (Nat.le_of_ble_eq_true rfl) dL_tryFill_2 ⟨Nat.le_of_ble_eq_true rfl, Nat.le_of_ble_eq_true rfl⟩ rfl (fun ce q9 H locs hG hS hce hcv hcl => ?_)
  refine vx_catch (name := "java/lang/IndexOutOfBoundsException") hown [] ⟨0, 5, 6, 38⟩ [⟨0, 5, 10, 24⟩] (by rw [hnx]; rfl) (fun _ h => absurd h List.not_mem_nil) (by decide) (by decide) (hts (Cond.classLink RL 38 "java/lang/IndexOutOfBoundsException") (by decide +kernel)) (gx_cast hX (by decide +kernel)) hce hcv hcl ?_
  refine lv_astore_n (lv' := [(2, .ref q9), (0, .ref (gad Γ 475)), (1, .int a)]) hx hb dL_tryFill_6 rfl hl (by decide) rfl (fun ls hl => ?_)
  refine lv_ldc hx hb hown (hts (Cond.constant RL 40 (-9999001)) (by decide +kernel)) dL_tryFill_7 ?_
  exact vx_ret (g_iret hx hb hrt hlocks hS hG rfl rfl dL_tryFill_9)
set_option maxHeartbeats 4000000 in
set_option maxRecDepth 100000 in
theorem wL_tryFill_t2 {l : Launch} {Γ : gX} (h475 : 475 ∈ gcs Γ) {fr lo : Nat} (hfr : fr ≤ 8) (hlo : lo ≤ 140) {M M1 : Nat → Nat → Int32} {R R1 : Nat → Nat → Option Nat} {O : Int64} (a : Int32) (hM : gThr l Γ yX6_fill wsX6_fill fr lo [.ref (gad Γ 475), .int a] M R O "java/lang/IllegalStateException" M1 R1 O) : gWrp l Γ yL_tryFill wsL_tryFill 9 180 [.ref (gad Γ 475), .int a] M R O (some (.int (-9999003))) M1 R1 O := by
  refine g_startW (cc := cL_tryFill) (maxL := 3) (ret := (some .int)) (hh := [(0, 5, 6, 38), (0, 5, 10, 24)]) (by decide) rfl (Nat.le_of_ble_eq_true rfl) ?_
  intro p e s m below meth c ls hx hb hml hrt hts hown hlocks hname hK hZ hG hS hl hX hY hnx
  have hl : lv_has ls 3 [(0, .ref (gad Γ 475)), (1, .int a)] := hl
  have hown : s.vm.findClass RL = some m.cls := hown
  have hF : CallFix p m c cL_tryFill 3 s _ wsL_tryFill RL := ⟨hx, hb, hml, hown, hts⟩
  refine lv_aload_n hx hb dL_tryFill_0 rfl (lv_at hl 0 rfl) ?_
  refine lv_iload_n hx hb dL_tryFill_1 rfl (lv_at hl 1 rfl) ?_
  refine g_xVc (As := [.int a]) (rest := []) hF hM (cwV 1 hts gL_tryFill_X6_fill rfl rfl rfl (by decide +kernel) ⟨(by show fr + 1 ≤ 9; omega), (by show 8 + (_ + 11) + lo ≤ 180; omega)⟩) hK hZ hX hG hS h475 (show gC 475 = (6, 32, 0) from rfl) (by decide) rfl rfl hl.1 (Nat.le_of_ble_eq_true rfl) dL_tryFill_2 ⟨Nat.le_of_ble_eq_true rfl, Nat.le_of_ble_eq_true rfl⟩ rfl (fun ce q9 H locs hG hS hce hcv hcl => ?_)
  refine vx_catch (name := "java/lang/IllegalStateException") hown [⟨0, 5, 6, 38⟩] ⟨0, 5, 10, 24⟩ [] (by rw [hnx]; rfl) (List.forall_mem_cons.mpr ⟨Or.inr ⟨by decide, "java/lang/IndexOutOfBoundsException", hts (Cond.classLink RL 38 "java/lang/IndexOutOfBoundsException") (by decide +kernel), hY.2.1⟩, (fun _ h => absurd h List.not_mem_nil)⟩) (by decide) (by decide) (hts (Cond.classLink RL 24 "java/lang/IllegalStateException") (by decide +kernel)) (gx_cast hX (by decide +kernel)) hce hcv hcl ?_
  refine lv_astore_n (lv' := [(2, .ref q9), (0, .ref (gad Γ 475)), (1, .int a)]) hx hb dL_tryFill_10 rfl hl (by decide) rfl (fun ls hl => ?_)
  refine lv_ldc hx hb hown (hts (Cond.constant RL 26 (-9999003)) (by decide +kernel)) dL_tryFill_11 ?_
  exact vx_ret (g_iret hx hb hrt hlocks hS hG rfl rfl dL_tryFill_13)
set_option maxHeartbeats 4000000 in
set_option maxRecDepth 100000 in
theorem wL_tryPass {l : Launch} {Γ : gX} (h475 : 475 ∈ gcs Γ) {fr lo : Nat} (hfr : fr ≤ 8) (hlo : lo ≤ 140) {M M1 : Nat → Nat → Int32} {R R1 : Nat → Nat → Option Nat} {O : Int64} (a : Int32) {v : Int32} (hM : gMet l Γ yX6_pass wsX6_pass fr lo [.ref (gad Γ 475), .int a] M R O (some (.int v)) M1 R1 O) : gWrp l Γ yL_tryPass wsL_tryPass 9 180 [.ref (gad Γ 475), .int a] M R O (some (.int v)) M1 R1 O := by
  refine g_startW (cc := cL_tryPass) (maxL := 3) (ret := (some .int)) (hh := [(0, 5, 6, 13)]) (by decide) rfl (Nat.le_of_ble_eq_true rfl) ?_
  intro p e s m below meth c ls hx hb hml hrt hts hown hlocks hname hK hZ hG hS hl hX hY hnx
  have hl : lv_has ls 3 [(0, .ref (gad Γ 475)), (1, .int a)] := hl
  have hown : s.vm.findClass RL = some m.cls := hown
  have hF : CallFix p m c cL_tryPass 3 s _ wsL_tryPass RL := ⟨hx, hb, hml, hown, hts⟩
  refine lv_aload_n hx hb dL_tryPass_0 rfl (lv_at hl 0 rfl) ?_
  refine lv_iload_n hx hb dL_tryPass_1 rfl (lv_at hl 1 rfl) ?_
  refine g_callV (As := [.int a]) (rest := []) (st1 := [.int v]) hF hM (cwV 1 hts gL_tryPass_X6_pass rfl rfl rfl (by decide +kernel) ⟨(by show fr + 1 ≤ 9; omega), (by show 8 + (_ + 11) + lo ≤ 180; omega)⟩) hK hZ hG hS h475 (show gC 475 = (6, 32, 0) from rfl) (by decide) rfl rfl hl.1 (Nat.le_of_ble_eq_true rfl) dL_tryPass_2 ⟨Nat.zero_le _, Nat.zero_le _⟩ rfl rfl (fun H locs hG hS => ?_)
  refine W.widen (k := 1) (n := 6) (by decide) (by decide) ?_
  exact vx_ret (g_iret hx hb hrt hlocks hS hG rfl rfl dL_tryPass_5)
set_option maxHeartbeats 4000000 in
set_option maxRecDepth 100000 in
theorem wL_tryPass_t1 {l : Launch} {Γ : gX} (h475 : 475 ∈ gcs Γ) {fr lo : Nat} (hfr : fr ≤ 8) (hlo : lo ≤ 140) {M M1 : Nat → Nat → Int32} {R R1 : Nat → Nat → Option Nat} {O : Int64} (a : Int32) (hM : gThr l Γ yX6_pass wsX6_pass fr lo [.ref (gad Γ 475), .int a] M R O "java/lang/IllegalArgumentException" M1 R1 O) : gWrp l Γ yL_tryPass wsL_tryPass 9 180 [.ref (gad Γ 475), .int a] M R O (some (.int (-9999002))) M1 R1 O := by
  refine g_startW (cc := cL_tryPass) (maxL := 3) (ret := (some .int)) (hh := [(0, 5, 6, 13)]) (by decide) rfl (Nat.le_of_ble_eq_true rfl) ?_
  intro p e s m below meth c ls hx hb hml hrt hts hown hlocks hname hK hZ hG hS hl hX hY hnx
  have hl : lv_has ls 3 [(0, .ref (gad Γ 475)), (1, .int a)] := hl
  have hown : s.vm.findClass RL = some m.cls := hown
  have hF : CallFix p m c cL_tryPass 3 s _ wsL_tryPass RL := ⟨hx, hb, hml, hown, hts⟩
  refine lv_aload_n hx hb dL_tryPass_0 rfl (lv_at hl 0 rfl) ?_
  refine lv_iload_n hx hb dL_tryPass_1 rfl (lv_at hl 1 rfl) ?_
  refine g_xVc (As := [.int a]) (rest := []) hF hM (cwV 1 hts gL_tryPass_X6_pass rfl rfl rfl (by decide +kernel) ⟨(by show fr + 1 ≤ 9; omega), (by show 8 + (_ + 11) + lo ≤ 180; omega)⟩) hK hZ hX hG hS h475 (show gC 475 = (6, 32, 0) from rfl) (by decide) rfl rfl hl.1 (Nat.le_of_ble_eq_true rfl) dL_tryPass_2 ⟨Nat.le_of_ble_eq_true rfl, Nat.le_of_ble_eq_true rfl⟩ rfl (fun ce q9 H locs hG hS hce hcv hcl => ?_)
  refine vx_catch (name := "java/lang/IllegalArgumentException") hown [] ⟨0, 5, 6, 13⟩ [] (by rw [hnx]; rfl) (fun _ h => absurd h List.not_mem_nil) (by decide) (by decide) (hts (Cond.classLink RL 13 "java/lang/IllegalArgumentException") (by decide +kernel)) (gx_cast hX (by decide +kernel)) hce hcv hcl ?_
  refine lv_astore_n (lv' := [(2, .ref q9), (0, .ref (gad Γ 475)), (1, .int a)]) hx hb dL_tryPass_6 rfl hl (by decide) rfl (fun ls hl => ?_)
  refine lv_ldc hx hb hown (hts (Cond.constant RL 15 (-9999002)) (by decide +kernel)) dL_tryPass_7 ?_
  exact vx_ret (g_iret hx hb hrt hlocks hS hG rfl rfl dL_tryPass_9)
set_option maxHeartbeats 4000000 in
set_option maxRecDepth 100000 in
theorem wL_tryUndo {l : Launch} {Γ : gX} (h475 : 475 ∈ gcs Γ) {fr lo : Nat} (hfr : fr ≤ 8) (hlo : lo ≤ 140) {M M1 : Nat → Nat → Int32} {R R1 : Nat → Nat → Option Nat} {O : Int64}  {v : Int32} (hM : gMet l Γ yX6_undo wsX6_undo fr lo [.ref (gad Γ 475)] M R O (some (.int v)) M1 R1 O) : gWrp l Γ yL_tryUndo wsL_tryUndo 9 180 [.ref (gad Γ 475)] M R O (some (.int v)) M1 R1 O := by
  refine g_startW (cc := cL_tryUndo) (maxL := 2) (ret := (some .int)) (hh := [(0, 4, 5, 24)]) (by decide) rfl (Nat.le_of_ble_eq_true rfl) ?_
  intro p e s m below meth c ls hx hb hml hrt hts hown hlocks hname hK hZ hG hS hl hX hY hnx
  have hl : lv_has ls 2 [(0, .ref (gad Γ 475))] := hl
  have hown : s.vm.findClass RL = some m.cls := hown
  have hF : CallFix p m c cL_tryUndo 2 s _ wsL_tryUndo RL := ⟨hx, hb, hml, hown, hts⟩
  refine lv_aload_n hx hb dL_tryUndo_0 rfl (lv_at hl 0 rfl) ?_
  refine g_callV (As := []) (rest := []) (st1 := [.int v]) hF hM (cwV 0 hts gL_tryUndo_X6_undo rfl rfl rfl (by decide +kernel) ⟨(by show fr + 1 ≤ 9; omega), (by show 8 + (_ + 11) + lo ≤ 180; omega)⟩) hK hZ hG hS h475 (show gC 475 = (6, 32, 0) from rfl) (by decide) rfl rfl hl.1 (Nat.le_of_ble_eq_true rfl) dL_tryUndo_1 ⟨Nat.zero_le _, Nat.zero_le _⟩ rfl rfl (fun H locs hG hS => ?_)
  refine W.widen (k := 1) (n := 6) (by decide) (by decide) ?_
  exact vx_ret (g_iret hx hb hrt hlocks hS hG rfl rfl dL_tryUndo_4)
set_option maxHeartbeats 4000000 in
set_option maxRecDepth 100000 in
theorem wL_tryUndo_t1 {l : Launch} {Γ : gX} (h475 : 475 ∈ gcs Γ) {fr lo : Nat} (hfr : fr ≤ 8) (hlo : lo ≤ 140) {M M1 : Nat → Nat → Int32} {R R1 : Nat → Nat → Option Nat} {O : Int64}  (hM : gThr l Γ yX6_undo wsX6_undo fr lo [.ref (gad Γ 475)] M R O "java/lang/IllegalStateException" M1 R1 O) : gWrp l Γ yL_tryUndo wsL_tryUndo 9 180 [.ref (gad Γ 475)] M R O (some (.int (-9999003))) M1 R1 O := by
  refine g_startW (cc := cL_tryUndo) (maxL := 2) (ret := (some .int)) (hh := [(0, 4, 5, 24)]) (by decide) rfl (Nat.le_of_ble_eq_true rfl) ?_
  intro p e s m below meth c ls hx hb hml hrt hts hown hlocks hname hK hZ hG hS hl hX hY hnx
  have hl : lv_has ls 2 [(0, .ref (gad Γ 475))] := hl
  have hown : s.vm.findClass RL = some m.cls := hown
  have hF : CallFix p m c cL_tryUndo 2 s _ wsL_tryUndo RL := ⟨hx, hb, hml, hown, hts⟩
  refine lv_aload_n hx hb dL_tryUndo_0 rfl (lv_at hl 0 rfl) ?_
  refine g_xVc (As := []) (rest := []) hF hM (cwV 0 hts gL_tryUndo_X6_undo rfl rfl rfl (by decide +kernel) ⟨(by show fr + 1 ≤ 9; omega), (by show 8 + (_ + 11) + lo ≤ 180; omega)⟩) hK hZ hX hG hS h475 (show gC 475 = (6, 32, 0) from rfl) (by decide) rfl rfl hl.1 (Nat.le_of_ble_eq_true rfl) dL_tryUndo_1 ⟨Nat.le_of_ble_eq_true rfl, Nat.le_of_ble_eq_true rfl⟩ rfl (fun ce q9 H locs hG hS hce hcv hcl => ?_)
  refine vx_catch (name := "java/lang/IllegalStateException") hown [] ⟨0, 4, 5, 24⟩ [] (by rw [hnx]; rfl) (fun _ h => absurd h List.not_mem_nil) (by decide) (by decide) (hts (Cond.classLink RL 24 "java/lang/IllegalStateException") (by decide +kernel)) (gx_cast hX (by decide +kernel)) hce hcv hcl ?_
  refine lv_astore_n (lv' := [(1, .ref q9), (0, .ref (gad Γ 475))]) hx hb dL_tryUndo_5 rfl hl (by decide) rfl (fun ls hl => ?_)
  refine lv_ldc hx hb hown (hts (Cond.constant RL 26 (-9999003)) (by decide +kernel)) dL_tryUndo_6 ?_
  exact vx_ret (g_iret hx hb hrt hlocks hS hG rfl rfl dL_tryUndo_8)
set_option maxHeartbeats 4000000 in
set_option maxRecDepth 100000 in
theorem wL_tryWhy {l : Launch} {Γ : gX} (h475 : 475 ∈ gcs Γ) {fr lo : Nat} (hfr : fr ≤ 8) (hlo : lo ≤ 140) {M M1 : Nat → Nat → Int32} {R R1 : Nat → Nat → Option Nat} {O : Int64} (a : Int32) {v : Int32} (hM : gMet l Γ yX6_whyNoFill wsX6_whyNoFill fr lo [.ref (gad Γ 475), .int a] M R O (some (.int v)) M1 R1 O) : gWrp l Γ yL_tryWhy wsL_tryWhy 9 180 [.ref (gad Γ 475), .int a] M R O (some (.int v)) M1 R1 O := by
  refine g_startW (cc := cL_tryWhy) (maxL := 3) (ret := (some .int)) (hh := [(0, 5, 6, 38)]) (by decide) rfl (Nat.le_of_ble_eq_true rfl) ?_
  intro p e s m below meth c ls hx hb hml hrt hts hown hlocks hname hK hZ hG hS hl hX hY hnx
  have hl : lv_has ls 3 [(0, .ref (gad Γ 475)), (1, .int a)] := hl
  have hown : s.vm.findClass RL = some m.cls := hown
  have hF : CallFix p m c cL_tryWhy 3 s _ wsL_tryWhy RL := ⟨hx, hb, hml, hown, hts⟩
  refine lv_aload_n hx hb dL_tryWhy_0 rfl (lv_at hl 0 rfl) ?_
  refine lv_iload_n hx hb dL_tryWhy_1 rfl (lv_at hl 1 rfl) ?_
  refine g_callV (As := [.int a]) (rest := []) (st1 := [.int v]) hF hM (cwV 1 hts gL_tryWhy_X6_whyNoFill rfl rfl rfl (by decide +kernel) ⟨(by show fr + 1 ≤ 9; omega), (by show 8 + (_ + 11) + lo ≤ 180; omega)⟩) hK hZ hG hS h475 (show gC 475 = (6, 32, 0) from rfl) (by decide) rfl rfl hl.1 (Nat.le_of_ble_eq_true rfl) dL_tryWhy_2 ⟨Nat.zero_le _, Nat.zero_le _⟩ rfl rfl (fun H locs hG hS => ?_)
  refine W.widen (k := 1) (n := 6) (by decide) (by decide) ?_
  exact vx_ret (g_iret hx hb hrt hlocks hS hG rfl rfl dL_tryWhy_5)
set_option maxHeartbeats 4000000 in
set_option maxRecDepth 100000 in
theorem wL_tryWhy_t1 {l : Launch} {Γ : gX} (h475 : 475 ∈ gcs Γ) {fr lo : Nat} (hfr : fr ≤ 8) (hlo : lo ≤ 140) {M M1 : Nat → Nat → Int32} {R R1 : Nat → Nat → Option Nat} {O : Int64} (a : Int32) (hM : gThr l Γ yX6_whyNoFill wsX6_whyNoFill fr lo [.ref (gad Γ 475), .int a] M R O "java/lang/IndexOutOfBoundsException" M1 R1 O) : gWrp l Γ yL_tryWhy wsL_tryWhy 9 180 [.ref (gad Γ 475), .int a] M R O (some (.int (-9999001))) M1 R1 O := by
  refine g_startW (cc := cL_tryWhy) (maxL := 3) (ret := (some .int)) (hh := [(0, 5, 6, 38)]) (by decide) rfl (Nat.le_of_ble_eq_true rfl) ?_
  intro p e s m below meth c ls hx hb hml hrt hts hown hlocks hname hK hZ hG hS hl hX hY hnx
  have hl : lv_has ls 3 [(0, .ref (gad Γ 475)), (1, .int a)] := hl
  have hown : s.vm.findClass RL = some m.cls := hown
  have hF : CallFix p m c cL_tryWhy 3 s _ wsL_tryWhy RL := ⟨hx, hb, hml, hown, hts⟩
  refine lv_aload_n hx hb dL_tryWhy_0 rfl (lv_at hl 0 rfl) ?_
  refine lv_iload_n hx hb dL_tryWhy_1 rfl (lv_at hl 1 rfl) ?_
  refine g_xVc (As := [.int a]) (rest := []) hF hM (cwV 1 hts gL_tryWhy_X6_whyNoFill rfl rfl rfl (by decide +kernel) ⟨(by show fr + 1 ≤ 9; omega), (by show 8 + (_ + 11) + lo ≤ 180; omega)⟩) hK hZ hX hG hS h475 (show gC 475 = (6, 32, 0) from rfl) (by decide) rfl rfl hl.1 (Nat.le_of_ble_eq_true rfl) dL_tryWhy_2 ⟨Nat.le_of_ble_eq_true rfl, Nat.le_of_ble_eq_true rfl⟩ rfl (fun ce q9 H locs hG hS hce hcv hcl => ?_)
  refine vx_catch (name := "java/lang/IndexOutOfBoundsException") hown [] ⟨0, 5, 6, 38⟩ [] (by rw [hnx]; rfl) (fun _ h => absurd h List.not_mem_nil) (by decide) (by decide) (hts (Cond.classLink RL 38 "java/lang/IndexOutOfBoundsException") (by decide +kernel)) (gx_cast hX (by decide +kernel)) hce hcv hcl ?_
  refine lv_astore_n (lv' := [(2, .ref q9), (0, .ref (gad Γ 475)), (1, .int a)]) hx hb dL_tryWhy_6 rfl hl (by decide) rfl (fun ls hl => ?_)
  refine lv_ldc hx hb hown (hts (Cond.constant RL 40 (-9999001)) (by decide +kernel)) dL_tryWhy_7 ?_
  exact vx_ret (g_iret hx hb hrt hlocks hS hG rfl rfl dL_tryWhy_9)
set_option maxHeartbeats 4000000 in
set_option maxRecDepth 100000 in
theorem wL_tryAhead {l : Launch} {Γ : gX} (h475 : 475 ∈ gcs Γ) {fr lo : Nat} (hfr : fr ≤ 8) (hlo : lo ≤ 140) {M M1 : Nat → Nat → Int32} {R R1 : Nat → Nat → Option Nat} {O : Int64} (a : Int32) (d : Int32) {v : Int32} (hM : gMet l Γ yX6_ahead wsX6_ahead fr lo [.ref (gad Γ 475), .int a, .int d] M R O (some (.int v)) M1 R1 O) : gWrp l Γ yL_tryAhead wsL_tryAhead 9 180 [.ref (gad Γ 475), .int a, .int d] M R O (some (.int v)) M1 R1 O := by
  refine g_startW (cc := cL_tryAhead) (maxL := 4) (ret := (some .int)) (hh := [(0, 6, 7, 38), (0, 6, 11, 13)]) (by decide) rfl (Nat.le_of_ble_eq_true rfl) ?_
  intro p e s m below meth c ls hx hb hml hrt hts hown hlocks hname hK hZ hG hS hl hX hY hnx
  have hl : lv_has ls 4 [(0, .ref (gad Γ 475)), (1, .int a), (2, .int d)] := hl
  have hown : s.vm.findClass RL = some m.cls := hown
  have hF : CallFix p m c cL_tryAhead 4 s _ wsL_tryAhead RL := ⟨hx, hb, hml, hown, hts⟩
  refine lv_aload_n hx hb dL_tryAhead_0 rfl (lv_at hl 0 rfl) ?_
  refine lv_iload_n hx hb dL_tryAhead_1 rfl (lv_at hl 1 rfl) ?_
  refine lv_iload_n hx hb dL_tryAhead_2 rfl (lv_at hl 2 rfl) ?_
  refine g_callV (As := [.int a, .int d]) (rest := []) (st1 := [.int v]) hF hM (cwV 2 hts gL_tryAhead_X6_ahead rfl rfl rfl (by decide +kernel) ⟨(by show fr + 1 ≤ 9; omega), (by show 8 + (_ + 11) + lo ≤ 180; omega)⟩) hK hZ hG hS h475 (show gC 475 = (6, 32, 0) from rfl) (by decide) rfl rfl hl.1 (Nat.le_of_ble_eq_true rfl) dL_tryAhead_3 ⟨Nat.zero_le _, Nat.zero_le _⟩ rfl rfl (fun H locs hG hS => ?_)
  refine W.widen (k := 1) (n := 6) (by decide) (by decide) ?_
  exact vx_ret (g_iret hx hb hrt hlocks hS hG rfl rfl dL_tryAhead_6)
set_option maxHeartbeats 4000000 in
set_option maxRecDepth 100000 in
theorem wL_tryAhead_t1 {l : Launch} {Γ : gX} (h475 : 475 ∈ gcs Γ) {fr lo : Nat} (hfr : fr ≤ 8) (hlo : lo ≤ 140) {M M1 : Nat → Nat → Int32} {R R1 : Nat → Nat → Option Nat} {O : Int64} (a : Int32) (d : Int32) (hM : gThr l Γ yX6_ahead wsX6_ahead fr lo [.ref (gad Γ 475), .int a, .int d] M R O "java/lang/IndexOutOfBoundsException" M1 R1 O) : gWrp l Γ yL_tryAhead wsL_tryAhead 9 180 [.ref (gad Γ 475), .int a, .int d] M R O (some (.int (-9999001))) M1 R1 O := by
  refine g_startW (cc := cL_tryAhead) (maxL := 4) (ret := (some .int)) (hh := [(0, 6, 7, 38), (0, 6, 11, 13)]) (by decide) rfl (Nat.le_of_ble_eq_true rfl) ?_
  intro p e s m below meth c ls hx hb hml hrt hts hown hlocks hname hK hZ hG hS hl hX hY hnx
  have hl : lv_has ls 4 [(0, .ref (gad Γ 475)), (1, .int a), (2, .int d)] := hl
  have hown : s.vm.findClass RL = some m.cls := hown
  have hF : CallFix p m c cL_tryAhead 4 s _ wsL_tryAhead RL := ⟨hx, hb, hml, hown, hts⟩
  refine lv_aload_n hx hb dL_tryAhead_0 rfl (lv_at hl 0 rfl) ?_
  refine lv_iload_n hx hb dL_tryAhead_1 rfl (lv_at hl 1 rfl) ?_
  refine lv_iload_n hx hb dL_tryAhead_2 rfl (lv_at hl 2 rfl) ?_
  refine g_xVc (As := [.int a, .int d]) (rest := []) hF hM (cwV 2 hts gL_tryAhead_X6_ahead rfl rfl rfl (by decide +kernel) ⟨(by show fr + 1 ≤ 9; omega), (by show 8 + (_ + 11) + lo ≤ 180; omega)⟩) hK hZ hX hG hS h475 (show gC 475 = (6, 32, 0) from rfl) (by decide) rfl rfl hl.1 (Nat.le_of_ble_eq_true rfl) dL_tryAhead_3 ⟨Nat.le_of_ble_eq_true rfl, Nat.le_of_ble_eq_true rfl⟩ rfl (fun ce q9 H locs hG hS hce hcv hcl => ?_)
  refine vx_catch (name := "java/lang/IndexOutOfBoundsException") hown [] ⟨0, 6, 7, 38⟩ [⟨0, 6, 11, 13⟩] (by rw [hnx]; rfl) (fun _ h => absurd h List.not_mem_nil) (by decide) (by decide) (hts (Cond.classLink RL 38 "java/lang/IndexOutOfBoundsException") (by decide +kernel)) (gx_cast hX (by decide +kernel)) hce hcv hcl ?_
  refine lv_astore_n (lv' := [(3, .ref q9), (0, .ref (gad Γ 475)), (1, .int a), (2, .int d)]) hx hb dL_tryAhead_7 rfl hl (by decide) rfl (fun ls hl => ?_)
  refine lv_ldc hx hb hown (hts (Cond.constant RL 40 (-9999001)) (by decide +kernel)) dL_tryAhead_8 ?_
  exact vx_ret (g_iret hx hb hrt hlocks hS hG rfl rfl dL_tryAhead_10)
set_option maxHeartbeats 4000000 in
set_option maxRecDepth 100000 in
theorem wL_tryAhead_t2 {l : Launch} {Γ : gX} (h475 : 475 ∈ gcs Γ) {fr lo : Nat} (hfr : fr ≤ 8) (hlo : lo ≤ 140) {M M1 : Nat → Nat → Int32} {R R1 : Nat → Nat → Option Nat} {O : Int64} (a : Int32) (d : Int32) (hM : gThr l Γ yX6_ahead wsX6_ahead fr lo [.ref (gad Γ 475), .int a, .int d] M R O "java/lang/IllegalArgumentException" M1 R1 O) : gWrp l Γ yL_tryAhead wsL_tryAhead 9 180 [.ref (gad Γ 475), .int a, .int d] M R O (some (.int (-9999002))) M1 R1 O := by
  refine g_startW (cc := cL_tryAhead) (maxL := 4) (ret := (some .int)) (hh := [(0, 6, 7, 38), (0, 6, 11, 13)]) (by decide) rfl (Nat.le_of_ble_eq_true rfl) ?_
  intro p e s m below meth c ls hx hb hml hrt hts hown hlocks hname hK hZ hG hS hl hX hY hnx
  have hl : lv_has ls 4 [(0, .ref (gad Γ 475)), (1, .int a), (2, .int d)] := hl
  have hown : s.vm.findClass RL = some m.cls := hown
  have hF : CallFix p m c cL_tryAhead 4 s _ wsL_tryAhead RL := ⟨hx, hb, hml, hown, hts⟩
  refine lv_aload_n hx hb dL_tryAhead_0 rfl (lv_at hl 0 rfl) ?_
  refine lv_iload_n hx hb dL_tryAhead_1 rfl (lv_at hl 1 rfl) ?_
  refine lv_iload_n hx hb dL_tryAhead_2 rfl (lv_at hl 2 rfl) ?_
  refine g_xVc (As := [.int a, .int d]) (rest := []) hF hM (cwV 2 hts gL_tryAhead_X6_ahead rfl rfl rfl (by decide +kernel) ⟨(by show fr + 1 ≤ 9; omega), (by show 8 + (_ + 11) + lo ≤ 180; omega)⟩) hK hZ hX hG hS h475 (show gC 475 = (6, 32, 0) from rfl) (by decide) rfl rfl hl.1 (Nat.le_of_ble_eq_true rfl) dL_tryAhead_3 ⟨Nat.le_of_ble_eq_true rfl, Nat.le_of_ble_eq_true rfl⟩ rfl (fun ce q9 H locs hG hS hce hcv hcl => ?_)
  refine vx_catch (name := "java/lang/IllegalArgumentException") hown [⟨0, 6, 7, 38⟩] ⟨0, 6, 11, 13⟩ [] (by rw [hnx]; rfl) (List.forall_mem_cons.mpr ⟨Or.inr ⟨by decide, "java/lang/IndexOutOfBoundsException", hts (Cond.classLink RL 38 "java/lang/IndexOutOfBoundsException") (by decide +kernel), hY.1⟩, (fun _ h => absurd h List.not_mem_nil)⟩) (by decide) (by decide) (hts (Cond.classLink RL 13 "java/lang/IllegalArgumentException") (by decide +kernel)) (gx_cast hX (by decide +kernel)) hce hcv hcl ?_
  refine lv_astore_n (lv' := [(3, .ref q9), (0, .ref (gad Γ 475)), (1, .int a), (2, .int d)]) hx hb dL_tryAhead_11 rfl hl (by decide) rfl (fun ls hl => ?_)
  refine lv_ldc hx hb hown (hts (Cond.constant RL 15 (-9999002)) (by decide +kernel)) dL_tryAhead_12 ?_
  exact vx_ret (g_iret hx hb hrt hlocks hS hG rfl rfl dL_tryAhead_14)
set_option maxHeartbeats 4000000 in
set_option maxRecDepth 100000 in
theorem wL_tryWater {l : Launch} {Γ : gX} (h475 : 475 ∈ gcs Γ) {fr lo : Nat} (hfr : fr ≤ 8) (hlo : lo ≤ 140) {M M1 : Nat → Nat → Int32} {R R1 : Nat → Nat → Option Nat} {O : Int64} (a : Int32) {v : Int32} (hM : gMet l Γ yX6_waterFor wsX6_waterFor fr lo [.ref (gad Γ 475), .int a] M R O (some (.int v)) M1 R1 O) : gWrp l Γ yL_tryWater wsL_tryWater 9 180 [.ref (gad Γ 475), .int a] M R O (some (.int v)) M1 R1 O := by
  refine g_startW (cc := cL_tryWater) (maxL := 3) (ret := (some .int)) (hh := [(0, 5, 6, 38)]) (by decide) rfl (Nat.le_of_ble_eq_true rfl) ?_
  intro p e s m below meth c ls hx hb hml hrt hts hown hlocks hname hK hZ hG hS hl hX hY hnx
  have hl : lv_has ls 3 [(0, .ref (gad Γ 475)), (1, .int a)] := hl
  have hown : s.vm.findClass RL = some m.cls := hown
  have hF : CallFix p m c cL_tryWater 3 s _ wsL_tryWater RL := ⟨hx, hb, hml, hown, hts⟩
  refine lv_aload_n hx hb dL_tryWater_0 rfl (lv_at hl 0 rfl) ?_
  refine lv_iload_n hx hb dL_tryWater_1 rfl (lv_at hl 1 rfl) ?_
  refine g_callV (As := [.int a]) (rest := []) (st1 := [.int v]) hF hM (cwV 1 hts gL_tryWater_X6_waterFor rfl rfl rfl (by decide +kernel) ⟨(by show fr + 1 ≤ 9; omega), (by show 8 + (_ + 11) + lo ≤ 180; omega)⟩) hK hZ hG hS h475 (show gC 475 = (6, 32, 0) from rfl) (by decide) rfl rfl hl.1 (Nat.le_of_ble_eq_true rfl) dL_tryWater_2 ⟨Nat.zero_le _, Nat.zero_le _⟩ rfl rfl (fun H locs hG hS => ?_)
  refine W.widen (k := 1) (n := 6) (by decide) (by decide) ?_
  exact vx_ret (g_iret hx hb hrt hlocks hS hG rfl rfl dL_tryWater_5)
set_option maxHeartbeats 4000000 in
set_option maxRecDepth 100000 in
theorem wL_tryWater_t1 {l : Launch} {Γ : gX} (h475 : 475 ∈ gcs Γ) {fr lo : Nat} (hfr : fr ≤ 8) (hlo : lo ≤ 140) {M M1 : Nat → Nat → Int32} {R R1 : Nat → Nat → Option Nat} {O : Int64} (a : Int32) (hM : gThr l Γ yX6_waterFor wsX6_waterFor fr lo [.ref (gad Γ 475), .int a] M R O "java/lang/IndexOutOfBoundsException" M1 R1 O) : gWrp l Γ yL_tryWater wsL_tryWater 9 180 [.ref (gad Γ 475), .int a] M R O (some (.int (-9999001))) M1 R1 O := by
  refine g_startW (cc := cL_tryWater) (maxL := 3) (ret := (some .int)) (hh := [(0, 5, 6, 38)]) (by decide) rfl (Nat.le_of_ble_eq_true rfl) ?_
  intro p e s m below meth c ls hx hb hml hrt hts hown hlocks hname hK hZ hG hS hl hX hY hnx
  have hl : lv_has ls 3 [(0, .ref (gad Γ 475)), (1, .int a)] := hl
  have hown : s.vm.findClass RL = some m.cls := hown
  have hF : CallFix p m c cL_tryWater 3 s _ wsL_tryWater RL := ⟨hx, hb, hml, hown, hts⟩
  refine lv_aload_n hx hb dL_tryWater_0 rfl (lv_at hl 0 rfl) ?_
  refine lv_iload_n hx hb dL_tryWater_1 rfl (lv_at hl 1 rfl) ?_
  refine g_xVc (As := [.int a]) (rest := []) hF hM (cwV 1 hts gL_tryWater_X6_waterFor rfl rfl rfl (by decide +kernel) ⟨(by show fr + 1 ≤ 9; omega), (by show 8 + (_ + 11) + lo ≤ 180; omega)⟩) hK hZ hX hG hS h475 (show gC 475 = (6, 32, 0) from rfl) (by decide) rfl rfl hl.1 (Nat.le_of_ble_eq_true rfl) dL_tryWater_2 ⟨Nat.le_of_ble_eq_true rfl, Nat.le_of_ble_eq_true rfl⟩ rfl (fun ce q9 H locs hG hS hce hcv hcl => ?_)
  refine vx_catch (name := "java/lang/IndexOutOfBoundsException") hown [] ⟨0, 5, 6, 38⟩ [] (by rw [hnx]; rfl) (fun _ h => absurd h List.not_mem_nil) (by decide) (by decide) (hts (Cond.classLink RL 38 "java/lang/IndexOutOfBoundsException") (by decide +kernel)) (gx_cast hX (by decide +kernel)) hce hcv hcl ?_
  refine lv_astore_n (lv' := [(2, .ref q9), (0, .ref (gad Γ 475)), (1, .int a)]) hx hb dL_tryWater_6 rfl hl (by decide) rfl (fun ls hl => ?_)
  refine lv_ldc hx hb hown (hts (Cond.constant RL 40 (-9999001)) (by decide +kernel)) dL_tryWater_7 ?_
  exact vx_ret (g_iret hx hb hrt hlocks hS hG rfl rfl dL_tryWater_9)
set_option maxHeartbeats 4000000 in
set_option maxRecDepth 100000 in
theorem wL_trySlow {l : Launch} {Γ : gX} (h475 : 475 ∈ gcs Γ) {fr lo : Nat} (hfr : fr ≤ 8) (hlo : lo ≤ 140) {M M1 : Nat → Nat → Int32} {R R1 : Nat → Nat → Option Nat} {O : Int64} (a : Int32) {v : Int32} (hM : gMet l Γ yX6_limitFor wsX6_limitFor fr lo [.ref (gad Γ 475), .int a] M R O (some (.int v)) M1 R1 O) : gWrp l Γ yL_trySlow wsL_trySlow 9 180 [.ref (gad Γ 475), .int a] M R O (some (.int v)) M1 R1 O := by
  refine g_startW (cc := cL_trySlow) (maxL := 3) (ret := (some .int)) (hh := [(0, 5, 6, 38)]) (by decide) rfl (Nat.le_of_ble_eq_true rfl) ?_
  intro p e s m below meth c ls hx hb hml hrt hts hown hlocks hname hK hZ hG hS hl hX hY hnx
  have hl : lv_has ls 3 [(0, .ref (gad Γ 475)), (1, .int a)] := hl
  have hown : s.vm.findClass RL = some m.cls := hown
  have hF : CallFix p m c cL_trySlow 3 s _ wsL_trySlow RL := ⟨hx, hb, hml, hown, hts⟩
  refine lv_aload_n hx hb dL_trySlow_0 rfl (lv_at hl 0 rfl) ?_
  refine lv_iload_n hx hb dL_trySlow_1 rfl (lv_at hl 1 rfl) ?_
  refine g_callV (As := [.int a]) (rest := []) (st1 := [.int v]) hF hM (cwV 1 hts gL_trySlow_X6_limitFor rfl rfl rfl (by decide +kernel) ⟨(by show fr + 1 ≤ 9; omega), (by show 8 + (_ + 11) + lo ≤ 180; omega)⟩) hK hZ hG hS h475 (show gC 475 = (6, 32, 0) from rfl) (by decide) rfl rfl hl.1 (Nat.le_of_ble_eq_true rfl) dL_trySlow_2 ⟨Nat.zero_le _, Nat.zero_le _⟩ rfl rfl (fun H locs hG hS => ?_)
  refine W.widen (k := 1) (n := 6) (by decide) (by decide) ?_
  exact vx_ret (g_iret hx hb hrt hlocks hS hG rfl rfl dL_trySlow_5)
set_option maxHeartbeats 4000000 in
set_option maxRecDepth 100000 in
theorem wL_trySlow_t1 {l : Launch} {Γ : gX} (h475 : 475 ∈ gcs Γ) {fr lo : Nat} (hfr : fr ≤ 8) (hlo : lo ≤ 140) {M M1 : Nat → Nat → Int32} {R R1 : Nat → Nat → Option Nat} {O : Int64} (a : Int32) (hM : gThr l Γ yX6_limitFor wsX6_limitFor fr lo [.ref (gad Γ 475), .int a] M R O "java/lang/IndexOutOfBoundsException" M1 R1 O) : gWrp l Γ yL_trySlow wsL_trySlow 9 180 [.ref (gad Γ 475), .int a] M R O (some (.int (-9999001))) M1 R1 O := by
  refine g_startW (cc := cL_trySlow) (maxL := 3) (ret := (some .int)) (hh := [(0, 5, 6, 38)]) (by decide) rfl (Nat.le_of_ble_eq_true rfl) ?_
  intro p e s m below meth c ls hx hb hml hrt hts hown hlocks hname hK hZ hG hS hl hX hY hnx
  have hl : lv_has ls 3 [(0, .ref (gad Γ 475)), (1, .int a)] := hl
  have hown : s.vm.findClass RL = some m.cls := hown
  have hF : CallFix p m c cL_trySlow 3 s _ wsL_trySlow RL := ⟨hx, hb, hml, hown, hts⟩
  refine lv_aload_n hx hb dL_trySlow_0 rfl (lv_at hl 0 rfl) ?_
  refine lv_iload_n hx hb dL_trySlow_1 rfl (lv_at hl 1 rfl) ?_
  refine g_xVc (As := [.int a]) (rest := []) hF hM (cwV 1 hts gL_trySlow_X6_limitFor rfl rfl rfl (by decide +kernel) ⟨(by show fr + 1 ≤ 9; omega), (by show 8 + (_ + 11) + lo ≤ 180; omega)⟩) hK hZ hX hG hS h475 (show gC 475 = (6, 32, 0) from rfl) (by decide) rfl rfl hl.1 (Nat.le_of_ble_eq_true rfl) dL_trySlow_2 ⟨Nat.le_of_ble_eq_true rfl, Nat.le_of_ble_eq_true rfl⟩ rfl (fun ce q9 H locs hG hS hce hcv hcl => ?_)
  refine vx_catch (name := "java/lang/IndexOutOfBoundsException") hown [] ⟨0, 5, 6, 38⟩ [] (by rw [hnx]; rfl) (fun _ h => absurd h List.not_mem_nil) (by decide) (by decide) (hts (Cond.classLink RL 38 "java/lang/IndexOutOfBoundsException") (by decide +kernel)) (gx_cast hX (by decide +kernel)) hce hcv hcl ?_
  refine lv_astore_n (lv' := [(2, .ref q9), (0, .ref (gad Γ 475)), (1, .int a)]) hx hb dL_trySlow_6 rfl hl (by decide) rfl (fun ls hl => ?_)
  refine lv_ldc hx hb hown (hts (Cond.constant RL 40 (-9999001)) (by decide +kernel)) dL_trySlow_7 ?_
  exact vx_ret (g_iret hx hb hrt hlocks hS hG rfl rfl dL_trySlow_9)
set_option maxHeartbeats 4000000 in
set_option maxRecDepth 100000 in
theorem wL_tryBest {l : Launch} {Γ : gX} (h475 : 475 ∈ gcs Γ) {fr lo : Nat} (hfr : fr ≤ 8) (hlo : lo ≤ 140) {M M1 : Nat → Nat → Int32} {R R1 : Nat → Nat → Option Nat} {O : Int64} (a : Int32) (d : Int32) {v : Int32} (hM : gMet l Γ yX6_bestSpray wsX6_bestSpray fr lo [.ref (gad Γ 475), .int a, .int d] M R O (some (.int v)) M1 R1 O) : gWrp l Γ yL_tryBest wsL_tryBest 9 180 [.ref (gad Γ 475), .int a, .int d] M R O (some (.int v)) M1 R1 O := by
  refine g_startW (cc := cL_tryBest) (maxL := 4) (ret := (some .int)) (hh := [(0, 6, 7, 38), (0, 6, 11, 13)]) (by decide) rfl (Nat.le_of_ble_eq_true rfl) ?_
  intro p e s m below meth c ls hx hb hml hrt hts hown hlocks hname hK hZ hG hS hl hX hY hnx
  have hl : lv_has ls 4 [(0, .ref (gad Γ 475)), (1, .int a), (2, .int d)] := hl
  have hown : s.vm.findClass RL = some m.cls := hown
  have hF : CallFix p m c cL_tryBest 4 s _ wsL_tryBest RL := ⟨hx, hb, hml, hown, hts⟩
  refine lv_aload_n hx hb dL_tryBest_0 rfl (lv_at hl 0 rfl) ?_
  refine lv_iload_n hx hb dL_tryBest_1 rfl (lv_at hl 1 rfl) ?_
  refine lv_iload_n hx hb dL_tryBest_2 rfl (lv_at hl 2 rfl) ?_
  refine g_callV (As := [.int a, .int d]) (rest := []) (st1 := [.int v]) hF hM (cwV 2 hts gL_tryBest_X6_bestSpray rfl rfl rfl (by decide +kernel) ⟨(by show fr + 1 ≤ 9; omega), (by show 8 + (_ + 11) + lo ≤ 180; omega)⟩) hK hZ hG hS h475 (show gC 475 = (6, 32, 0) from rfl) (by decide) rfl rfl hl.1 (Nat.le_of_ble_eq_true rfl) dL_tryBest_3 ⟨Nat.zero_le _, Nat.zero_le _⟩ rfl rfl (fun H locs hG hS => ?_)
  refine W.widen (k := 1) (n := 6) (by decide) (by decide) ?_
  exact vx_ret (g_iret hx hb hrt hlocks hS hG rfl rfl dL_tryBest_6)
set_option maxHeartbeats 4000000 in
set_option maxRecDepth 100000 in
theorem wL_tryBest_t1 {l : Launch} {Γ : gX} (h475 : 475 ∈ gcs Γ) {fr lo : Nat} (hfr : fr ≤ 8) (hlo : lo ≤ 140) {M M1 : Nat → Nat → Int32} {R R1 : Nat → Nat → Option Nat} {O : Int64} (a : Int32) (d : Int32) (hM : gThr l Γ yX6_bestSpray wsX6_bestSpray fr lo [.ref (gad Γ 475), .int a, .int d] M R O "java/lang/IndexOutOfBoundsException" M1 R1 O) : gWrp l Γ yL_tryBest wsL_tryBest 9 180 [.ref (gad Γ 475), .int a, .int d] M R O (some (.int (-9999001))) M1 R1 O := by
  refine g_startW (cc := cL_tryBest) (maxL := 4) (ret := (some .int)) (hh := [(0, 6, 7, 38), (0, 6, 11, 13)]) (by decide) rfl (Nat.le_of_ble_eq_true rfl) ?_
  intro p e s m below meth c ls hx hb hml hrt hts hown hlocks hname hK hZ hG hS hl hX hY hnx
  have hl : lv_has ls 4 [(0, .ref (gad Γ 475)), (1, .int a), (2, .int d)] := hl
  have hown : s.vm.findClass RL = some m.cls := hown
  have hF : CallFix p m c cL_tryBest 4 s _ wsL_tryBest RL := ⟨hx, hb, hml, hown, hts⟩
  refine lv_aload_n hx hb dL_tryBest_0 rfl (lv_at hl 0 rfl) ?_
  refine lv_iload_n hx hb dL_tryBest_1 rfl (lv_at hl 1 rfl) ?_
  refine lv_iload_n hx hb dL_tryBest_2 rfl (lv_at hl 2 rfl) ?_
  refine g_xVc (As := [.int a, .int d]) (rest := []) hF hM (cwV 2 hts gL_tryBest_X6_bestSpray rfl rfl rfl (by decide +kernel) ⟨(by show fr + 1 ≤ 9; omega), (by show 8 + (_ + 11) + lo ≤ 180; omega)⟩) hK hZ hX hG hS h475 (show gC 475 = (6, 32, 0) from rfl) (by decide) rfl rfl hl.1 (Nat.le_of_ble_eq_true rfl) dL_tryBest_3 ⟨Nat.le_of_ble_eq_true rfl, Nat.le_of_ble_eq_true rfl⟩ rfl (fun ce q9 H locs hG hS hce hcv hcl => ?_)
  refine vx_catch (name := "java/lang/IndexOutOfBoundsException") hown [] ⟨0, 6, 7, 38⟩ [⟨0, 6, 11, 13⟩] (by rw [hnx]; rfl) (fun _ h => absurd h List.not_mem_nil) (by decide) (by decide) (hts (Cond.classLink RL 38 "java/lang/IndexOutOfBoundsException") (by decide +kernel)) (gx_cast hX (by decide +kernel)) hce hcv hcl ?_
  refine lv_astore_n (lv' := [(3, .ref q9), (0, .ref (gad Γ 475)), (1, .int a), (2, .int d)]) hx hb dL_tryBest_7 rfl hl (by decide) rfl (fun ls hl => ?_)
  refine lv_ldc hx hb hown (hts (Cond.constant RL 40 (-9999001)) (by decide +kernel)) dL_tryBest_8 ?_
  exact vx_ret (g_iret hx hb hrt hlocks hS hG rfl rfl dL_tryBest_10)
set_option maxHeartbeats 4000000 in
set_option maxRecDepth 100000 in
theorem wL_tryBest_t2 {l : Launch} {Γ : gX} (h475 : 475 ∈ gcs Γ) {fr lo : Nat} (hfr : fr ≤ 8) (hlo : lo ≤ 140) {M M1 : Nat → Nat → Int32} {R R1 : Nat → Nat → Option Nat} {O : Int64} (a : Int32) (d : Int32) (hM : gThr l Γ yX6_bestSpray wsX6_bestSpray fr lo [.ref (gad Γ 475), .int a, .int d] M R O "java/lang/IllegalArgumentException" M1 R1 O) : gWrp l Γ yL_tryBest wsL_tryBest 9 180 [.ref (gad Γ 475), .int a, .int d] M R O (some (.int (-9999002))) M1 R1 O := by
  refine g_startW (cc := cL_tryBest) (maxL := 4) (ret := (some .int)) (hh := [(0, 6, 7, 38), (0, 6, 11, 13)]) (by decide) rfl (Nat.le_of_ble_eq_true rfl) ?_
  intro p e s m below meth c ls hx hb hml hrt hts hown hlocks hname hK hZ hG hS hl hX hY hnx
  have hl : lv_has ls 4 [(0, .ref (gad Γ 475)), (1, .int a), (2, .int d)] := hl
  have hown : s.vm.findClass RL = some m.cls := hown
  have hF : CallFix p m c cL_tryBest 4 s _ wsL_tryBest RL := ⟨hx, hb, hml, hown, hts⟩
  refine lv_aload_n hx hb dL_tryBest_0 rfl (lv_at hl 0 rfl) ?_
  refine lv_iload_n hx hb dL_tryBest_1 rfl (lv_at hl 1 rfl) ?_
  refine lv_iload_n hx hb dL_tryBest_2 rfl (lv_at hl 2 rfl) ?_
  refine g_xVc (As := [.int a, .int d]) (rest := []) hF hM (cwV 2 hts gL_tryBest_X6_bestSpray rfl rfl rfl (by decide +kernel) ⟨(by show fr + 1 ≤ 9; omega), (by show 8 + (_ + 11) + lo ≤ 180; omega)⟩) hK hZ hX hG hS h475 (show gC 475 = (6, 32, 0) from rfl) (by decide) rfl rfl hl.1 (Nat.le_of_ble_eq_true rfl) dL_tryBest_3 ⟨Nat.le_of_ble_eq_true rfl, Nat.le_of_ble_eq_true rfl⟩ rfl (fun ce q9 H locs hG hS hce hcv hcl => ?_)
  refine vx_catch (name := "java/lang/IllegalArgumentException") hown [⟨0, 6, 7, 38⟩] ⟨0, 6, 11, 13⟩ [] (by rw [hnx]; rfl) (List.forall_mem_cons.mpr ⟨Or.inr ⟨by decide, "java/lang/IndexOutOfBoundsException", hts (Cond.classLink RL 38 "java/lang/IndexOutOfBoundsException") (by decide +kernel), hY.1⟩, (fun _ h => absurd h List.not_mem_nil)⟩) (by decide) (by decide) (hts (Cond.classLink RL 13 "java/lang/IllegalArgumentException") (by decide +kernel)) (gx_cast hX (by decide +kernel)) hce hcv hcl ?_
  refine lv_astore_n (lv' := [(3, .ref q9), (0, .ref (gad Γ 475)), (1, .int a), (2, .int d)]) hx hb dL_tryBest_11 rfl hl (by decide) rfl (fun ls hl => ?_)
  refine lv_ldc hx hb hown (hts (Cond.constant RL 15 (-9999002)) (by decide +kernel)) dL_tryBest_12 ?_
  exact vx_ret (g_iret hx hb hrt hlocks hS hG rfl rfl dL_tryBest_14)
set_option maxHeartbeats 4000000 in
set_option maxRecDepth 100000 in
theorem wL_tryWhen {l : Launch} {Γ : gX} (h475 : 475 ∈ gcs Γ) {fr lo : Nat} (hfr : fr ≤ 8) (hlo : lo ≤ 140) {M M1 : Nat → Nat → Int32} {R R1 : Nat → Nat → Option Nat} {O : Int64} (a : Int32) {v : Int32} (hM : gMet l Γ yX6_complainsIn wsX6_complainsIn fr lo [.ref (gad Γ 475), .int a] M R O (some (.int v)) M1 R1 O) : gWrp l Γ yL_tryWhen wsL_tryWhen 9 180 [.ref (gad Γ 475), .int a] M R O (some (.int v)) M1 R1 O := by
  refine g_startW (cc := cL_tryWhen) (maxL := 3) (ret := (some .int)) (hh := [(0, 5, 6, 38)]) (by decide) rfl (Nat.le_of_ble_eq_true rfl) ?_
  intro p e s m below meth c ls hx hb hml hrt hts hown hlocks hname hK hZ hG hS hl hX hY hnx
  have hl : lv_has ls 3 [(0, .ref (gad Γ 475)), (1, .int a)] := hl
  have hown : s.vm.findClass RL = some m.cls := hown
  have hF : CallFix p m c cL_tryWhen 3 s _ wsL_tryWhen RL := ⟨hx, hb, hml, hown, hts⟩
  refine lv_aload_n hx hb dL_tryWhen_0 rfl (lv_at hl 0 rfl) ?_
  refine lv_iload_n hx hb dL_tryWhen_1 rfl (lv_at hl 1 rfl) ?_
  refine g_callV (As := [.int a]) (rest := []) (st1 := [.int v]) hF hM (cwV 1 hts gL_tryWhen_X6_complainsIn rfl rfl rfl (by decide +kernel) ⟨(by show fr + 1 ≤ 9; omega), (by show 8 + (_ + 11) + lo ≤ 180; omega)⟩) hK hZ hG hS h475 (show gC 475 = (6, 32, 0) from rfl) (by decide) rfl rfl hl.1 (Nat.le_of_ble_eq_true rfl) dL_tryWhen_2 ⟨Nat.zero_le _, Nat.zero_le _⟩ rfl rfl (fun H locs hG hS => ?_)
  refine W.widen (k := 1) (n := 6) (by decide) (by decide) ?_
  exact vx_ret (g_iret hx hb hrt hlocks hS hG rfl rfl dL_tryWhen_5)
set_option maxHeartbeats 4000000 in
set_option maxRecDepth 100000 in
theorem wL_tryWhen_t1 {l : Launch} {Γ : gX} (h475 : 475 ∈ gcs Γ) {fr lo : Nat} (hfr : fr ≤ 8) (hlo : lo ≤ 140) {M M1 : Nat → Nat → Int32} {R R1 : Nat → Nat → Option Nat} {O : Int64} (a : Int32) (hM : gThr l Γ yX6_complainsIn wsX6_complainsIn fr lo [.ref (gad Γ 475), .int a] M R O "java/lang/IndexOutOfBoundsException" M1 R1 O) : gWrp l Γ yL_tryWhen wsL_tryWhen 9 180 [.ref (gad Γ 475), .int a] M R O (some (.int (-9999001))) M1 R1 O := by
  refine g_startW (cc := cL_tryWhen) (maxL := 3) (ret := (some .int)) (hh := [(0, 5, 6, 38)]) (by decide) rfl (Nat.le_of_ble_eq_true rfl) ?_
  intro p e s m below meth c ls hx hb hml hrt hts hown hlocks hname hK hZ hG hS hl hX hY hnx
  have hl : lv_has ls 3 [(0, .ref (gad Γ 475)), (1, .int a)] := hl
  have hown : s.vm.findClass RL = some m.cls := hown
  have hF : CallFix p m c cL_tryWhen 3 s _ wsL_tryWhen RL := ⟨hx, hb, hml, hown, hts⟩
  refine lv_aload_n hx hb dL_tryWhen_0 rfl (lv_at hl 0 rfl) ?_
  refine lv_iload_n hx hb dL_tryWhen_1 rfl (lv_at hl 1 rfl) ?_
  refine g_xVc (As := [.int a]) (rest := []) hF hM (cwV 1 hts gL_tryWhen_X6_complainsIn rfl rfl rfl (by decide +kernel) ⟨(by show fr + 1 ≤ 9; omega), (by show 8 + (_ + 11) + lo ≤ 180; omega)⟩) hK hZ hX hG hS h475 (show gC 475 = (6, 32, 0) from rfl) (by decide) rfl rfl hl.1 (Nat.le_of_ble_eq_true rfl) dL_tryWhen_2 ⟨Nat.le_of_ble_eq_true rfl, Nat.le_of_ble_eq_true rfl⟩ rfl (fun ce q9 H locs hG hS hce hcv hcl => ?_)
  refine vx_catch (name := "java/lang/IndexOutOfBoundsException") hown [] ⟨0, 5, 6, 38⟩ [] (by rw [hnx]; rfl) (fun _ h => absurd h List.not_mem_nil) (by decide) (by decide) (hts (Cond.classLink RL 38 "java/lang/IndexOutOfBoundsException") (by decide +kernel)) (gx_cast hX (by decide +kernel)) hce hcv hcl ?_
  refine lv_astore_n (lv' := [(2, .ref q9), (0, .ref (gad Γ 475)), (1, .int a)]) hx hb dL_tryWhen_6 rfl hl (by decide) rfl (fun ls hl => ?_)
  refine lv_ldc hx hb hown (hts (Cond.constant RL 40 (-9999001)) (by decide +kernel)) dL_tryWhen_7 ?_
  exact vx_ret (g_iret hx hb hrt hlocks hS hG rfl rfl dL_tryWhen_9)
set_option maxHeartbeats 4000000 in
set_option maxRecDepth 100000 in
theorem wL_trySave {l : Launch} {Γ : gX} (h475 : 475 ∈ gcs Γ) {fr lo : Nat} (hfr : fr ≤ 8) (hlo : lo ≤ 140) {M M1 : Nat → Nat → Int32} {R R1 : Nat → Nat → Option Nat} {O : Int64} (a : Int32) {v : Int32} (hM : gMet l Γ yX6_save wsX6_save fr lo [.ref (gad Γ 475), .int a] M R O (some (.int v)) M1 R1 O) : gWrp l Γ yL_trySave wsL_trySave 9 180 [.ref (gad Γ 475), .int a] M R O (some (.int v)) M1 R1 O := by
  refine g_startW (cc := cL_trySave) (maxL := 3) (ret := (some .int)) (hh := [(0, 5, 6, 38)]) (by decide) rfl (Nat.le_of_ble_eq_true rfl) ?_
  intro p e s m below meth c ls hx hb hml hrt hts hown hlocks hname hK hZ hG hS hl hX hY hnx
  have hl : lv_has ls 3 [(0, .ref (gad Γ 475)), (1, .int a)] := hl
  have hown : s.vm.findClass RL = some m.cls := hown
  have hF : CallFix p m c cL_trySave 3 s _ wsL_trySave RL := ⟨hx, hb, hml, hown, hts⟩
  refine lv_aload_n hx hb dL_trySave_0 rfl (lv_at hl 0 rfl) ?_
  refine lv_iload_n hx hb dL_trySave_1 rfl (lv_at hl 1 rfl) ?_
  refine g_callV (As := [.int a]) (rest := []) (st1 := [.int v]) hF hM (cwV 1 hts gL_trySave_X6_save rfl rfl rfl (by decide +kernel) ⟨(by show fr + 1 ≤ 9; omega), (by show 8 + (_ + 11) + lo ≤ 180; omega)⟩) hK hZ hG hS h475 (show gC 475 = (6, 32, 0) from rfl) (by decide) rfl rfl hl.1 (Nat.le_of_ble_eq_true rfl) dL_trySave_2 ⟨Nat.zero_le _, Nat.zero_le _⟩ rfl rfl (fun H locs hG hS => ?_)
  refine W.widen (k := 1) (n := 6) (by decide) (by decide) ?_
  exact vx_ret (g_iret hx hb hrt hlocks hS hG rfl rfl dL_trySave_5)
set_option maxHeartbeats 4000000 in
set_option maxRecDepth 100000 in
theorem wL_trySave_t1 {l : Launch} {Γ : gX} (h475 : 475 ∈ gcs Γ) {fr lo : Nat} (hfr : fr ≤ 8) (hlo : lo ≤ 140) {M M1 : Nat → Nat → Int32} {R R1 : Nat → Nat → Option Nat} {O : Int64} (a : Int32) (hM : gThr l Γ yX6_save wsX6_save fr lo [.ref (gad Γ 475), .int a] M R O "java/lang/IndexOutOfBoundsException" M1 R1 O) : gWrp l Γ yL_trySave wsL_trySave 9 180 [.ref (gad Γ 475), .int a] M R O (some (.int (-9999001))) M1 R1 O := by
  refine g_startW (cc := cL_trySave) (maxL := 3) (ret := (some .int)) (hh := [(0, 5, 6, 38)]) (by decide) rfl (Nat.le_of_ble_eq_true rfl) ?_
  intro p e s m below meth c ls hx hb hml hrt hts hown hlocks hname hK hZ hG hS hl hX hY hnx
  have hl : lv_has ls 3 [(0, .ref (gad Γ 475)), (1, .int a)] := hl
  have hown : s.vm.findClass RL = some m.cls := hown
  have hF : CallFix p m c cL_trySave 3 s _ wsL_trySave RL := ⟨hx, hb, hml, hown, hts⟩
  refine lv_aload_n hx hb dL_trySave_0 rfl (lv_at hl 0 rfl) ?_
  refine lv_iload_n hx hb dL_trySave_1 rfl (lv_at hl 1 rfl) ?_
  refine g_xVc (As := [.int a]) (rest := []) hF hM (cwV 1 hts gL_trySave_X6_save rfl rfl rfl (by decide +kernel) ⟨(by show fr + 1 ≤ 9; omega), (by show 8 + (_ + 11) + lo ≤ 180; omega)⟩) hK hZ hX hG hS h475 (show gC 475 = (6, 32, 0) from rfl) (by decide) rfl rfl hl.1 (Nat.le_of_ble_eq_true rfl) dL_trySave_2 ⟨Nat.le_of_ble_eq_true rfl, Nat.le_of_ble_eq_true rfl⟩ rfl (fun ce q9 H locs hG hS hce hcv hcl => ?_)
  refine vx_catch (name := "java/lang/IndexOutOfBoundsException") hown [] ⟨0, 5, 6, 38⟩ [] (by rw [hnx]; rfl) (fun _ h => absurd h List.not_mem_nil) (by decide) (by decide) (hts (Cond.classLink RL 38 "java/lang/IndexOutOfBoundsException") (by decide +kernel)) (gx_cast hX (by decide +kernel)) hce hcv hcl ?_
  refine lv_astore_n (lv' := [(2, .ref q9), (0, .ref (gad Γ 475)), (1, .int a)]) hx hb dL_trySave_6 rfl hl (by decide) rfl (fun ls hl => ?_)
  refine lv_ldc hx hb hown (hts (Cond.constant RL 40 (-9999001)) (by decide +kernel)) dL_trySave_7 ?_
  exact vx_ret (g_iret hx hb hrt hlocks hS hG rfl rfl dL_trySave_9)
set_option maxHeartbeats 4000000 in
set_option maxRecDepth 100000 in
theorem wL_tryRestore {l : Launch} {Γ : gX} (h475 : 475 ∈ gcs Γ) {fr lo : Nat} (hfr : fr ≤ 8) (hlo : lo ≤ 140) {M M1 : Nat → Nat → Int32} {R R1 : Nat → Nat → Option Nat} {O : Int64} (a : Int32) {v : Int32} (hM : gMet l Γ yX6_restore wsX6_restore fr lo [.ref (gad Γ 475), .int a] M R O (some (.int v)) M1 R1 O) : gWrp l Γ yL_tryRestore wsL_tryRestore 9 180 [.ref (gad Γ 475), .int a] M R O (some (.int v)) M1 R1 O := by
  refine g_startW (cc := cL_tryRestore) (maxL := 3) (ret := (some .int)) (hh := [(0, 5, 6, 38), (0, 5, 10, 24)]) (by decide) rfl (Nat.le_of_ble_eq_true rfl) ?_
  intro p e s m below meth c ls hx hb hml hrt hts hown hlocks hname hK hZ hG hS hl hX hY hnx
  have hl : lv_has ls 3 [(0, .ref (gad Γ 475)), (1, .int a)] := hl
  have hown : s.vm.findClass RL = some m.cls := hown
  have hF : CallFix p m c cL_tryRestore 3 s _ wsL_tryRestore RL := ⟨hx, hb, hml, hown, hts⟩
  refine lv_aload_n hx hb dL_tryRestore_0 rfl (lv_at hl 0 rfl) ?_
  refine lv_iload_n hx hb dL_tryRestore_1 rfl (lv_at hl 1 rfl) ?_
  refine g_callV (As := [.int a]) (rest := []) (st1 := [.int v]) hF hM (cwV 1 hts gL_tryRestore_X6_restore rfl rfl rfl (by decide +kernel) ⟨(by show fr + 1 ≤ 9; omega), (by show 8 + (_ + 11) + lo ≤ 180; omega)⟩) hK hZ hG hS h475 (show gC 475 = (6, 32, 0) from rfl) (by decide) rfl rfl hl.1 (Nat.le_of_ble_eq_true rfl) dL_tryRestore_2 ⟨Nat.zero_le _, Nat.zero_le _⟩ rfl rfl (fun H locs hG hS => ?_)
  refine W.widen (k := 1) (n := 6) (by decide) (by decide) ?_
  exact vx_ret (g_iret hx hb hrt hlocks hS hG rfl rfl dL_tryRestore_5)
set_option maxHeartbeats 4000000 in
set_option maxRecDepth 100000 in
theorem wL_tryRestore_t1 {l : Launch} {Γ : gX} (h475 : 475 ∈ gcs Γ) {fr lo : Nat} (hfr : fr ≤ 8) (hlo : lo ≤ 140) {M M1 : Nat → Nat → Int32} {R R1 : Nat → Nat → Option Nat} {O : Int64} (a : Int32) (hM : gThr l Γ yX6_restore wsX6_restore fr lo [.ref (gad Γ 475), .int a] M R O "java/lang/IndexOutOfBoundsException" M1 R1 O) : gWrp l Γ yL_tryRestore wsL_tryRestore 9 180 [.ref (gad Γ 475), .int a] M R O (some (.int (-9999001))) M1 R1 O := by
  refine g_startW (cc := cL_tryRestore) (maxL := 3) (ret := (some .int)) (hh := [(0, 5, 6, 38), (0, 5, 10, 24)]) (by decide) rfl (Nat.le_of_ble_eq_true rfl) ?_
  intro p e s m below meth c ls hx hb hml hrt hts hown hlocks hname hK hZ hG hS hl hX hY hnx
  have hl : lv_has ls 3 [(0, .ref (gad Γ 475)), (1, .int a)] := hl
  have hown : s.vm.findClass RL = some m.cls := hown
  have hF : CallFix p m c cL_tryRestore 3 s _ wsL_tryRestore RL := ⟨hx, hb, hml, hown, hts⟩
  refine lv_aload_n hx hb dL_tryRestore_0 rfl (lv_at hl 0 rfl) ?_
  refine lv_iload_n hx hb dL_tryRestore_1 rfl (lv_at hl 1 rfl) ?_
  refine g_xVc (As := [.int a]) (rest := []) hF hM (cwV 1 hts gL_tryRestore_X6_restore rfl rfl rfl (by decide +kernel) ⟨(by show fr + 1 ≤ 9; omega), (by show 8 + (_ + 11) + lo ≤ 180; omega)⟩) hK hZ hX hG hS h475 (show gC 475 = (6, 32, 0) from rfl) (by decide) rfl rfl hl.1 (Nat.le_of_ble_eq_true rfl) dL_tryRestore_2 ⟨Nat.le_of_ble_eq_true rfl, Nat.le_of_ble_eq_true rfl⟩ rfl (fun ce q9 H locs hG hS hce hcv hcl => ?_)
  refine vx_catch (name := "java/lang/IndexOutOfBoundsException") hown [] ⟨0, 5, 6, 38⟩ [⟨0, 5, 10, 24⟩] (by rw [hnx]; rfl) (fun _ h => absurd h List.not_mem_nil) (by decide) (by decide) (hts (Cond.classLink RL 38 "java/lang/IndexOutOfBoundsException") (by decide +kernel)) (gx_cast hX (by decide +kernel)) hce hcv hcl ?_
  refine lv_astore_n (lv' := [(2, .ref q9), (0, .ref (gad Γ 475)), (1, .int a)]) hx hb dL_tryRestore_6 rfl hl (by decide) rfl (fun ls hl => ?_)
  refine lv_ldc hx hb hown (hts (Cond.constant RL 40 (-9999001)) (by decide +kernel)) dL_tryRestore_7 ?_
  exact vx_ret (g_iret hx hb hrt hlocks hS hG rfl rfl dL_tryRestore_9)
set_option maxHeartbeats 4000000 in
set_option maxRecDepth 100000 in
theorem wL_tryRestore_t2 {l : Launch} {Γ : gX} (h475 : 475 ∈ gcs Γ) {fr lo : Nat} (hfr : fr ≤ 8) (hlo : lo ≤ 140) {M M1 : Nat → Nat → Int32} {R R1 : Nat → Nat → Option Nat} {O : Int64} (a : Int32) (hM : gThr l Γ yX6_restore wsX6_restore fr lo [.ref (gad Γ 475), .int a] M R O "java/lang/IllegalStateException" M1 R1 O) : gWrp l Γ yL_tryRestore wsL_tryRestore 9 180 [.ref (gad Γ 475), .int a] M R O (some (.int (-9999003))) M1 R1 O := by
  refine g_startW (cc := cL_tryRestore) (maxL := 3) (ret := (some .int)) (hh := [(0, 5, 6, 38), (0, 5, 10, 24)]) (by decide) rfl (Nat.le_of_ble_eq_true rfl) ?_
  intro p e s m below meth c ls hx hb hml hrt hts hown hlocks hname hK hZ hG hS hl hX hY hnx
  have hl : lv_has ls 3 [(0, .ref (gad Γ 475)), (1, .int a)] := hl
  have hown : s.vm.findClass RL = some m.cls := hown
  have hF : CallFix p m c cL_tryRestore 3 s _ wsL_tryRestore RL := ⟨hx, hb, hml, hown, hts⟩
  refine lv_aload_n hx hb dL_tryRestore_0 rfl (lv_at hl 0 rfl) ?_
  refine lv_iload_n hx hb dL_tryRestore_1 rfl (lv_at hl 1 rfl) ?_
  refine g_xVc (As := [.int a]) (rest := []) hF hM (cwV 1 hts gL_tryRestore_X6_restore rfl rfl rfl (by decide +kernel) ⟨(by show fr + 1 ≤ 9; omega), (by show 8 + (_ + 11) + lo ≤ 180; omega)⟩) hK hZ hX hG hS h475 (show gC 475 = (6, 32, 0) from rfl) (by decide) rfl rfl hl.1 (Nat.le_of_ble_eq_true rfl) dL_tryRestore_2 ⟨Nat.le_of_ble_eq_true rfl, Nat.le_of_ble_eq_true rfl⟩ rfl (fun ce q9 H locs hG hS hce hcv hcl => ?_)
  refine vx_catch (name := "java/lang/IllegalStateException") hown [⟨0, 5, 6, 38⟩] ⟨0, 5, 10, 24⟩ [] (by rw [hnx]; rfl) (List.forall_mem_cons.mpr ⟨Or.inr ⟨by decide, "java/lang/IndexOutOfBoundsException", hts (Cond.classLink RL 38 "java/lang/IndexOutOfBoundsException") (by decide +kernel), hY.2.1⟩, (fun _ h => absurd h List.not_mem_nil)⟩) (by decide) (by decide) (hts (Cond.classLink RL 24 "java/lang/IllegalStateException") (by decide +kernel)) (gx_cast hX (by decide +kernel)) hce hcv hcl ?_
  refine lv_astore_n (lv' := [(2, .ref q9), (0, .ref (gad Γ 475)), (1, .int a)]) hx hb dL_tryRestore_10 rfl hl (by decide) rfl (fun ls hl => ?_)
  refine lv_ldc hx hb hown (hts (Cond.constant RL 26 (-9999003)) (by decide +kernel)) dL_tryRestore_11 ?_
  exact vx_ret (g_iret hx hb hrt hlocks hS hG rfl rfl dL_tryRestore_13)
