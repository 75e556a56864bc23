/-! THE LAW: its wrappers. Laid by gen/q28.py. -/
set_option maxHeartbeats 4000000 in
set_option maxRecDepth 100000 in
theorem wL_tryScript {l : Launch} {Γ : gX} (h475 : 475 ∈ gcs Γ) {fr lo : Nat} (hfr : fr ≤ 8) (hlo : lo ≤ 140) {M M1 : Nat → Nat → Int32} {R R1 : Nat → Nat → Option Nat} {O : Int64} (a : Int32) (d : Int64) {v : Int32} (hM : gMet l Γ yX6_runScript wsX6_runScript fr lo [.ref (gad Γ 475), .int a, .long d] M R O (some (.int v)) M1 R1 O) : gWrp l Γ yL_tryScript wsL_tryScript 9 180 [.ref (gad Γ 475), .int a, .long d] M R O (some (.int v)) M1 R1 O := by
  refine g_startW (cc := cL_tryScript) (maxL := 5) (ret := (some .int)) (hh := [(0, 6, 7, 13)]) (by decide) rfl (Nat.le_of_ble_eq_true rfl) ?_
  intro p e s m below meth c ls hx hb hml hrt hts hown hlocks hname hK hZ hG hS hl hX hY hnx
  have hl : lv_has ls 5 [(0, .ref (gad Γ 475)), (1, .int a), (2, .long d)] := hl
  have hown : s.vm.findClass RL = some m.cls := hown
  have hF : CallFix p m c cL_tryScript 5 s _ wsL_tryScript RL := ⟨hx, hb, hml, hown, hts⟩
  refine lv_aload_n hx hb dL_tryScript_0 rfl (lv_at hl 0 rfl) ?_
  refine lv_iload_n hx hb dL_tryScript_1 rfl (lv_at hl 1 rfl) ?_
  refine lv_lload_n hx hb dL_tryScript_2 rfl (lv_at hl 2 rfl) ?_
  refine g_callV (As := [.int a, .long d]) (rest := []) (st1 := [.int v]) hF hM (cwV 2 hts gL_tryScript_X6_runScript rfl rfl rfl (by decide +kernel) ⟨(by show fr + 1 ≤ 9; omega), (by show 8 + (_ + 11) + lo ≤ 180; omega)⟩) hK hZ hG hS h475 (show gC 475 = (6, 32, 0) from rfl) (by decide) rfl rfl hl.1 (Nat.le_of_ble_eq_true rfl) dL_tryScript_3 ⟨Nat.zero_le _, Nat.zero_le _⟩ rfl rfl (fun H locs hG hS => ?_)
  refine W.widen (k := 1) (n := 6) (by decide) (by decide) ?_
  exact vx_ret (g_iret hx hb hrt hlocks hS hG rfl rfl dL_tryScript_6)
set_option maxHeartbeats 4000000 in
set_option maxRecDepth 100000 in
theorem wL_tryScript_t1 {l : Launch} {Γ : gX} (h475 : 475 ∈ gcs Γ) {fr lo : Nat} (hfr : fr ≤ 8) (hlo : lo ≤ 140) {M M1 : Nat → Nat → Int32} {R R1 : Nat → Nat → Option Nat} {O : Int64} (a : Int32) (d : Int64) (hM : gThr l Γ yX6_runScript wsX6_runScript fr lo [.ref (gad Γ 475), .int a, .long d] M R O "java/lang/IllegalArgumentException" M1 R1 O) : gWrp l Γ yL_tryScript wsL_tryScript 9 180 [.ref (gad Γ 475), .int a, .long d] M R O (some (.int (-9999002))) M1 R1 O := by
  refine g_startW (cc := cL_tryScript) (maxL := 5) (ret := (some .int)) (hh := [(0, 6, 7, 13)]) (by decide) rfl (Nat.le_of_ble_eq_true rfl) ?_
  intro p e s m below meth c ls hx hb hml hrt hts hown hlocks hname hK hZ hG hS hl hX hY hnx
  have hl : lv_has ls 5 [(0, .ref (gad Γ 475)), (1, .int a), (2, .long d)] := hl
  have hown : s.vm.findClass RL = some m.cls := hown
  have hF : CallFix p m c cL_tryScript 5 s _ wsL_tryScript RL := ⟨hx, hb, hml, hown, hts⟩
  refine lv_aload_n hx hb dL_tryScript_0 rfl (lv_at hl 0 rfl) ?_
  refine lv_iload_n hx hb dL_tryScript_1 rfl (lv_at hl 1 rfl) ?_
  refine lv_lload_n hx hb dL_tryScript_2 rfl (lv_at hl 2 rfl) ?_
  refine g_xVc (As := [.int a, .long d]) (rest := []) hF hM (cwV 2 hts gL_tryScript_X6_runScript rfl rfl rfl (by decide +kernel) ⟨(by show fr + 1 ≤ 9; omega), (by show 8 + (_ + 11) + lo ≤ 180; omega)⟩) hK hZ hX hG hS h475 (show gC 475 = (6, 32, 0) from rfl) (by decide) rfl rfl hl.1 (Nat.le_of_ble_eq_true rfl) dL_tryScript_3 ⟨Nat.le_of_ble_eq_true rfl, Nat.le_of_ble_eq_true rfl⟩ rfl (fun ce q9 H locs hG hS hce hcv hcl => ?_)
  refine vx_catch (name := "java/lang/IllegalArgumentException") hown [] ⟨0, 6, 7, 13⟩ [] (by rw [hnx]; rfl) (fun _ h => absurd h List.not_mem_nil) (by decide) (by decide) (hts (Cond.classLink RL 13 "java/lang/IllegalArgumentException") (by decide +kernel)) (gx_cast hX (by decide +kernel)) hce hcv hcl ?_
  refine lv_astore (lv' := [(4, .ref q9), (0, .ref (gad Γ 475)), (1, .int a), (2, .long d)]) hx hb dL_tryScript_7 hl (by decide) rfl (fun ls hl => ?_)
  refine lv_ldc hx hb hown (hts (Cond.constant RL 15 (-9999002)) (by decide +kernel)) dL_tryScript_9 ?_
  exact vx_ret (g_iret hx hb hrt hlocks hS hG rfl rfl dL_tryScript_11)
set_option maxHeartbeats 4000000 in
set_option maxRecDepth 100000 in
theorem wL_trySimulate {l : Launch} {Γ : gX} (h475 : 475 ∈ gcs Γ) {fr lo : Nat} (hfr : fr ≤ 8) (hlo : lo ≤ 140) {M M1 : Nat → Nat → Int32} {R R1 : Nat → Nat → Option Nat} {O : Int64} (a : Int64) (d : Int32) {v : Int32} (hM : gMet l Γ yX6_simulate wsX6_simulate fr lo [.ref (gad Γ 475), .long a, .int d] M R O (some (.int v)) M1 R1 O) : gWrp l Γ yL_trySimulate wsL_trySimulate 9 180 [.ref (gad Γ 475), .long a, .int d] M R O (some (.int v)) M1 R1 O := by
  refine g_startW (cc := cL_trySimulate) (maxL := 5) (ret := (some .int)) (hh := [(0, 6, 7, 13)]) (by decide) rfl (Nat.le_of_ble_eq_true rfl) ?_
  intro p e s m below meth c ls hx hb hml hrt hts hown hlocks hname hK hZ hG hS hl hX hY hnx
  have hl : lv_has ls 5 [(0, .ref (gad Γ 475)), (1, .long a), (3, .int d)] := hl
  have hown : s.vm.findClass RL = some m.cls := hown
  have hF : CallFix p m c cL_trySimulate 5 s _ wsL_trySimulate RL := ⟨hx, hb, hml, hown, hts⟩
  refine lv_aload_n hx hb dL_trySimulate_0 rfl (lv_at hl 0 rfl) ?_
  refine lv_lload_n hx hb dL_trySimulate_1 rfl (lv_at hl 1 rfl) ?_
  refine lv_iload_n hx hb dL_trySimulate_2 rfl (lv_at hl 2 rfl) ?_
  refine g_callV (As := [.long a, .int d]) (rest := []) (st1 := [.int v]) hF hM (cwV 2 hts gL_trySimulate_X6_simulate rfl rfl rfl (by decide +kernel) ⟨(by show fr + 1 ≤ 9; omega), (by show 8 + (_ + 11) + lo ≤ 180; omega)⟩) hK hZ hG hS h475 (show gC 475 = (6, 32, 0) from rfl) (by decide) rfl rfl hl.1 (Nat.le_of_ble_eq_true rfl) dL_trySimulate_3 ⟨Nat.zero_le _, Nat.zero_le _⟩ rfl rfl (fun H locs hG hS => ?_)
  refine W.widen (k := 1) (n := 6) (by decide) (by decide) ?_
  exact vx_ret (g_iret hx hb hrt hlocks hS hG rfl rfl dL_trySimulate_6)
set_option maxHeartbeats 4000000 in
set_option maxRecDepth 100000 in
theorem wL_trySimulate_t1 {l : Launch} {Γ : gX} (h475 : 475 ∈ gcs Γ) {fr lo : Nat} (hfr : fr ≤ 8) (hlo : lo ≤ 140) {M M1 : Nat → Nat → Int32} {R R1 : Nat → Nat → Option Nat} {O : Int64} (a : Int64) (d : Int32) (hM : gThr l Γ yX6_simulate wsX6_simulate fr lo [.ref (gad Γ 475), .long a, .int d] M R O "java/lang/IllegalArgumentException" M1 R1 O) : gWrp l Γ yL_trySimulate wsL_trySimulate 9 180 [.ref (gad Γ 475), .long a, .int d] M R O (some (.int (-9999002))) M1 R1 O := by
  refine g_startW (cc := cL_trySimulate) (maxL := 5) (ret := (some .int)) (hh := [(0, 6, 7, 13)]) (by decide) rfl (Nat.le_of_ble_eq_true rfl) ?_
  intro p e s m below meth c ls hx hb hml hrt hts hown hlocks hname hK hZ hG hS hl hX hY hnx
  have hl : lv_has ls 5 [(0, .ref (gad Γ 475)), (1, .long a), (3, .int d)] := hl
  have hown : s.vm.findClass RL = some m.cls := hown
  have hF : CallFix p m c cL_trySimulate 5 s _ wsL_trySimulate RL := ⟨hx, hb, hml, hown, hts⟩
  refine lv_aload_n hx hb dL_trySimulate_0 rfl (lv_at hl 0 rfl) ?_
  refine lv_lload_n hx hb dL_trySimulate_1 rfl (lv_at hl 1 rfl) ?_
  refine lv_iload_n hx hb dL_trySimulate_2 rfl (lv_at hl 2 rfl) ?_
  refine g_xVc (As := [.long a, .int d]) (rest := []) hF hM (cwV 2 hts gL_trySimulate_X6_simulate rfl rfl rfl (by decide +kernel) ⟨(by show fr + 1 ≤ 9; omega), (by show 8 + (_ + 11) + lo ≤ 180; omega)⟩) hK hZ hX hG hS h475 (show gC 475 = (6, 32, 0) from rfl) (by decide) rfl rfl hl.1 (Nat.le_of_ble_eq_true rfl) dL_trySimulate_3 ⟨Nat.le_of_ble_eq_true rfl, Nat.le_of_ble_eq_true rfl⟩ rfl (fun ce q9 H locs hG hS hce hcv hcl => ?_)
  refine vx_catch (name := "java/lang/IllegalArgumentException") hown [] ⟨0, 6, 7, 13⟩ [] (by rw [hnx]; rfl) (fun _ h => absurd h List.not_mem_nil) (by decide) (by decide) (hts (Cond.classLink RL 13 "java/lang/IllegalArgumentException") (by decide +kernel)) (gx_cast hX (by decide +kernel)) hce hcv hcl ?_
  refine lv_astore (lv' := [(4, .ref q9), (0, .ref (gad Γ 475)), (1, .long a), (3, .int d)]) hx hb dL_trySimulate_7 hl (by decide) rfl (fun ls hl => ?_)
  refine lv_ldc hx hb hown (hts (Cond.constant RL 15 (-9999002)) (by decide +kernel)) dL_trySimulate_9 ?_
  exact vx_ret (g_iret hx hb hrt hlocks hS hG rfl rfl dL_trySimulate_11)
set_option maxHeartbeats 4000000 in
set_option maxRecDepth 100000 in
theorem wL_tryAppend {l : Launch} {Γ : gX} (h475 : 475 ∈ gcs Γ) {fr lo : Nat} (hfr : fr ≤ 8) (hlo : lo ≤ 140) {M M1 : Nat → Nat → Int32} {R R1 : Nat → Nat → Option Nat} {O : Int64} (a : Int32) {v : Int32} (hM : gMet l Γ yX6_append wsX6_append fr lo [.ref (gad Γ 475), .int a] M R O (some (.int v)) M1 R1 O) : gWrp l Γ yL_tryAppend wsL_tryAppend 9 180 [.ref (gad Γ 475), .int a] M R O (some (.int v)) M1 R1 O := by
  refine g_startW (cc := cL_tryAppend) (maxL := 3) (ret := (some .int)) (hh := [(0, 5, 6, 13), (0, 5, 10, 24)]) (by decide) rfl (Nat.le_of_ble_eq_true rfl) ?_
  intro p e s m below meth c ls hx hb hml hrt hts hown hlocks hname hK hZ hG hS hl hX hY hnx
  have hl : lv_has ls 3 [(0, .ref (gad Γ 475)), (1, .int a)] := hl
  have hown : s.vm.findClass RL = some m.cls := hown
  have hF : CallFix p m c cL_tryAppend 3 s _ wsL_tryAppend RL := ⟨hx, hb, hml, hown, hts⟩
  refine lv_aload_n hx hb dL_tryAppend_0 rfl (lv_at hl 0 rfl) ?_
  refine lv_iload_n hx hb dL_tryAppend_1 rfl (lv_at hl 1 rfl) ?_
  refine g_callV (As := [.int a]) (rest := []) (st1 := [.int v]) hF hM (cwV 1 hts gL_tryAppend_X6_append rfl rfl rfl (by decide +kernel) ⟨(by show fr + 1 ≤ 9; omega), (by show 8 + (_ + 11) + lo ≤ 180; omega)⟩) hK hZ hG hS h475 (show gC 475 = (6, 32, 0) from rfl) (by decide) rfl rfl hl.1 (Nat.le_of_ble_eq_true rfl) dL_tryAppend_2 ⟨Nat.zero_le _, Nat.zero_le _⟩ rfl rfl (fun H locs hG hS => ?_)
  refine W.widen (k := 1) (n := 6) (by decide) (by decide) ?_
  exact vx_ret (g_iret hx hb hrt hlocks hS hG rfl rfl dL_tryAppend_5)
set_option maxHeartbeats 4000000 in
set_option maxRecDepth 100000 in
theorem wL_tryAppend_t1 {l : Launch} {Γ : gX} (h475 : 475 ∈ gcs Γ) {fr lo : Nat} (hfr : fr ≤ 8) (hlo : lo ≤ 140) {M M1 : Nat → Nat → Int32} {R R1 : Nat → Nat → Option Nat} {O : Int64} (a : Int32) (hM : gThr l Γ yX6_append wsX6_append fr lo [.ref (gad Γ 475), .int a] M R O "java/lang/IllegalArgumentException" M1 R1 O) : gWrp l Γ yL_tryAppend wsL_tryAppend 9 180 [.ref (gad Γ 475), .int a] M R O (some (.int (-9999002))) M1 R1 O := by
  refine g_startW (cc := cL_tryAppend) (maxL := 3) (ret := (some .int)) (hh := [(0, 5, 6, 13), (0, 5, 10, 24)]) (by decide) rfl (Nat.le_of_ble_eq_true rfl) ?_
  intro p e s m below meth c ls hx hb hml hrt hts hown hlocks hname hK hZ hG hS hl hX hY hnx
  have hl : lv_has ls 3 [(0, .ref (gad Γ 475)), (1, .int a)] := hl
  have hown : s.vm.findClass RL = some m.cls := hown
  have hF : CallFix p m c cL_tryAppend 3 s _ wsL_tryAppend RL := ⟨hx, hb, hml, hown, hts⟩
  refine lv_aload_n hx hb dL_tryAppend_0 rfl (lv_at hl 0 rfl) ?_
  refine lv_iload_n hx hb dL_tryAppend_1 rfl (lv_at hl 1 rfl) ?_
  refine g_xVc (As := [.int a]) (rest := []) hF hM (cwV 1 hts gL_tryAppend_X6_append rfl rfl rfl (by decide +kernel) ⟨(by show fr + 1 ≤ 9; omega), (by show 8 + (_ + 11) + lo ≤ 180; omega)⟩) hK hZ hX hG hS h475 (show gC 475 = (6, 32, 0) from rfl) (by decide) rfl rfl hl.1 (Nat.le_of_ble_eq_true rfl) dL_tryAppend_2 ⟨Nat.le_of_ble_eq_true rfl, Nat.le_of_ble_eq_true rfl⟩ rfl (fun ce q9 H locs hG hS hce hcv hcl => ?_)
  refine vx_catch (name := "java/lang/IllegalArgumentException") hown [] ⟨0, 5, 6, 13⟩ [⟨0, 5, 10, 24⟩] (by rw [hnx]; rfl) (fun _ h => absurd h List.not_mem_nil) (by decide) (by decide) (hts (Cond.classLink RL 13 "java/lang/IllegalArgumentException") (by decide +kernel)) (gx_cast hX (by decide +kernel)) hce hcv hcl ?_
  refine lv_astore_n (lv' := [(2, .ref q9), (0, .ref (gad Γ 475)), (1, .int a)]) hx hb dL_tryAppend_6 rfl hl (by decide) rfl (fun ls hl => ?_)
  refine lv_ldc hx hb hown (hts (Cond.constant RL 15 (-9999002)) (by decide +kernel)) dL_tryAppend_7 ?_
  exact vx_ret (g_iret hx hb hrt hlocks hS hG rfl rfl dL_tryAppend_9)
set_option maxHeartbeats 4000000 in
set_option maxRecDepth 100000 in
theorem wL_tryAppend_t2 {l : Launch} {Γ : gX} (h475 : 475 ∈ gcs Γ) {fr lo : Nat} (hfr : fr ≤ 8) (hlo : lo ≤ 140) {M M1 : Nat → Nat → Int32} {R R1 : Nat → Nat → Option Nat} {O : Int64} (a : Int32) (hM : gThr l Γ yX6_append wsX6_append fr lo [.ref (gad Γ 475), .int a] M R O "java/lang/IllegalStateException" M1 R1 O) : gWrp l Γ yL_tryAppend wsL_tryAppend 9 180 [.ref (gad Γ 475), .int a] M R O (some (.int (-9999003))) M1 R1 O := by
  refine g_startW (cc := cL_tryAppend) (maxL := 3) (ret := (some .int)) (hh := [(0, 5, 6, 13), (0, 5, 10, 24)]) (by decide) rfl (Nat.le_of_ble_eq_true rfl) ?_
  intro p e s m below meth c ls hx hb hml hrt hts hown hlocks hname hK hZ hG hS hl hX hY hnx
  have hl : lv_has ls 3 [(0, .ref (gad Γ 475)), (1, .int a)] := hl
  have hown : s.vm.findClass RL = some m.cls := hown
  have hF : CallFix p m c cL_tryAppend 3 s _ wsL_tryAppend RL := ⟨hx, hb, hml, hown, hts⟩
  refine lv_aload_n hx hb dL_tryAppend_0 rfl (lv_at hl 0 rfl) ?_
  refine lv_iload_n hx hb dL_tryAppend_1 rfl (lv_at hl 1 rfl) ?_
  refine g_xVc (As := [.int a]) (rest := []) hF hM (cwV 1 hts gL_tryAppend_X6_append rfl rfl rfl (by decide +kernel) ⟨(by show fr + 1 ≤ 9; omega), (by show 8 + (_ + 11) + lo ≤ 180; omega)⟩) hK hZ hX hG hS h475 (show gC 475 = (6, 32, 0) from rfl) (by decide) rfl rfl hl.1 (Nat.le_of_ble_eq_true rfl) dL_tryAppend_2 ⟨Nat.le_of_ble_eq_true rfl, Nat.le_of_ble_eq_true rfl⟩ rfl (fun ce q9 H locs hG hS hce hcv hcl => ?_)
  refine vx_catch (name := "java/lang/IllegalStateException") hown [⟨0, 5, 6, 13⟩] ⟨0, 5, 10, 24⟩ [] (by rw [hnx]; rfl) (List.forall_mem_cons.mpr ⟨Or.inr ⟨by decide, "java/lang/IllegalArgumentException", hts (Cond.classLink RL 13 "java/lang/IllegalArgumentException") (by decide +kernel), hY.2.2⟩, (fun _ h => absurd h List.not_mem_nil)⟩) (by decide) (by decide) (hts (Cond.classLink RL 24 "java/lang/IllegalStateException") (by decide +kernel)) (gx_cast hX (by decide +kernel)) hce hcv hcl ?_
  refine lv_astore_n (lv' := [(2, .ref q9), (0, .ref (gad Γ 475)), (1, .int a)]) hx hb dL_tryAppend_10 rfl hl (by decide) rfl (fun ls hl => ?_)
  refine lv_ldc hx hb hown (hts (Cond.constant RL 26 (-9999003)) (by decide +kernel)) dL_tryAppend_11 ?_
  exact vx_ret (g_iret hx hb hrt hlocks hS hG rfl rfl dL_tryAppend_13)
set_option maxHeartbeats 4000000 in
set_option maxRecDepth 100000 in
theorem wL_tryLoad {l : Launch} {Γ : gX} (h475 : 475 ∈ gcs Γ) {fr lo : Nat} (hfr : fr ≤ 8) (hlo : lo ≤ 140) {M M1 : Nat → Nat → Int32} {R R1 : Nat → Nat → Option Nat} {O : Int64}  {v : Int32} (hM : gMet l Γ yX6_load wsX6_load fr lo [.ref (gad Γ 475)] M R O (some (.int v)) M1 R1 O) : gWrp l Γ yL_tryLoad wsL_tryLoad 9 180 [.ref (gad Γ 475)] M R O (some (.int v)) M1 R1 O := by
  refine g_startW (cc := cL_tryLoad) (maxL := 2) (ret := (some .int)) (hh := [(0, 4, 5, 24)]) (by decide) rfl (Nat.le_of_ble_eq_true rfl) ?_
  intro p e s m below meth c ls hx hb hml hrt hts hown hlocks hname hK hZ hG hS hl hX hY hnx
  have hl : lv_has ls 2 [(0, .ref (gad Γ 475))] := hl
  have hown : s.vm.findClass RL = some m.cls := hown
  have hF : CallFix p m c cL_tryLoad 2 s _ wsL_tryLoad RL := ⟨hx, hb, hml, hown, hts⟩
  refine lv_aload_n hx hb dL_tryLoad_0 rfl (lv_at hl 0 rfl) ?_
  refine g_callV (As := []) (rest := []) (st1 := [.int v]) hF hM (cwV 0 hts gL_tryLoad_X6_load rfl rfl rfl (by decide +kernel) ⟨(by show fr + 1 ≤ 9; omega), (by show 8 + (_ + 11) + lo ≤ 180; omega)⟩) hK hZ hG hS h475 (show gC 475 = (6, 32, 0) from rfl) (by decide) rfl rfl hl.1 (Nat.le_of_ble_eq_true rfl) dL_tryLoad_1 ⟨Nat.zero_le _, Nat.zero_le _⟩ rfl rfl (fun H locs hG hS => ?_)
  refine W.widen (k := 1) (n := 6) (by decide) (by decide) ?_
  exact vx_ret (g_iret hx hb hrt hlocks hS hG rfl rfl dL_tryLoad_4)
set_option maxHeartbeats 4000000 in
set_option maxRecDepth 100000 in
theorem wL_tryLoad_t1 {l : Launch} {Γ : gX} (h475 : 475 ∈ gcs Γ) {fr lo : Nat} (hfr : fr ≤ 8) (hlo : lo ≤ 140) {M M1 : Nat → Nat → Int32} {R R1 : Nat → Nat → Option Nat} {O : Int64}  (hM : gThr l Γ yX6_load wsX6_load fr lo [.ref (gad Γ 475)] M R O "java/lang/IllegalStateException" M1 R1 O) : gWrp l Γ yL_tryLoad wsL_tryLoad 9 180 [.ref (gad Γ 475)] M R O (some (.int (-9999003))) M1 R1 O := by
  refine g_startW (cc := cL_tryLoad) (maxL := 2) (ret := (some .int)) (hh := [(0, 4, 5, 24)]) (by decide) rfl (Nat.le_of_ble_eq_true rfl) ?_
  intro p e s m below meth c ls hx hb hml hrt hts hown hlocks hname hK hZ hG hS hl hX hY hnx
  have hl : lv_has ls 2 [(0, .ref (gad Γ 475))] := hl
  have hown : s.vm.findClass RL = some m.cls := hown
  have hF : CallFix p m c cL_tryLoad 2 s _ wsL_tryLoad RL := ⟨hx, hb, hml, hown, hts⟩
  refine lv_aload_n hx hb dL_tryLoad_0 rfl (lv_at hl 0 rfl) ?_
  refine g_xVc (As := []) (rest := []) hF hM (cwV 0 hts gL_tryLoad_X6_load rfl rfl rfl (by decide +kernel) ⟨(by show fr + 1 ≤ 9; omega), (by show 8 + (_ + 11) + lo ≤ 180; omega)⟩) hK hZ hX hG hS h475 (show gC 475 = (6, 32, 0) from rfl) (by decide) rfl rfl hl.1 (Nat.le_of_ble_eq_true rfl) dL_tryLoad_1 ⟨Nat.le_of_ble_eq_true rfl, Nat.le_of_ble_eq_true rfl⟩ rfl (fun ce q9 H locs hG hS hce hcv hcl => ?_)
  refine vx_catch (name := "java/lang/IllegalStateException") hown [] ⟨0, 4, 5, 24⟩ [] (by rw [hnx]; rfl) (fun _ h => absurd h List.not_mem_nil) (by decide) (by decide) (hts (Cond.classLink RL 24 "java/lang/IllegalStateException") (by decide +kernel)) (gx_cast hX (by decide +kernel)) hce hcv hcl ?_
  refine lv_astore_n (lv' := [(1, .ref q9), (0, .ref (gad Γ 475))]) hx hb dL_tryLoad_5 rfl hl (by decide) rfl (fun ls hl => ?_)
  refine lv_ldc hx hb hown (hts (Cond.constant RL 26 (-9999003)) (by decide +kernel)) dL_tryLoad_6 ?_
  exact vx_ret (g_iret hx hb hrt hlocks hS hG rfl rfl dL_tryLoad_8)
set_option maxHeartbeats 4000000 in
set_option maxRecDepth 100000 in
theorem wL_tryAbout {l : Launch} {Γ : gX} (h475 : 475 ∈ gcs Γ) {fr lo : Nat} (hfr : fr ≤ 8) (hlo : lo ≤ 140) {M M1 : Nat → Nat → Int32} {R R1 : Nat → Nat → Option Nat} {O : Int64} (a : Int32) {v : Int32} (hM : gMet l Γ yX6_about wsX6_about fr lo [.ref (gad Γ 475), .int a] M R O (some (.int v)) M1 R1 O) : gWrp l Γ yL_tryAbout wsL_tryAbout 9 180 [.ref (gad Γ 475), .int a] M R O (some (.int v)) M1 R1 O := by
  refine g_startW (cc := cL_tryAbout) (maxL := 3) (ret := (some .int)) (hh := [(0, 5, 6, 13)]) (by decide) rfl (Nat.le_of_ble_eq_true rfl) ?_
  intro p e s m below meth c ls hx hb hml hrt hts hown hlocks hname hK hZ hG hS hl hX hY hnx
  have hl : lv_has ls 3 [(0, .ref (gad Γ 475)), (1, .int a)] := hl
  have hown : s.vm.findClass RL = some m.cls := hown
  have hF : CallFix p m c cL_tryAbout 3 s _ wsL_tryAbout RL := ⟨hx, hb, hml, hown, hts⟩
  refine lv_aload_n hx hb dL_tryAbout_0 rfl (lv_at hl 0 rfl) ?_
  refine lv_iload_n hx hb dL_tryAbout_1 rfl (lv_at hl 1 rfl) ?_
  refine g_callV (As := [.int a]) (rest := []) (st1 := [.int v]) hF hM (cwV 1 hts gL_tryAbout_X6_about rfl rfl rfl (by decide +kernel) ⟨(by show fr + 1 ≤ 9; omega), (by show 8 + (_ + 11) + lo ≤ 180; omega)⟩) hK hZ hG hS h475 (show gC 475 = (6, 32, 0) from rfl) (by decide) rfl rfl hl.1 (Nat.le_of_ble_eq_true rfl) dL_tryAbout_2 ⟨Nat.zero_le _, Nat.zero_le _⟩ rfl rfl (fun H locs hG hS => ?_)
  refine W.widen (k := 1) (n := 6) (by decide) (by decide) ?_
  exact vx_ret (g_iret hx hb hrt hlocks hS hG rfl rfl dL_tryAbout_5)
set_option maxHeartbeats 4000000 in
set_option maxRecDepth 100000 in
theorem wL_tryAbout_t1 {l : Launch} {Γ : gX} (h475 : 475 ∈ gcs Γ) {fr lo : Nat} (hfr : fr ≤ 8) (hlo : lo ≤ 140) {M M1 : Nat → Nat → Int32} {R R1 : Nat → Nat → Option Nat} {O : Int64} (a : Int32) (hM : gThr l Γ yX6_about wsX6_about fr lo [.ref (gad Γ 475), .int a] M R O "java/lang/IllegalArgumentException" M1 R1 O) : gWrp l Γ yL_tryAbout wsL_tryAbout 9 180 [.ref (gad Γ 475), .int a] M R O (some (.int (-9999002))) M1 R1 O := by
  refine g_startW (cc := cL_tryAbout) (maxL := 3) (ret := (some .int)) (hh := [(0, 5, 6, 13)]) (by decide) rfl (Nat.le_of_ble_eq_true rfl) ?_
  intro p e s m below meth c ls hx hb hml hrt hts hown hlocks hname hK hZ hG hS hl hX hY hnx
  have hl : lv_has ls 3 [(0, .ref (gad Γ 475)), (1, .int a)] := hl
  have hown : s.vm.findClass RL = some m.cls := hown
  have hF : CallFix p m c cL_tryAbout 3 s _ wsL_tryAbout RL := ⟨hx, hb, hml, hown, hts⟩
  refine lv_aload_n hx hb dL_tryAbout_0 rfl (lv_at hl 0 rfl) ?_
  refine lv_iload_n hx hb dL_tryAbout_1 rfl (lv_at hl 1 rfl) ?_
  refine g_xVc (As := [.int a]) (rest := []) hF hM (cwV 1 hts gL_tryAbout_X6_about rfl rfl rfl (by decide +kernel) ⟨(by show fr + 1 ≤ 9; omega), (by show 8 + (_ + 11) + lo ≤ 180; omega)⟩) hK hZ hX hG hS h475 (show gC 475 = (6, 32, 0) from rfl) (by decide) rfl rfl hl.1 (Nat.le_of_ble_eq_true rfl) dL_tryAbout_2 ⟨Nat.le_of_ble_eq_true rfl, Nat.le_of_ble_eq_true rfl⟩ rfl (fun ce q9 H locs hG hS hce hcv hcl => ?_)
  refine vx_catch (name := "java/lang/IllegalArgumentException") hown [] ⟨0, 5, 6, 13⟩ [] (by rw [hnx]; rfl) (fun _ h => absurd h List.not_mem_nil) (by decide) (by decide) (hts (Cond.classLink RL 13 "java/lang/IllegalArgumentException") (by decide +kernel)) (gx_cast hX (by decide +kernel)) hce hcv hcl ?_
  refine lv_astore_n (lv' := [(2, .ref q9), (0, .ref (gad Γ 475)), (1, .int a)]) hx hb dL_tryAbout_6 rfl hl (by decide) rfl (fun ls hl => ?_)
  refine lv_ldc hx hb hown (hts (Cond.constant RL 15 (-9999002)) (by decide +kernel)) dL_tryAbout_7 ?_
  exact vx_ret (g_iret hx hb hrt hlocks hS hG rfl rfl dL_tryAbout_9)
set_option maxHeartbeats 4000000 in
set_option maxRecDepth 100000 in
theorem wL_trySegment {l : Launch} {Γ : gX} (h475 : 475 ∈ gcs Γ) {fr lo : Nat} (hfr : fr ≤ 8) (hlo : lo ≤ 140) {M M1 : Nat → Nat → Int32} {R R1 : Nat → Nat → Option Nat} {O : Int64} (a : Int32) (d : Int32) {v : Int32} (hM : gMet l Γ yX6_segment wsX6_segment fr lo [.ref (gad Γ 475), .int a, .int d] M R O (some (.int v)) M1 R1 O) : gWrp l Γ yL_trySegment wsL_trySegment 9 180 [.ref (gad Γ 475), .int a, .int d] M R O (some (.int v)) M1 R1 O := by
  refine g_startW (cc := cL_trySegment) (maxL := 4) (ret := (some .int)) (hh := [(0, 6, 7, 38), (0, 6, 11, 13)]) (by decide) rfl (Nat.le_of_ble_eq_true rfl) ?_
  intro p e s m below meth c ls hx hb hml hrt hts hown hlocks hname hK hZ hG hS hl hX hY hnx
  have hl : lv_has ls 4 [(0, .ref (gad Γ 475)), (1, .int a), (2, .int d)] := hl
  have hown : s.vm.findClass RL = some m.cls := hown
  have hF : CallFix p m c cL_trySegment 4 s _ wsL_trySegment RL := ⟨hx, hb, hml, hown, hts⟩
  refine lv_aload_n hx hb dL_trySegment_0 rfl (lv_at hl 0 rfl) ?_
  refine lv_iload_n hx hb dL_trySegment_1 rfl (lv_at hl 1 rfl) ?_
  refine lv_iload_n hx hb dL_trySegment_2 rfl (lv_at hl 2 rfl) ?_
  refine g_callV (As := [.int a, .int d]) (rest := []) (st1 := [.int v]) hF hM (cwV 2 hts gL_trySegment_X6_segment rfl rfl rfl (by decide +kernel) ⟨(by show fr + 1 ≤ 9; omega), (by show 8 + (_ + 11) + lo ≤ 180; omega)⟩) hK hZ hG hS h475 (show gC 475 = (6, 32, 0) from rfl) (by decide) rfl rfl hl.1 (Nat.le_of_ble_eq_true rfl) dL_trySegment_3 ⟨Nat.zero_le _, Nat.zero_le _⟩ rfl rfl (fun H locs hG hS => ?_)
  refine W.widen (k := 1) (n := 6) (by decide) (by decide) ?_
  exact vx_ret (g_iret hx hb hrt hlocks hS hG rfl rfl dL_trySegment_6)
set_option maxHeartbeats 4000000 in
set_option maxRecDepth 100000 in
theorem wL_trySegment_t1 {l : Launch} {Γ : gX} (h475 : 475 ∈ gcs Γ) {fr lo : Nat} (hfr : fr ≤ 8) (hlo : lo ≤ 140) {M M1 : Nat → Nat → Int32} {R R1 : Nat → Nat → Option Nat} {O : Int64} (a : Int32) (d : Int32) (hM : gThr l Γ yX6_segment wsX6_segment fr lo [.ref (gad Γ 475), .int a, .int d] M R O "java/lang/IndexOutOfBoundsException" M1 R1 O) : gWrp l Γ yL_trySegment wsL_trySegment 9 180 [.ref (gad Γ 475), .int a, .int d] M R O (some (.int (-9999001))) M1 R1 O := by
  refine g_startW (cc := cL_trySegment) (maxL := 4) (ret := (some .int)) (hh := [(0, 6, 7, 38), (0, 6, 11, 13)]) (by decide) rfl (Nat.le_of_ble_eq_true rfl) ?_
  intro p e s m below meth c ls hx hb hml hrt hts hown hlocks hname hK hZ hG hS hl hX hY hnx
  have hl : lv_has ls 4 [(0, .ref (gad Γ 475)), (1, .int a), (2, .int d)] := hl
  have hown : s.vm.findClass RL = some m.cls := hown
  have hF : CallFix p m c cL_trySegment 4 s _ wsL_trySegment RL := ⟨hx, hb, hml, hown, hts⟩
  refine lv_aload_n hx hb dL_trySegment_0 rfl (lv_at hl 0 rfl) ?_
  refine lv_iload_n hx hb dL_trySegment_1 rfl (lv_at hl 1 rfl) ?_
  refine lv_iload_n hx hb dL_trySegment_2 rfl (lv_at hl 2 rfl) ?_
  refine g_xVc (As := [.int a, .int d]) (rest := []) hF hM (cwV 2 hts gL_trySegment_X6_segment rfl rfl rfl (by decide +kernel) ⟨(by show fr + 1 ≤ 9; omega), (by show 8 + (_ + 11) + lo ≤ 180; omega)⟩) hK hZ hX hG hS h475 (show gC 475 = (6, 32, 0) from rfl) (by decide) rfl rfl hl.1 (Nat.le_of_ble_eq_true rfl) dL_trySegment_3 ⟨Nat.le_of_ble_eq_true rfl, Nat.le_of_ble_eq_true rfl⟩ rfl (fun ce q9 H locs hG hS hce hcv hcl => ?_)
  refine vx_catch (name := "java/lang/IndexOutOfBoundsException") hown [] ⟨0, 6, 7, 38⟩ [⟨0, 6, 11, 13⟩] (by rw [hnx]; rfl) (fun _ h => absurd h List.not_mem_nil) (by decide) (by decide) (hts (Cond.classLink RL 38 "java/lang/IndexOutOfBoundsException") (by decide +kernel)) (gx_cast hX (by decide +kernel)) hce hcv hcl ?_
  refine lv_astore_n (lv' := [(3, .ref q9), (0, .ref (gad Γ 475)), (1, .int a), (2, .int d)]) hx hb dL_trySegment_7 rfl hl (by decide) rfl (fun ls hl => ?_)
  refine lv_ldc hx hb hown (hts (Cond.constant RL 40 (-9999001)) (by decide +kernel)) dL_trySegment_8 ?_
  exact vx_ret (g_iret hx hb hrt hlocks hS hG rfl rfl dL_trySegment_10)
set_option maxHeartbeats 4000000 in
set_option maxRecDepth 100000 in
theorem wL_trySegment_t2 {l : Launch} {Γ : gX} (h475 : 475 ∈ gcs Γ) {fr lo : Nat} (hfr : fr ≤ 8) (hlo : lo ≤ 140) {M M1 : Nat → Nat → Int32} {R R1 : Nat → Nat → Option Nat} {O : Int64} (a : Int32) (d : Int32) (hM : gThr l Γ yX6_segment wsX6_segment fr lo [.ref (gad Γ 475), .int a, .int d] M R O "java/lang/IllegalArgumentException" M1 R1 O) : gWrp l Γ yL_trySegment wsL_trySegment 9 180 [.ref (gad Γ 475), .int a, .int d] M R O (some (.int (-9999002))) M1 R1 O := by
  refine g_startW (cc := cL_trySegment) (maxL := 4) (ret := (some .int)) (hh := [(0, 6, 7, 38), (0, 6, 11, 13)]) (by decide) rfl (Nat.le_of_ble_eq_true rfl) ?_
  intro p e s m below meth c ls hx hb hml hrt hts hown hlocks hname hK hZ hG hS hl hX hY hnx
  have hl : lv_has ls 4 [(0, .ref (gad Γ 475)), (1, .int a), (2, .int d)] := hl
  have hown : s.vm.findClass RL = some m.cls := hown
  have hF : CallFix p m c cL_trySegment 4 s _ wsL_trySegment RL := ⟨hx, hb, hml, hown, hts⟩
  refine lv_aload_n hx hb dL_trySegment_0 rfl (lv_at hl 0 rfl) ?_
  refine lv_iload_n hx hb dL_trySegment_1 rfl (lv_at hl 1 rfl) ?_
  refine lv_iload_n hx hb dL_trySegment_2 rfl (lv_at hl 2 rfl) ?_
  refine g_xVc (As := [.int a, .int d]) (rest := []) hF hM (cwV 2 hts gL_trySegment_X6_segment rfl rfl rfl (by decide +kernel) ⟨(by show fr + 1 ≤ 9; omega), (by show 8 + (_ + 11) + lo ≤ 180; omega)⟩) hK hZ hX hG hS h475 (show gC 475 = (6, 32, 0) from rfl) (by decide) rfl rfl hl.1 (Nat.le_of_ble_eq_true rfl) dL_trySegment_3 ⟨Nat.le_of_ble_eq_true rfl, Nat.le_of_ble_eq_true rfl⟩ rfl (fun ce q9 H locs hG hS hce hcv hcl => ?_)
  refine vx_catch (name := "java/lang/IllegalArgumentException") hown [⟨0, 6, 7, 38⟩] ⟨0, 6, 11, 13⟩ [] (by rw [hnx]; rfl) (List.forall_mem_cons.mpr ⟨Or.inr ⟨by decide, "java/lang/IndexOutOfBoundsException", hts (Cond.classLink RL 38 "java/lang/IndexOutOfBoundsException") (by decide +kernel), hY.1⟩, (fun _ h => absurd h List.not_mem_nil)⟩) (by decide) (by decide) (hts (Cond.classLink RL 13 "java/lang/IllegalArgumentException") (by decide +kernel)) (gx_cast hX (by decide +kernel)) hce hcv hcl ?_
  refine lv_astore_n (lv' := [(3, .ref q9), (0, .ref (gad Γ 475)), (1, .int a), (2, .int d)]) hx hb dL_trySegment_11 rfl hl (by decide) rfl (fun ls hl => ?_)
  refine lv_ldc hx hb hown (hts (Cond.constant RL 15 (-9999002)) (by decide +kernel)) dL_trySegment_12 ?_
  exact vx_ret (g_iret hx hb hrt hlocks hS hG rfl rfl dL_trySegment_14)
set_option maxHeartbeats 4000000 in
set_option maxRecDepth 100000 in
theorem wL_tryHouse {l : Launch} {Γ : gX} (h475 : 475 ∈ gcs Γ) {fr lo : Nat} (hfr : fr ≤ 8) (hlo : lo ≤ 140) {M M1 : Nat → Nat → Int32} {R R1 : Nat → Nat → Option Nat} {O : Int64} (a : Int32) (d : Int32) {v : Int32} (hM : gMet l Γ yX6_house wsX6_house fr lo [.ref (gad Γ 475), .int a, .int d] M R O (some (.int v)) M1 R1 O) : gWrp l Γ yL_tryHouse wsL_tryHouse 9 180 [.ref (gad Γ 475), .int a, .int d] M R O (some (.int v)) M1 R1 O := by
  refine g_startW (cc := cL_tryHouse) (maxL := 4) (ret := (some .int)) (hh := [(0, 6, 7, 38), (0, 6, 11, 13)]) (by decide) rfl (Nat.le_of_ble_eq_true rfl) ?_
  intro p e s m below meth c ls hx hb hml hrt hts hown hlocks hname hK hZ hG hS hl hX hY hnx
  have hl : lv_has ls 4 [(0, .ref (gad Γ 475)), (1, .int a), (2, .int d)] := hl
  have hown : s.vm.findClass RL = some m.cls := hown
  have hF : CallFix p m c cL_tryHouse 4 s _ wsL_tryHouse RL := ⟨hx, hb, hml, hown, hts⟩
  refine lv_aload_n hx hb dL_tryHouse_0 rfl (lv_at hl 0 rfl) ?_
  refine lv_iload_n hx hb dL_tryHouse_1 rfl (lv_at hl 1 rfl) ?_
  refine lv_iload_n hx hb dL_tryHouse_2 rfl (lv_at hl 2 rfl) ?_
  refine g_callV (As := [.int a, .int d]) (rest := []) (st1 := [.int v]) hF hM (cwV 2 hts gL_tryHouse_X6_house rfl rfl rfl (by decide +kernel) ⟨(by show fr + 1 ≤ 9; omega), (by show 8 + (_ + 11) + lo ≤ 180; omega)⟩) hK hZ hG hS h475 (show gC 475 = (6, 32, 0) from rfl) (by decide) rfl rfl hl.1 (Nat.le_of_ble_eq_true rfl) dL_tryHouse_3 ⟨Nat.zero_le _, Nat.zero_le _⟩ rfl rfl (fun H locs hG hS => ?_)
  refine W.widen (k := 1) (n := 6) (by decide) (by decide) ?_
  exact vx_ret (g_iret hx hb hrt hlocks hS hG rfl rfl dL_tryHouse_6)
set_option maxHeartbeats 4000000 in
set_option maxRecDepth 100000 in
theorem wL_tryHouse_t1 {l : Launch} {Γ : gX} (h475 : 475 ∈ gcs Γ) {fr lo : Nat} (hfr : fr ≤ 8) (hlo : lo ≤ 140) {M M1 : Nat → Nat → Int32} {R R1 : Nat → Nat → Option Nat} {O : Int64} (a : Int32) (d : Int32) (hM : gThr l Γ yX6_house wsX6_house fr lo [.ref (gad Γ 475), .int a, .int d] M R O "java/lang/IndexOutOfBoundsException" M1 R1 O) : gWrp l Γ yL_tryHouse wsL_tryHouse 9 180 [.ref (gad Γ 475), .int a, .int d] M R O (some (.int (-9999001))) M1 R1 O := by
  refine g_startW (cc := cL_tryHouse) (maxL := 4) (ret := (some .int)) (hh := [(0, 6, 7, 38), (0, 6, 11, 13)]) (by decide) rfl (Nat.le_of_ble_eq_true rfl) ?_
  intro p e s m below meth c ls hx hb hml hrt hts hown hlocks hname hK hZ hG hS hl hX hY hnx
  have hl : lv_has ls 4 [(0, .ref (gad Γ 475)), (1, .int a), (2, .int d)] := hl
  have hown : s.vm.findClass RL = some m.cls := hown
  have hF : CallFix p m c cL_tryHouse 4 s _ wsL_tryHouse RL := ⟨hx, hb, hml, hown, hts⟩
  refine lv_aload_n hx hb dL_tryHouse_0 rfl (lv_at hl 0 rfl) ?_
  refine lv_iload_n hx hb dL_tryHouse_1 rfl (lv_at hl 1 rfl) ?_
  refine lv_iload_n hx hb dL_tryHouse_2 rfl (lv_at hl 2 rfl) ?_
  refine g_xVc (As := [.int a, .int d]) (rest := []) hF hM (cwV 2 hts gL_tryHouse_X6_house rfl rfl rfl (by decide +kernel) ⟨(by show fr + 1 ≤ 9; omega), (by show 8 + (_ + 11) + lo ≤ 180; omega)⟩) hK hZ hX hG hS h475 (show gC 475 = (6, 32, 0) from rfl) (by decide) rfl rfl hl.1 (Nat.le_of_ble_eq_true rfl) dL_tryHouse_3 ⟨Nat.le_of_ble_eq_true rfl, Nat.le_of_ble_eq_true rfl⟩ rfl (fun ce q9 H locs hG hS hce hcv hcl => ?_)
  refine vx_catch (name := "java/lang/IndexOutOfBoundsException") hown [] ⟨0, 6, 7, 38⟩ [⟨0, 6, 11, 13⟩] (by rw [hnx]; rfl) (fun _ h => absurd h List.not_mem_nil) (by decide) (by decide) (hts (Cond.classLink RL 38 "java/lang/IndexOutOfBoundsException") (by decide +kernel)) (gx_cast hX (by decide +kernel)) hce hcv hcl ?_
  refine lv_astore_n (lv' := [(3, .ref q9), (0, .ref (gad Γ 475)), (1, .int a), (2, .int d)]) hx hb dL_tryHouse_7 rfl hl (by decide) rfl (fun ls hl => ?_)
  refine lv_ldc hx hb hown (hts (Cond.constant RL 40 (-9999001)) (by decide +kernel)) dL_tryHouse_8 ?_
  exact vx_ret (g_iret hx hb hrt hlocks hS hG rfl rfl dL_tryHouse_10)
set_option maxHeartbeats 4000000 in
set_option maxRecDepth 100000 in
theorem wL_tryHouse_t2 {l : Launch} {Γ : gX} (h475 : 475 ∈ gcs Γ) {fr lo : Nat} (hfr : fr ≤ 8) (hlo : lo ≤ 140) {M M1 : Nat → Nat → Int32} {R R1 : Nat → Nat → Option Nat} {O : Int64} (a : Int32) (d : Int32) (hM : gThr l Γ yX6_house wsX6_house fr lo [.ref (gad Γ 475), .int a, .int d] M R O "java/lang/IllegalArgumentException" M1 R1 O) : gWrp l Γ yL_tryHouse wsL_tryHouse 9 180 [.ref (gad Γ 475), .int a, .int d] M R O (some (.int (-9999002))) M1 R1 O := by
  refine g_startW (cc := cL_tryHouse) (maxL := 4) (ret := (some .int)) (hh := [(0, 6, 7, 38), (0, 6, 11, 13)]) (by decide) rfl (Nat.le_of_ble_eq_true rfl) ?_
  intro p e s m below meth c ls hx hb hml hrt hts hown hlocks hname hK hZ hG hS hl hX hY hnx
  have hl : lv_has ls 4 [(0, .ref (gad Γ 475)), (1, .int a), (2, .int d)] := hl
  have hown : s.vm.findClass RL = some m.cls := hown
  have hF : CallFix p m c cL_tryHouse 4 s _ wsL_tryHouse RL := ⟨hx, hb, hml, hown, hts⟩
  refine lv_aload_n hx hb dL_tryHouse_0 rfl (lv_at hl 0 rfl) ?_
  refine lv_iload_n hx hb dL_tryHouse_1 rfl (lv_at hl 1 rfl) ?_
  refine lv_iload_n hx hb dL_tryHouse_2 rfl (lv_at hl 2 rfl) ?_
  refine g_xVc (As := [.int a, .int d]) (rest := []) hF hM (cwV 2 hts gL_tryHouse_X6_house rfl rfl rfl (by decide +kernel) ⟨(by show fr + 1 ≤ 9; omega), (by show 8 + (_ + 11) + lo ≤ 180; omega)⟩) hK hZ hX hG hS h475 (show gC 475 = (6, 32, 0) from rfl) (by decide) rfl rfl hl.1 (Nat.le_of_ble_eq_true rfl) dL_tryHouse_3 ⟨Nat.le_of_ble_eq_true rfl, Nat.le_of_ble_eq_true rfl⟩ rfl (fun ce q9 H locs hG hS hce hcv hcl => ?_)
  refine vx_catch (name := "java/lang/IllegalArgumentException") hown [⟨0, 6, 7, 38⟩] ⟨0, 6, 11, 13⟩ [] (by rw [hnx]; rfl) (List.forall_mem_cons.mpr ⟨Or.inr ⟨by decide, "java/lang/IndexOutOfBoundsException", hts (Cond.classLink RL 38 "java/lang/IndexOutOfBoundsException") (by decide +kernel), hY.1⟩, (fun _ h => absurd h List.not_mem_nil)⟩) (by decide) (by decide) (hts (Cond.classLink RL 13 "java/lang/IllegalArgumentException") (by decide +kernel)) (gx_cast hX (by decide +kernel)) hce hcv hcl ?_
  refine lv_astore_n (lv' := [(3, .ref q9), (0, .ref (gad Γ 475)), (1, .int a), (2, .int d)]) hx hb dL_tryHouse_11 rfl hl (by decide) rfl (fun ls hl => ?_)
  refine lv_ldc hx hb hown (hts (Cond.constant RL 15 (-9999002)) (by decide +kernel)) dL_tryHouse_12 ?_
  exact vx_ret (g_iret hx hb hrt hlocks hS hG rfl rfl dL_tryHouse_14)
set_option maxHeartbeats 4000000 in
set_option maxRecDepth 100000 in
theorem wL_tryWagon {l : Launch} {Γ : gX} (h475 : 475 ∈ gcs Γ) {fr lo : Nat} (hfr : fr ≤ 8) (hlo : lo ≤ 140) {M M1 : Nat → Nat → Int32} {R R1 : Nat → Nat → Option Nat} {O : Int64} (a : Int32) (d : Int32) {v : Int32} (hM : gMet l Γ yX6_wagon wsX6_wagon fr lo [.ref (gad Γ 475), .int a, .int d] M R O (some (.int v)) M1 R1 O) : gWrp l Γ yL_tryWagon wsL_tryWagon 9 180 [.ref (gad Γ 475), .int a, .int d] M R O (some (.int v)) M1 R1 O := by
  refine g_startW (cc := cL_tryWagon) (maxL := 4) (ret := (some .int)) (hh := [(0, 6, 7, 38), (0, 6, 11, 13)]) (by decide) rfl (Nat.le_of_ble_eq_true rfl) ?_
  intro p e s m below meth c ls hx hb hml hrt hts hown hlocks hname hK hZ hG hS hl hX hY hnx
  have hl : lv_has ls 4 [(0, .ref (gad Γ 475)), (1, .int a), (2, .int d)] := hl
  have hown : s.vm.findClass RL = some m.cls := hown
  have hF : CallFix p m c cL_tryWagon 4 s _ wsL_tryWagon RL := ⟨hx, hb, hml, hown, hts⟩
  refine lv_aload_n hx hb dL_tryWagon_0 rfl (lv_at hl 0 rfl) ?_
  refine lv_iload_n hx hb dL_tryWagon_1 rfl (lv_at hl 1 rfl) ?_
  refine lv_iload_n hx hb dL_tryWagon_2 rfl (lv_at hl 2 rfl) ?_
  refine g_callV (As := [.int a, .int d]) (rest := []) (st1 := [.int v]) hF hM (cwV 2 hts gL_tryWagon_X6_wagon rfl rfl rfl (by decide +kernel) ⟨(by show fr + 1 ≤ 9; omega), (by show 8 + (_ + 11) + lo ≤ 180; omega)⟩) hK hZ hG hS h475 (show gC 475 = (6, 32, 0) from rfl) (by decide) rfl rfl hl.1 (Nat.le_of_ble_eq_true rfl) dL_tryWagon_3 ⟨Nat.zero_le _, Nat.zero_le _⟩ rfl rfl (fun H locs hG hS => ?_)
  refine W.widen (k := 1) (n := 6) (by decide) (by decide) ?_
  exact vx_ret (g_iret hx hb hrt hlocks hS hG rfl rfl dL_tryWagon_6)
set_option maxHeartbeats 4000000 in
set_option maxRecDepth 100000 in
theorem wL_tryWagon_t1 {l : Launch} {Γ : gX} (h475 : 475 ∈ gcs Γ) {fr lo : Nat} (hfr : fr ≤ 8) (hlo : lo ≤ 140) {M M1 : Nat → Nat → Int32} {R R1 : Nat → Nat → Option Nat} {O : Int64} (a : Int32) (d : Int32) (hM : gThr l Γ yX6_wagon wsX6_wagon fr lo [.ref (gad Γ 475), .int a, .int d] M R O "java/lang/IndexOutOfBoundsException" M1 R1 O) : gWrp l Γ yL_tryWagon wsL_tryWagon 9 180 [.ref (gad Γ 475), .int a, .int d] M R O (some (.int (-9999001))) M1 R1 O := by
  refine g_startW (cc := cL_tryWagon) (maxL := 4) (ret := (some .int)) (hh := [(0, 6, 7, 38), (0, 6, 11, 13)]) (by decide) rfl (Nat.le_of_ble_eq_true rfl) ?_
  intro p e s m below meth c ls hx hb hml hrt hts hown hlocks hname hK hZ hG hS hl hX hY hnx
  have hl : lv_has ls 4 [(0, .ref (gad Γ 475)), (1, .int a), (2, .int d)] := hl
  have hown : s.vm.findClass RL = some m.cls := hown
  have hF : CallFix p m c cL_tryWagon 4 s _ wsL_tryWagon RL := ⟨hx, hb, hml, hown, hts⟩
  refine lv_aload_n hx hb dL_tryWagon_0 rfl (lv_at hl 0 rfl) ?_
  refine lv_iload_n hx hb dL_tryWagon_1 rfl (lv_at hl 1 rfl) ?_
  refine lv_iload_n hx hb dL_tryWagon_2 rfl (lv_at hl 2 rfl) ?_
  refine g_xVc (As := [.int a, .int d]) (rest := []) hF hM (cwV 2 hts gL_tryWagon_X6_wagon rfl rfl rfl (by decide +kernel) ⟨(by show fr + 1 ≤ 9; omega), (by show 8 + (_ + 11) + lo ≤ 180; omega)⟩) hK hZ hX hG hS h475 (show gC 475 = (6, 32, 0) from rfl) (by decide) rfl rfl hl.1 (Nat.le_of_ble_eq_true rfl) dL_tryWagon_3 ⟨Nat.le_of_ble_eq_true rfl, Nat.le_of_ble_eq_true rfl⟩ rfl (fun ce q9 H locs hG hS hce hcv hcl => ?_)
  refine vx_catch (name := "java/lang/IndexOutOfBoundsException") hown [] ⟨0, 6, 7, 38⟩ [⟨0, 6, 11, 13⟩] (by rw [hnx]; rfl) (fun _ h => absurd h List.not_mem_nil) (by decide) (by decide) (hts (Cond.classLink RL 38 "java/lang/IndexOutOfBoundsException") (by decide +kernel)) (gx_cast hX (by decide +kernel)) hce hcv hcl ?_
  refine lv_astore_n (lv' := [(3, .ref q9), (0, .ref (gad Γ 475)), (1, .int a), (2, .int d)]) hx hb dL_tryWagon_7 rfl hl (by decide) rfl (fun ls hl => ?_)
  refine lv_ldc hx hb hown (hts (Cond.constant RL 40 (-9999001)) (by decide +kernel)) dL_tryWagon_8 ?_
  exact vx_ret (g_iret hx hb hrt hlocks hS hG rfl rfl dL_tryWagon_10)
set_option maxHeartbeats 4000000 in
set_option maxRecDepth 100000 in
theorem wL_tryWagon_t2 {l : Launch} {Γ : gX} (h475 : 475 ∈ gcs Γ) {fr lo : Nat} (hfr : fr ≤ 8) (hlo : lo ≤ 140) {M M1 : Nat → Nat → Int32} {R R1 : Nat → Nat → Option Nat} {O : Int64} (a : Int32) (d : Int32) (hM : gThr l Γ yX6_wagon wsX6_wagon fr lo [.ref (gad Γ 475), .int a, .int d] M R O "java/lang/IllegalArgumentException" M1 R1 O) : gWrp l Γ yL_tryWagon wsL_tryWagon 9 180 [.ref (gad Γ 475), .int a, .int d] M R O (some (.int (-9999002))) M1 R1 O := by
  refine g_startW (cc := cL_tryWagon) (maxL := 4) (ret := (some .int)) (hh := [(0, 6, 7, 38), (0, 6, 11, 13)]) (by decide) rfl (Nat.le_of_ble_eq_true rfl) ?_
  intro p e s m below meth c ls hx hb hml hrt hts hown hlocks hname hK hZ hG hS hl hX hY hnx
  have hl : lv_has ls 4 [(0, .ref (gad Γ 475)), (1, .int a), (2, .int d)] := hl
  have hown : s.vm.findClass RL = some m.cls := hown
  have hF : CallFix p m c cL_tryWagon 4 s _ wsL_tryWagon RL := ⟨hx, hb, hml, hown, hts⟩
  refine lv_aload_n hx hb dL_tryWagon_0 rfl (lv_at hl 0 rfl) ?_
  refine lv_iload_n hx hb dL_tryWagon_1 rfl (lv_at hl 1 rfl) ?_
  refine lv_iload_n hx hb dL_tryWagon_2 rfl (lv_at hl 2 rfl) ?_
  refine g_xVc (As := [.int a, .int d]) (rest := []) hF hM (cwV 2 hts gL_tryWagon_X6_wagon rfl rfl rfl (by decide +kernel) ⟨(by show fr + 1 ≤ 9; omega), (by show 8 + (_ + 11) + lo ≤ 180; omega)⟩) hK hZ hX hG hS h475 (show gC 475 = (6, 32, 0) from rfl) (by decide) rfl rfl hl.1 (Nat.le_of_ble_eq_true rfl) dL_tryWagon_3 ⟨Nat.le_of_ble_eq_true rfl, Nat.le_of_ble_eq_true rfl⟩ rfl (fun ce q9 H locs hG hS hce hcv hcl => ?_)
  refine vx_catch (name := "java/lang/IllegalArgumentException") hown [⟨0, 6, 7, 38⟩] ⟨0, 6, 11, 13⟩ [] (by rw [hnx]; rfl) (List.forall_mem_cons.mpr ⟨Or.inr ⟨by decide, "java/lang/IndexOutOfBoundsException", hts (Cond.classLink RL 38 "java/lang/IndexOutOfBoundsException") (by decide +kernel), hY.1⟩, (fun _ h => absurd h List.not_mem_nil)⟩) (by decide) (by decide) (hts (Cond.classLink RL 13 "java/lang/IllegalArgumentException") (by decide +kernel)) (gx_cast hX (by decide +kernel)) hce hcv hcl ?_
  refine lv_astore_n (lv' := [(3, .ref q9), (0, .ref (gad Γ 475)), (1, .int a), (2, .int d)]) hx hb dL_tryWagon_11 rfl hl (by decide) rfl (fun ls hl => ?_)
  refine lv_ldc hx hb hown (hts (Cond.constant RL 15 (-9999002)) (by decide +kernel)) dL_tryWagon_12 ?_
  exact vx_ret (g_iret hx hb hrt hlocks hS hG rfl rfl dL_tryWagon_14)
set_option maxHeartbeats 4000000 in
set_option maxRecDepth 100000 in
theorem wL_tryBuild {l : Launch} {Γ : gX} (h475 : 475 ∈ gcs Γ) {fr lo : Nat} (hfr : fr ≤ 8) (hlo : lo ≤ 140) {M M1 : Nat → Nat → Int32} {R R1 : Nat → Nat → Option Nat} {O : Int64} (a : Int32) (d : Int32) {v : Int32} (hM : gMet l Γ yX6_addHouse wsX6_addHouse fr lo [.ref (gad Γ 475), .int a, .int d] M R O (some (.int v)) M1 R1 O) : gWrp l Γ yL_tryBuild wsL_tryBuild 9 180 [.ref (gad Γ 475), .int a, .int d] M R O (some (.int v)) M1 R1 O := by
  refine g_startW (cc := cL_tryBuild) (maxL := 4) (ret := (some .int)) (hh := [(0, 6, 7, 38), (0, 6, 11, 13), (0, 6, 15, 24)]) (by decide) rfl (Nat.le_of_ble_eq_true rfl) ?_
  intro p e s m below meth c ls hx hb hml hrt hts hown hlocks hname hK hZ hG hS hl hX hY hnx
  have hl : lv_has ls 4 [(0, .ref (gad Γ 475)), (1, .int a), (2, .int d)] := hl
  have hown : s.vm.findClass RL = some m.cls := hown
  have hF : CallFix p m c cL_tryBuild 4 s _ wsL_tryBuild RL := ⟨hx, hb, hml, hown, hts⟩
  refine lv_aload_n hx hb dL_tryBuild_0 rfl (lv_at hl 0 rfl) ?_
  refine lv_iload_n hx hb dL_tryBuild_1 rfl (lv_at hl 1 rfl) ?_
  refine lv_iload_n hx hb dL_tryBuild_2 rfl (lv_at hl 2 rfl) ?_
  refine g_callV (As := [.int a, .int d]) (rest := []) (st1 := [.int v]) hF hM (cwV 2 hts gL_tryBuild_X6_addHouse rfl rfl rfl (by decide +kernel) ⟨(by show fr + 1 ≤ 9; omega), (by show 8 + (_ + 11) + lo ≤ 180; omega)⟩) hK hZ hG hS h475 (show gC 475 = (6, 32, 0) from rfl) (by decide) rfl rfl hl.1 (Nat.le_of_ble_eq_true rfl) dL_tryBuild_3 ⟨Nat.zero_le _, Nat.zero_le _⟩ rfl rfl (fun H locs hG hS => ?_)
  refine W.widen (k := 1) (n := 6) (by decide) (by decide) ?_
  exact vx_ret (g_iret hx hb hrt hlocks hS hG rfl rfl dL_tryBuild_6)
set_option maxHeartbeats 4000000 in
set_option maxRecDepth 100000 in
theorem wL_tryBuild_t1 {l : Launch} {Γ : gX} (h475 : 475 ∈ gcs Γ) {fr lo : Nat} (hfr : fr ≤ 8) (hlo : lo ≤ 140) {M M1 : Nat → Nat → Int32} {R R1 : Nat → Nat → Option Nat} {O : Int64} (a : Int32) (d : Int32) (hM : gThr l Γ yX6_addHouse wsX6_addHouse fr lo [.ref (gad Γ 475), .int a, .int d] M R O "java/lang/IndexOutOfBoundsException" M1 R1 O) : gWrp l Γ yL_tryBuild wsL_tryBuild 9 180 [.ref (gad Γ 475), .int a, .int d] M R O (some (.int (-9999001))) M1 R1 O := by
  refine g_startW (cc := cL_tryBuild) (maxL := 4) (ret := (some .int)) (hh := [(0, 6, 7, 38), (0, 6, 11, 13), (0, 6, 15, 24)]) (by decide) rfl (Nat.le_of_ble_eq_true rfl) ?_
  intro p e s m below meth c ls hx hb hml hrt hts hown hlocks hname hK hZ hG hS hl hX hY hnx
  have hl : lv_has ls 4 [(0, .ref (gad Γ 475)), (1, .int a), (2, .int d)] := hl
  have hown : s.vm.findClass RL = some m.cls := hown
  have hF : CallFix p m c cL_tryBuild 4 s _ wsL_tryBuild RL := ⟨hx, hb, hml, hown, hts⟩
  refine lv_aload_n hx hb dL_tryBuild_0 rfl (lv_at hl 0 rfl) ?_
  refine lv_iload_n hx hb dL_tryBuild_1 rfl (lv_at hl 1 rfl) ?_
  refine lv_iload_n hx hb dL_tryBuild_2 rfl (lv_at hl 2 rfl) ?_
  refine g_xVc (As := [.int a, .int d]) (rest := []) hF hM (cwV 2 hts gL_tryBuild_X6_addHouse rfl rfl rfl (by decide +kernel) ⟨(by show fr + 1 ≤ 9; omega), (by show 8 + (_ + 11) + lo ≤ 180; omega)⟩) hK hZ hX hG hS h475 (show gC 475 = (6, 32, 0) from rfl) (by decide) rfl rfl hl.1 (Nat.le_of_ble_eq_true rfl) dL_tryBuild_3 ⟨Nat.le_of_ble_eq_true rfl, Nat.le_of_ble_eq_true rfl⟩ rfl (fun ce q9 H locs hG hS hce hcv hcl => ?_)
  refine vx_catch (name := "java/lang/IndexOutOfBoundsException") hown [] ⟨0, 6, 7, 38⟩ [⟨0, 6, 11, 13⟩, ⟨0, 6, 15, 24⟩] (by rw [hnx]; rfl) (fun _ h => absurd h List.not_mem_nil) (by decide) (by decide) (hts (Cond.classLink RL 38 "java/lang/IndexOutOfBoundsException") (by decide +kernel)) (gx_cast hX (by decide +kernel)) hce hcv hcl ?_
  refine lv_astore_n (lv' := [(3, .ref q9), (0, .ref (gad Γ 475)), (1, .int a), (2, .int d)]) hx hb dL_tryBuild_7 rfl hl (by decide) rfl (fun ls hl => ?_)
  refine lv_ldc hx hb hown (hts (Cond.constant RL 40 (-9999001)) (by decide +kernel)) dL_tryBuild_8 ?_
  exact vx_ret (g_iret hx hb hrt hlocks hS hG rfl rfl dL_tryBuild_10)
set_option maxHeartbeats 4000000 in
set_option maxRecDepth 100000 in
theorem wL_tryBuild_t2 {l : Launch} {Γ : gX} (h475 : 475 ∈ gcs Γ) {fr lo : Nat} (hfr : fr ≤ 8) (hlo : lo ≤ 140) {M M1 : Nat → Nat → Int32} {R R1 : Nat → Nat → Option Nat} {O : Int64} (a : Int32) (d : Int32) (hM : gThr l Γ yX6_addHouse wsX6_addHouse fr lo [.ref (gad Γ 475), .int a, .int d] M R O "java/lang/IllegalArgumentException" M1 R1 O) : gWrp l Γ yL_tryBuild wsL_tryBuild 9 180 [.ref (gad Γ 475), .int a, .int d] M R O (some (.int (-9999002))) M1 R1 O := by
  refine g_startW (cc := cL_tryBuild) (maxL := 4) (ret := (some .int)) (hh := [(0, 6, 7, 38), (0, 6, 11, 13), (0, 6, 15, 24)]) (by decide) rfl (Nat.le_of_ble_eq_true rfl) ?_
  intro p e s m below meth c ls hx hb hml hrt hts hown hlocks hname hK hZ hG hS hl hX hY hnx
  have hl : lv_has ls 4 [(0, .ref (gad Γ 475)), (1, .int a), (2, .int d)] := hl
  have hown : s.vm.findClass RL = some m.cls := hown
  have hF : CallFix p m c cL_tryBuild 4 s _ wsL_tryBuild RL := ⟨hx, hb, hml, hown, hts⟩
  refine lv_aload_n hx hb dL_tryBuild_0 rfl (lv_at hl 0 rfl) ?_
  refine lv_iload_n hx hb dL_tryBuild_1 rfl (lv_at hl 1 rfl) ?_
  refine lv_iload_n hx hb dL_tryBuild_2 rfl (lv_at hl 2 rfl) ?_
  refine g_xVc (As := [.int a, .int d]) (rest := []) hF hM (cwV 2 hts gL_tryBuild_X6_addHouse rfl rfl rfl (by decide +kernel) ⟨(by show fr + 1 ≤ 9; omega), (by show 8 + (_ + 11) + lo ≤ 180; omega)⟩) hK hZ hX hG hS h475 (show gC 475 = (6, 32, 0) from rfl) (by decide) rfl rfl hl.1 (Nat.le_of_ble_eq_true rfl) dL_tryBuild_3 ⟨Nat.le_of_ble_eq_true rfl, Nat.le_of_ble_eq_true rfl⟩ rfl (fun ce q9 H locs hG hS hce hcv hcl => ?_)
  refine vx_catch (name := "java/lang/IllegalArgumentException") hown [⟨0, 6, 7, 38⟩] ⟨0, 6, 11, 13⟩ [⟨0, 6, 15, 24⟩] (by rw [hnx]; rfl) (List.forall_mem_cons.mpr ⟨Or.inr ⟨by decide, "java/lang/IndexOutOfBoundsException", hts (Cond.classLink RL 38 "java/lang/IndexOutOfBoundsException") (by decide +kernel), hY.1⟩, (fun _ h => absurd h List.not_mem_nil)⟩) (by decide) (by decide) (hts (Cond.classLink RL 13 "java/lang/IllegalArgumentException") (by decide +kernel)) (gx_cast hX (by decide +kernel)) hce hcv hcl ?_
  refine lv_astore_n (lv' := [(3, .ref q9), (0, .ref (gad Γ 475)), (1, .int a), (2, .int d)]) hx hb dL_tryBuild_11 rfl hl (by decide) rfl (fun ls hl => ?_)
  refine lv_ldc hx hb hown (hts (Cond.constant RL 15 (-9999002)) (by decide +kernel)) dL_tryBuild_12 ?_
  exact vx_ret (g_iret hx hb hrt hlocks hS hG rfl rfl dL_tryBuild_14)
set_option maxHeartbeats 4000000 in
set_option maxRecDepth 100000 in
theorem wL_tryBuild_t3 {l : Launch} {Γ : gX} (h475 : 475 ∈ gcs Γ) {fr lo : Nat} (hfr : fr ≤ 8) (hlo : lo ≤ 140) {M M1 : Nat → Nat → Int32} {R R1 : Nat → Nat → Option Nat} {O : Int64} (a : Int32) (d : Int32) (hM : gThr l Γ yX6_addHouse wsX6_addHouse fr lo [.ref (gad Γ 475), .int a, .int d] M R O "java/lang/IllegalStateException" M1 R1 O) : gWrp l Γ yL_tryBuild wsL_tryBuild 9 180 [.ref (gad Γ 475), .int a, .int d] M R O (some (.int (-9999003))) M1 R1 O := by
  refine g_startW (cc := cL_tryBuild) (maxL := 4) (ret := (some .int)) (hh := [(0, 6, 7, 38), (0, 6, 11, 13), (0, 6, 15, 24)]) (by decide) rfl (Nat.le_of_ble_eq_true rfl) ?_
  intro p e s m below meth c ls hx hb hml hrt hts hown hlocks hname hK hZ hG hS hl hX hY hnx
  have hl : lv_has ls 4 [(0, .ref (gad Γ 475)), (1, .int a), (2, .int d)] := hl
  have hown : s.vm.findClass RL = some m.cls := hown
  have hF : CallFix p m c cL_tryBuild 4 s _ wsL_tryBuild RL := ⟨hx, hb, hml, hown, hts⟩
  refine lv_aload_n hx hb dL_tryBuild_0 rfl (lv_at hl 0 rfl) ?_
  refine lv_iload_n hx hb dL_tryBuild_1 rfl (lv_at hl 1 rfl) ?_
  refine lv_iload_n hx hb dL_tryBuild_2 rfl (lv_at hl 2 rfl) ?_
  refine g_xVc (As := [.int a, .int d]) (rest := []) hF hM (cwV 2 hts gL_tryBuild_X6_addHouse rfl rfl rfl (by decide +kernel) ⟨(by show fr + 1 ≤ 9; omega), (by show 8 + (_ + 11) + lo ≤ 180; omega)⟩) hK hZ hX hG hS h475 (show gC 475 = (6, 32, 0) from rfl) (by decide) rfl rfl hl.1 (Nat.le_of_ble_eq_true rfl) dL_tryBuild_3 ⟨Nat.le_of_ble_eq_true rfl, Nat.le_of_ble_eq_true rfl⟩ rfl (fun ce q9 H locs hG hS hce hcv hcl => ?_)
  refine vx_catch (name := "java/lang/IllegalStateException") hown [⟨0, 6, 7, 38⟩, ⟨0, 6, 11, 13⟩] ⟨0, 6, 15, 24⟩ [] (by rw [hnx]; rfl) (List.forall_mem_cons.mpr ⟨Or.inr ⟨by decide, "java/lang/IndexOutOfBoundsException", hts (Cond.classLink RL 38 "java/lang/IndexOutOfBoundsException") (by decide +kernel), hY.2.1⟩, (List.forall_mem_cons.mpr ⟨Or.inr ⟨by decide, "java/lang/IllegalArgumentException", hts (Cond.classLink RL 13 "java/lang/IllegalArgumentException") (by decide +kernel), hY.2.2⟩, (fun _ h => absurd h List.not_mem_nil)⟩)⟩) (by decide) (by decide) (hts (Cond.classLink RL 24 "java/lang/IllegalStateException") (by decide +kernel)) (gx_cast hX (by decide +kernel)) hce hcv hcl ?_
  refine lv_astore_n (lv' := [(3, .ref q9), (0, .ref (gad Γ 475)), (1, .int a), (2, .int d)]) hx hb dL_tryBuild_15 rfl hl (by decide) rfl (fun ls hl => ?_)
  refine lv_ldc hx hb hown (hts (Cond.constant RL 26 (-9999003)) (by decide +kernel)) dL_tryBuild_16 ?_
  exact vx_ret (g_iret hx hb hrt hlocks hS hG rfl rfl dL_tryBuild_18)
set_option maxHeartbeats 4000000 in
set_option maxRecDepth 100000 in
theorem wL_tryBring {l : Launch} {Γ : gX} (h475 : 475 ∈ gcs Γ) {fr lo : Nat} (hfr : fr ≤ 8) (hlo : lo ≤ 140) {M M1 : Nat → Nat → Int32} {R R1 : Nat → Nat → Option Nat} {O : Int64} (a : Int32) {v : Int32} (hM : gMet l Γ yX6_addWagon wsX6_addWagon fr lo [.ref (gad Γ 475), .int a] M R O (some (.int v)) M1 R1 O) : gWrp l Γ yL_tryBring wsL_tryBring 9 180 [.ref (gad Γ 475), .int a] M R O (some (.int v)) M1 R1 O := by
  refine g_startW (cc := cL_tryBring) (maxL := 3) (ret := (some .int)) (hh := [(0, 5, 6, 38), (0, 5, 10, 24)]) (by decide) rfl (Nat.le_of_ble_eq_true rfl) ?_
  intro p e s m below meth c ls hx hb hml hrt hts hown hlocks hname hK hZ hG hS hl hX hY hnx
  have hl : lv_has ls 3 [(0, .ref (gad Γ 475)), (1, .int a)] := hl
  have hown : s.vm.findClass RL = some m.cls := hown
  have hF : CallFix p m c cL_tryBring 3 s _ wsL_tryBring RL := ⟨hx, hb, hml, hown, hts⟩
  refine lv_aload_n hx hb dL_tryBring_0 rfl (lv_at hl 0 rfl) ?_
  refine lv_iload_n hx hb dL_tryBring_1 rfl (lv_at hl 1 rfl) ?_
  refine g_callV (As := [.int a]) (rest := []) (st1 := [.int v]) hF hM (cwV 1 hts gL_tryBring_X6_addWagon rfl rfl rfl (by decide +kernel) ⟨(by show fr + 1 ≤ 9; omega), (by show 8 + (_ + 11) + lo ≤ 180; omega)⟩) hK hZ hG hS h475 (show gC 475 = (6, 32, 0) from rfl) (by decide) rfl rfl hl.1 (Nat.le_of_ble_eq_true rfl) dL_tryBring_2 ⟨Nat.zero_le _, Nat.zero_le _⟩ rfl rfl (fun H locs hG hS => ?_)
  refine W.widen (k := 1) (n := 6) (by decide) (by decide) ?_
  exact vx_ret (g_iret hx hb hrt hlocks hS hG rfl rfl dL_tryBring_5)
set_option maxHeartbeats 4000000 in
set_option maxRecDepth 100000 in
theorem wL_tryBring_t1 {l : Launch} {Γ : gX} (h475 : 475 ∈ gcs Γ) {fr lo : Nat} (hfr : fr ≤ 8) (hlo : lo ≤ 140) {M M1 : Nat → Nat → Int32} {R R1 : Nat → Nat → Option Nat} {O : Int64} (a : Int32) (hM : gThr l Γ yX6_addWagon wsX6_addWagon fr lo [.ref (gad Γ 475), .int a] M R O "java/lang/IndexOutOfBoundsException" M1 R1 O) : gWrp l Γ yL_tryBring wsL_tryBring 9 180 [.ref (gad Γ 475), .int a] M R O (some (.int (-9999001))) M1 R1 O := by
  refine g_startW (cc := cL_tryBring) (maxL := 3) (ret := (some .int)) (hh := [(0, 5, 6, 38), (0, 5, 10, 24)]) (by decide) rfl (Nat.le_of_ble_eq_true rfl) ?_
  intro p e s m below meth c ls hx hb hml hrt hts hown hlocks hname hK hZ hG hS hl hX hY hnx
  have hl : lv_has ls 3 [(0, .ref (gad Γ 475)), (1, .int a)] := hl
  have hown : s.vm.findClass RL = some m.cls := hown
  have hF : CallFix p m c cL_tryBring 3 s _ wsL_tryBring RL := ⟨hx, hb, hml, hown, hts⟩
  refine lv_aload_n hx hb dL_tryBring_0 rfl (lv_at hl 0 rfl) ?_
  refine lv_iload_n hx hb dL_tryBring_1 rfl (lv_at hl 1 rfl) ?_
  refine g_xVc (As := [.int a]) (rest := []) hF hM (cwV 1 hts gL_tryBring_X6_addWagon rfl rfl rfl (by decide +kernel) ⟨(by show fr + 1 ≤ 9; omega), (by show 8 + (_ + 11) + lo ≤ 180; omega)⟩) hK hZ hX hG hS h475 (show gC 475 = (6, 32, 0) from rfl) (by decide) rfl rfl hl.1 (Nat.le_of_ble_eq_true rfl) dL_tryBring_2 ⟨Nat.le_of_ble_eq_true rfl, Nat.le_of_ble_eq_true rfl⟩ rfl (fun ce q9 H locs hG hS hce hcv hcl => ?_)
  refine vx_catch (name := "java/lang/IndexOutOfBoundsException") hown [] ⟨0, 5, 6, 38⟩ [⟨0, 5, 10, 24⟩] (by rw [hnx]; rfl) (fun _ h => absurd h List.not_mem_nil) (by decide) (by decide) (hts (Cond.classLink RL 38 "java/lang/IndexOutOfBoundsException") (by decide +kernel)) (gx_cast hX (by decide +kernel)) hce hcv hcl ?_
  refine lv_astore_n (lv' := [(2, .ref q9), (0, .ref (gad Γ 475)), (1, .int a)]) hx hb dL_tryBring_6 rfl hl (by decide) rfl (fun ls hl => ?_)
  refine lv_ldc hx hb hown (hts (Cond.constant RL 40 (-9999001)) (by decide +kernel)) dL_tryBring_7 ?_
  exact vx_ret (g_iret hx hb hrt hlocks hS hG rfl rfl dL_tryBring_9)
set_option maxHeartbeats 4000000 in
set_option maxRecDepth 100000 in
theorem wL_tryBring_t2 {l : Launch} {Γ : gX} (h475 : 475 ∈ gcs Γ) {fr lo : Nat} (hfr : fr ≤ 8) (hlo : lo ≤ 140) {M M1 : Nat → Nat → Int32} {R R1 : Nat → Nat → Option Nat} {O : Int64} (a : Int32) (hM : gThr l Γ yX6_addWagon wsX6_addWagon fr lo [.ref (gad Γ 475), .int a] M R O "java/lang/IllegalStateException" M1 R1 O) : gWrp l Γ yL_tryBring wsL_tryBring 9 180 [.ref (gad Γ 475), .int a] M R O (some (.int (-9999003))) M1 R1 O := by
  refine g_startW (cc := cL_tryBring) (maxL := 3) (ret := (some .int)) (hh := [(0, 5, 6, 38), (0, 5, 10, 24)]) (by decide) rfl (Nat.le_of_ble_eq_true rfl) ?_
  intro p e s m below meth c ls hx hb hml hrt hts hown hlocks hname hK hZ hG hS hl hX hY hnx
  have hl : lv_has ls 3 [(0, .ref (gad Γ 475)), (1, .int a)] := hl
  have hown : s.vm.findClass RL = some m.cls := hown
  have hF : CallFix p m c cL_tryBring 3 s _ wsL_tryBring RL := ⟨hx, hb, hml, hown, hts⟩
  refine lv_aload_n hx hb dL_tryBring_0 rfl (lv_at hl 0 rfl) ?_
  refine lv_iload_n hx hb dL_tryBring_1 rfl (lv_at hl 1 rfl) ?_
  refine g_xVc (As := [.int a]) (rest := []) hF hM (cwV 1 hts gL_tryBring_X6_addWagon rfl rfl rfl (by decide +kernel) ⟨(by show fr + 1 ≤ 9; omega), (by show 8 + (_ + 11) + lo ≤ 180; omega)⟩) hK hZ hX hG hS h475 (show gC 475 = (6, 32, 0) from rfl) (by decide) rfl rfl hl.1 (Nat.le_of_ble_eq_true rfl) dL_tryBring_2 ⟨Nat.le_of_ble_eq_true rfl, Nat.le_of_ble_eq_true rfl⟩ rfl (fun ce q9 H locs hG hS hce hcv hcl => ?_)
  refine vx_catch (name := "java/lang/IllegalStateException") hown [⟨0, 5, 6, 38⟩] ⟨0, 5, 10, 24⟩ [] (by rw [hnx]; rfl) (List.forall_mem_cons.mpr ⟨Or.inr ⟨by decide, "java/lang/IndexOutOfBoundsException", hts (Cond.classLink RL 38 "java/lang/IndexOutOfBoundsException") (by decide +kernel), hY.2.1⟩, (fun _ h => absurd h List.not_mem_nil)⟩) (by decide) (by decide) (hts (Cond.classLink RL 24 "java/lang/IllegalStateException") (by decide +kernel)) (gx_cast hX (by decide +kernel)) hce hcv hcl ?_
  refine lv_astore_n (lv' := [(2, .ref q9), (0, .ref (gad Γ 475)), (1, .int a)]) hx hb dL_tryBring_10 rfl hl (by decide) rfl (fun ls hl => ?_)
  refine lv_ldc hx hb hown (hts (Cond.constant RL 26 (-9999003)) (by decide +kernel)) dL_tryBring_11 ?_
  exact vx_ret (g_iret hx hb hrt hlocks hS hG rfl rfl dL_tryBring_13)
set_option maxHeartbeats 4000000 in
set_option maxRecDepth 100000 in
theorem wL_trySurface {l : Launch} {Γ : gX} (h475 : 475 ∈ gcs Γ) {fr lo : Nat} (hfr : fr ≤ 8) (hlo : lo ≤ 140) {M M1 : Nat → Nat → Int32} {R R1 : Nat → Nat → Option Nat} {O : Int64} (a : Int32) (d : Int32) {v : Int32} (hM : gMet l Γ yX6_setSurface wsX6_setSurface fr lo [.ref (gad Γ 475), .int a, .int d] M R O (some (.int v)) M1 R1 O) : gWrp l Γ yL_trySurface wsL_trySurface 9 180 [.ref (gad Γ 475), .int a, .int d] M R O (some (.int v)) M1 R1 O := by
  refine g_startW (cc := cL_trySurface) (maxL := 4) (ret := (some .int)) (hh := [(0, 6, 7, 38), (0, 6, 11, 13)]) (by decide) rfl (Nat.le_of_ble_eq_true rfl) ?_
  intro p e s m below meth c ls hx hb hml hrt hts hown hlocks hname hK hZ hG hS hl hX hY hnx
  have hl : lv_has ls 4 [(0, .ref (gad Γ 475)), (1, .int a), (2, .int d)] := hl
  have hown : s.vm.findClass RL = some m.cls := hown
  have hF : CallFix p m c cL_trySurface 4 s _ wsL_trySurface RL := ⟨hx, hb, hml, hown, hts⟩
  refine lv_aload_n hx hb dL_trySurface_0 rfl (lv_at hl 0 rfl) ?_
  refine lv_iload_n hx hb dL_trySurface_1 rfl (lv_at hl 1 rfl) ?_
  refine lv_iload_n hx hb dL_trySurface_2 rfl (lv_at hl 2 rfl) ?_
  refine g_callV (As := [.int a, .int d]) (rest := []) (st1 := [.int v]) hF hM (cwV 2 hts gL_trySurface_X6_setSurface rfl rfl rfl (by decide +kernel) ⟨(by show fr + 1 ≤ 9; omega), (by show 8 + (_ + 11) + lo ≤ 180; omega)⟩) hK hZ hG hS h475 (show gC 475 = (6, 32, 0) from rfl) (by decide) rfl rfl hl.1 (Nat.le_of_ble_eq_true rfl) dL_trySurface_3 ⟨Nat.zero_le _, Nat.zero_le _⟩ rfl rfl (fun H locs hG hS => ?_)
  refine W.widen (k := 1) (n := 6) (by decide) (by decide) ?_
  exact vx_ret (g_iret hx hb hrt hlocks hS hG rfl rfl dL_trySurface_6)
set_option maxHeartbeats 4000000 in
set_option maxRecDepth 100000 in
theorem wL_trySurface_t1 {l : Launch} {Γ : gX} (h475 : 475 ∈ gcs Γ) {fr lo : Nat} (hfr : fr ≤ 8) (hlo : lo ≤ 140) {M M1 : Nat → Nat → Int32} {R R1 : Nat → Nat → Option Nat} {O : Int64} (a : Int32) (d : Int32) (hM : gThr l Γ yX6_setSurface wsX6_setSurface fr lo [.ref (gad Γ 475), .int a, .int d] M R O "java/lang/IndexOutOfBoundsException" M1 R1 O) : gWrp l Γ yL_trySurface wsL_trySurface 9 180 [.ref (gad Γ 475), .int a, .int d] M R O (some (.int (-9999001))) M1 R1 O := by
  refine g_startW (cc := cL_trySurface) (maxL := 4) (ret := (some .int)) (hh := [(0, 6, 7, 38), (0, 6, 11, 13)]) (by decide) rfl (Nat.le_of_ble_eq_true rfl) ?_
  intro p e s m below meth c ls hx hb hml hrt hts hown hlocks hname hK hZ hG hS hl hX hY hnx
  have hl : lv_has ls 4 [(0, .ref (gad Γ 475)), (1, .int a), (2, .int d)] := hl
  have hown : s.vm.findClass RL = some m.cls := hown
  have hF : CallFix p m c cL_trySurface 4 s _ wsL_trySurface RL := ⟨hx, hb, hml, hown, hts⟩
  refine lv_aload_n hx hb dL_trySurface_0 rfl (lv_at hl 0 rfl) ?_
  refine lv_iload_n hx hb dL_trySurface_1 rfl (lv_at hl 1 rfl) ?_
  refine lv_iload_n hx hb dL_trySurface_2 rfl (lv_at hl 2 rfl) ?_
  refine g_xVc (As := [.int a, .int d]) (rest := []) hF hM (cwV 2 hts gL_trySurface_X6_setSurface rfl rfl rfl (by decide +kernel) ⟨(by show fr + 1 ≤ 9; omega), (by show 8 + (_ + 11) + lo ≤ 180; omega)⟩) hK hZ hX hG hS h475 (show gC 475 = (6, 32, 0) from rfl) (by decide) rfl rfl hl.1 (Nat.le_of_ble_eq_true rfl) dL_trySurface_3 ⟨Nat.le_of_ble_eq_true rfl, Nat.le_of_ble_eq_true rfl⟩ rfl (fun ce q9 H locs hG hS hce hcv hcl => ?_)
  refine vx_catch (name := "java/lang/IndexOutOfBoundsException") hown [] ⟨0, 6, 7, 38⟩ [⟨0, 6, 11, 13⟩] (by rw [hnx]; rfl) (fun _ h => absurd h List.not_mem_nil) (by decide) (by decide) (hts (Cond.classLink RL 38 "java/lang/IndexOutOfBoundsException") (by decide +kernel)) (gx_cast hX (by decide +kernel)) hce hcv hcl ?_
  refine lv_astore_n (lv' := [(3, .ref q9), (0, .ref (gad Γ 475)), (1, .int a), (2, .int d)]) hx hb dL_trySurface_7 rfl hl (by decide) rfl (fun ls hl => ?_)
  refine lv_ldc hx hb hown (hts (Cond.constant RL 40 (-9999001)) (by decide +kernel)) dL_trySurface_8 ?_
  exact vx_ret (g_iret hx hb hrt hlocks hS hG rfl rfl dL_trySurface_10)
set_option maxHeartbeats 4000000 in
set_option maxRecDepth 100000 in
theorem wL_trySurface_t2 {l : Launch} {Γ : gX} (h475 : 475 ∈ gcs Γ) {fr lo : Nat} (hfr : fr ≤ 8) (hlo : lo ≤ 140) {M M1 : Nat → Nat → Int32} {R R1 : Nat → Nat → Option Nat} {O : Int64} (a : Int32) (d : Int32) (hM : gThr l Γ yX6_setSurface wsX6_setSurface fr lo [.ref (gad Γ 475), .int a, .int d] M R O "java/lang/IllegalArgumentException" M1 R1 O) : gWrp l Γ yL_trySurface wsL_trySurface 9 180 [.ref (gad Γ 475), .int a, .int d] M R O (some (.int (-9999002))) M1 R1 O := by
  refine g_startW (cc := cL_trySurface) (maxL := 4) (ret := (some .int)) (hh := [(0, 6, 7, 38), (0, 6, 11, 13)]) (by decide) rfl (Nat.le_of_ble_eq_true rfl) ?_
  intro p e s m below meth c ls hx hb hml hrt hts hown hlocks hname hK hZ hG hS hl hX hY hnx
  have hl : lv_has ls 4 [(0, .ref (gad Γ 475)), (1, .int a), (2, .int d)] := hl
  have hown : s.vm.findClass RL = some m.cls := hown
  have hF : CallFix p m c cL_trySurface 4 s _ wsL_trySurface RL := ⟨hx, hb, hml, hown, hts⟩
  refine lv_aload_n hx hb dL_trySurface_0 rfl (lv_at hl 0 rfl) ?_
  refine lv_iload_n hx hb dL_trySurface_1 rfl (lv_at hl 1 rfl) ?_
  refine lv_iload_n hx hb dL_trySurface_2 rfl (lv_at hl 2 rfl) ?_
  refine g_xVc (As := [.int a, .int d]) (rest := []) hF hM (cwV 2 hts gL_trySurface_X6_setSurface rfl rfl rfl (by decide +kernel) ⟨(by show fr + 1 ≤ 9; omega), (by show 8 + (_ + 11) + lo ≤ 180; omega)⟩) hK hZ hX hG hS h475 (show gC 475 = (6, 32, 0) from rfl) (by decide) rfl rfl hl.1 (Nat.le_of_ble_eq_true rfl) dL_trySurface_3 ⟨Nat.le_of_ble_eq_true rfl, Nat.le_of_ble_eq_true rfl⟩ rfl (fun ce q9 H locs hG hS hce hcv hcl => ?_)
  refine vx_catch (name := "java/lang/IllegalArgumentException") hown [⟨0, 6, 7, 38⟩] ⟨0, 6, 11, 13⟩ [] (by rw [hnx]; rfl) (List.forall_mem_cons.mpr ⟨Or.inr ⟨by decide, "java/lang/IndexOutOfBoundsException", hts (Cond.classLink RL 38 "java/lang/IndexOutOfBoundsException") (by decide +kernel), hY.1⟩, (fun _ h => absurd h List.not_mem_nil)⟩) (by decide) (by decide) (hts (Cond.classLink RL 13 "java/lang/IllegalArgumentException") (by decide +kernel)) (gx_cast hX (by decide +kernel)) hce hcv hcl ?_
  refine lv_astore_n (lv' := [(3, .ref q9), (0, .ref (gad Γ 475)), (1, .int a), (2, .int d)]) hx hb dL_trySurface_11 rfl hl (by decide) rfl (fun ls hl => ?_)
  refine lv_ldc hx hb hown (hts (Cond.constant RL 15 (-9999002)) (by decide +kernel)) dL_trySurface_12 ?_
  exact vx_ret (g_iret hx hb hrt hlocks hS hG rfl rfl dL_trySurface_14)
set_option maxHeartbeats 4000000 in
set_option maxRecDepth 100000 in
theorem wL_tryLimit {l : Launch} {Γ : gX} (h475 : 475 ∈ gcs Γ) {fr lo : Nat} (hfr : fr ≤ 8) (hlo : lo ≤ 140) {M M1 : Nat → Nat → Int32} {R R1 : Nat → Nat → Option Nat} {O : Int64} (a : Int32) (d : Int32) {v : Int32} (hM : gMet l Γ yX6_setLimit wsX6_setLimit fr lo [.ref (gad Γ 475), .int a, .int d] M R O (some (.int v)) M1 R1 O) : gWrp l Γ yL_tryLimit wsL_tryLimit 9 180 [.ref (gad Γ 475), .int a, .int d] M R O (some (.int v)) M1 R1 O := by
  refine g_startW (cc := cL_tryLimit) (maxL := 4) (ret := (some .int)) (hh := [(0, 6, 7, 38), (0, 6, 11, 13), (0, 6, 15, 24)]) (by decide) rfl (Nat.le_of_ble_eq_true rfl) ?_
  intro p e s m below meth c ls hx hb hml hrt hts hown hlocks hname hK hZ hG hS hl hX hY hnx
  have hl : lv_has ls 4 [(0, .ref (gad Γ 475)), (1, .int a), (2, .int d)] := hl
  have hown : s.vm.findClass RL = some m.cls := hown
  have hF : CallFix p m c cL_tryLimit 4 s _ wsL_tryLimit RL := ⟨hx, hb, hml, hown, hts⟩
  refine lv_aload_n hx hb dL_tryLimit_0 rfl (lv_at hl 0 rfl) ?_
  refine lv_iload_n hx hb dL_tryLimit_1 rfl (lv_at hl 1 rfl) ?_
  refine lv_iload_n hx hb dL_tryLimit_2 rfl (lv_at hl 2 rfl) ?_
  refine g_callV (As := [.int a, .int d]) (rest := []) (st1 := [.int v]) hF hM (cwV 2 hts gL_tryLimit_X6_setLimit rfl rfl rfl (by decide +kernel) ⟨(by show fr + 1 ≤ 9; omega), (by show 8 + (_ + 11) + lo ≤ 180; omega)⟩) hK hZ hG hS h475 (show gC 475 = (6, 32, 0) from rfl) (by decide) rfl rfl hl.1 (Nat.le_of_ble_eq_true rfl) dL_tryLimit_3 ⟨Nat.zero_le _, Nat.zero_le _⟩ rfl rfl (fun H locs hG hS => ?_)
  refine W.widen (k := 1) (n := 6) (by decide) (by decide) ?_
  exact vx_ret (g_iret hx hb hrt hlocks hS hG rfl rfl dL_tryLimit_6)
set_option maxHeartbeats 4000000 in
set_option maxRecDepth 100000 in
theorem wL_tryLimit_t1 {l : Launch} {Γ : gX} (h475 : 475 ∈ gcs Γ) {fr lo : Nat} (hfr : fr ≤ 8) (hlo : lo ≤ 140) {M M1 : Nat → Nat → Int32} {R R1 : Nat → Nat → Option Nat} {O : Int64} (a : Int32) (d : Int32) (hM : gThr l Γ yX6_setLimit wsX6_setLimit fr lo [.ref (gad Γ 475), .int a, .int d] M R O "java/lang/IndexOutOfBoundsException" M1 R1 O) : gWrp l Γ yL_tryLimit wsL_tryLimit 9 180 [.ref (gad Γ 475), .int a, .int d] M R O (some (.int (-9999001))) M1 R1 O := by
  refine g_startW (cc := cL_tryLimit) (maxL := 4) (ret := (some .int)) (hh := [(0, 6, 7, 38), (0, 6, 11, 13), (0, 6, 15, 24)]) (by decide) rfl (Nat.le_of_ble_eq_true rfl) ?_
  intro p e s m below meth c ls hx hb hml hrt hts hown hlocks hname hK hZ hG hS hl hX hY hnx
  have hl : lv_has ls 4 [(0, .ref (gad Γ 475)), (1, .int a), (2, .int d)] := hl
  have hown : s.vm.findClass RL = some m.cls := hown
  have hF : CallFix p m c cL_tryLimit 4 s _ wsL_tryLimit RL := ⟨hx, hb, hml, hown, hts⟩
  refine lv_aload_n hx hb dL_tryLimit_0 rfl (lv_at hl 0 rfl) ?_
  refine lv_iload_n hx hb dL_tryLimit_1 rfl (lv_at hl 1 rfl) ?_
  refine lv_iload_n hx hb dL_tryLimit_2 rfl (lv_at hl 2 rfl) ?_
  refine g_xVc (As := [.int a, .int d]) (rest := []) hF hM (cwV 2 hts gL_tryLimit_X6_setLimit rfl rfl rfl (by decide +kernel) ⟨(by show fr + 1 ≤ 9; omega), (by show 8 + (_ + 11) + lo ≤ 180; omega)⟩) hK hZ hX hG hS h475 (show gC 475 = (6, 32, 0) from rfl) (by decide) rfl rfl hl.1 (Nat.le_of_ble_eq_true rfl) dL_tryLimit_3 ⟨Nat.le_of_ble_eq_true rfl, Nat.le_of_ble_eq_true rfl⟩ rfl (fun ce q9 H locs hG hS hce hcv hcl => ?_)
  refine vx_catch (name := "java/lang/IndexOutOfBoundsException") hown [] ⟨0, 6, 7, 38⟩ [⟨0, 6, 11, 13⟩, ⟨0, 6, 15, 24⟩] (by rw [hnx]; rfl) (fun _ h => absurd h List.not_mem_nil) (by decide) (by decide) (hts (Cond.classLink RL 38 "java/lang/IndexOutOfBoundsException") (by decide +kernel)) (gx_cast hX (by decide +kernel)) hce hcv hcl ?_
  refine lv_astore_n (lv' := [(3, .ref q9), (0, .ref (gad Γ 475)), (1, .int a), (2, .int d)]) hx hb dL_tryLimit_7 rfl hl (by decide) rfl (fun ls hl => ?_)
  refine lv_ldc hx hb hown (hts (Cond.constant RL 40 (-9999001)) (by decide +kernel)) dL_tryLimit_8 ?_
  exact vx_ret (g_iret hx hb hrt hlocks hS hG rfl rfl dL_tryLimit_10)
set_option maxHeartbeats 4000000 in
set_option maxRecDepth 100000 in
theorem wL_tryLimit_t2 {l : Launch} {Γ : gX} (h475 : 475 ∈ gcs Γ) {fr lo : Nat} (hfr : fr ≤ 8) (hlo : lo ≤ 140) {M M1 : Nat → Nat → Int32} {R R1 : Nat → Nat → Option Nat} {O : Int64} (a : Int32) (d : Int32) (hM : gThr l Γ yX6_setLimit wsX6_setLimit fr lo [.ref (gad Γ 475), .int a, .int d] M R O "java/lang/IllegalArgumentException" M1 R1 O) : gWrp l Γ yL_tryLimit wsL_tryLimit 9 180 [.ref (gad Γ 475), .int a, .int d] M R O (some (.int (-9999002))) M1 R1 O := by
  refine g_startW (cc := cL_tryLimit) (maxL := 4) (ret := (some .int)) (hh := [(0, 6, 7, 38), (0, 6, 11, 13), (0, 6, 15, 24)]) (by decide) rfl (Nat.le_of_ble_eq_true rfl) ?_
  intro p e s m below meth c ls hx hb hml hrt hts hown hlocks hname hK hZ hG hS hl hX hY hnx
  have hl : lv_has ls 4 [(0, .ref (gad Γ 475)), (1, .int a), (2, .int d)] := hl
  have hown : s.vm.findClass RL = some m.cls := hown
  have hF : CallFix p m c cL_tryLimit 4 s _ wsL_tryLimit RL := ⟨hx, hb, hml, hown, hts⟩
  refine lv_aload_n hx hb dL_tryLimit_0 rfl (lv_at hl 0 rfl) ?_
  refine lv_iload_n hx hb dL_tryLimit_1 rfl (lv_at hl 1 rfl) ?_
  refine lv_iload_n hx hb dL_tryLimit_2 rfl (lv_at hl 2 rfl) ?_
  refine g_xVc (As := [.int a, .int d]) (rest := []) hF hM (cwV 2 hts gL_tryLimit_X6_setLimit rfl rfl rfl (by decide +kernel) ⟨(by show fr + 1 ≤ 9; omega), (by show 8 + (_ + 11) + lo ≤ 180; omega)⟩) hK hZ hX hG hS h475 (show gC 475 = (6, 32, 0) from rfl) (by decide) rfl rfl hl.1 (Nat.le_of_ble_eq_true rfl) dL_tryLimit_3 ⟨Nat.le_of_ble_eq_true rfl, Nat.le_of_ble_eq_true rfl⟩ rfl (fun ce q9 H locs hG hS hce hcv hcl => ?_)
  refine vx_catch (name := "java/lang/IllegalArgumentException") hown [⟨0, 6, 7, 38⟩] ⟨0, 6, 11, 13⟩ [⟨0, 6, 15, 24⟩] (by rw [hnx]; rfl) (List.forall_mem_cons.mpr ⟨Or.inr ⟨by decide, "java/lang/IndexOutOfBoundsException", hts (Cond.classLink RL 38 "java/lang/IndexOutOfBoundsException") (by decide +kernel), hY.1⟩, (fun _ h => absurd h List.not_mem_nil)⟩) (by decide) (by decide) (hts (Cond.classLink RL 13 "java/lang/IllegalArgumentException") (by decide +kernel)) (gx_cast hX (by decide +kernel)) hce hcv hcl ?_
  refine lv_astore_n (lv' := [(3, .ref q9), (0, .ref (gad Γ 475)), (1, .int a), (2, .int d)]) hx hb dL_tryLimit_11 rfl hl (by decide) rfl (fun ls hl => ?_)
  refine lv_ldc hx hb hown (hts (Cond.constant RL 15 (-9999002)) (by decide +kernel)) dL_tryLimit_12 ?_
  exact vx_ret (g_iret hx hb hrt hlocks hS hG rfl rfl dL_tryLimit_14)
set_option maxHeartbeats 4000000 in
set_option maxRecDepth 100000 in
theorem wL_tryLimit_t3 {l : Launch} {Γ : gX} (h475 : 475 ∈ gcs Γ) {fr lo : Nat} (hfr : fr ≤ 8) (hlo : lo ≤ 140) {M M1 : Nat → Nat → Int32} {R R1 : Nat → Nat → Option Nat} {O : Int64} (a : Int32) (d : Int32) (hM : gThr l Γ yX6_setLimit wsX6_setLimit fr lo [.ref (gad Γ 475), .int a, .int d] M R O "java/lang/IllegalStateException" M1 R1 O) : gWrp l Γ yL_tryLimit wsL_tryLimit 9 180 [.ref (gad Γ 475), .int a, .int d] M R O (some (.int (-9999003))) M1 R1 O := by
  refine g_startW (cc := cL_tryLimit) (maxL := 4) (ret := (some .int)) (hh := [(0, 6, 7, 38), (0, 6, 11, 13), (0, 6, 15, 24)]) (by decide) rfl (Nat.le_of_ble_eq_true rfl) ?_
  intro p e s m below meth c ls hx hb hml hrt hts hown hlocks hname hK hZ hG hS hl hX hY hnx
  have hl : lv_has ls 4 [(0, .ref (gad Γ 475)), (1, .int a), (2, .int d)] := hl
  have hown : s.vm.findClass RL = some m.cls := hown
  have hF : CallFix p m c cL_tryLimit 4 s _ wsL_tryLimit RL := ⟨hx, hb, hml, hown, hts⟩
  refine lv_aload_n hx hb dL_tryLimit_0 rfl (lv_at hl 0 rfl) ?_
  refine lv_iload_n hx hb dL_tryLimit_1 rfl (lv_at hl 1 rfl) ?_
  refine lv_iload_n hx hb dL_tryLimit_2 rfl (lv_at hl 2 rfl) ?_
  refine g_xVc (As := [.int a, .int d]) (rest := []) hF hM (cwV 2 hts gL_tryLimit_X6_setLimit rfl rfl rfl (by decide +kernel) ⟨(by show fr + 1 ≤ 9; omega), (by show 8 + (_ + 11) + lo ≤ 180; omega)⟩) hK hZ hX hG hS h475 (show gC 475 = (6, 32, 0) from rfl) (by decide) rfl rfl hl.1 (Nat.le_of_ble_eq_true rfl) dL_tryLimit_3 ⟨Nat.le_of_ble_eq_true rfl, Nat.le_of_ble_eq_true rfl⟩ rfl (fun ce q9 H locs hG hS hce hcv hcl => ?_)
  refine vx_catch (name := "java/lang/IllegalStateException") hown [⟨0, 6, 7, 38⟩, ⟨0, 6, 11, 13⟩] ⟨0, 6, 15, 24⟩ [] (by rw [hnx]; rfl) (List.forall_mem_cons.mpr ⟨Or.inr ⟨by decide, "java/lang/IndexOutOfBoundsException", hts (Cond.classLink RL 38 "java/lang/IndexOutOfBoundsException") (by decide +kernel), hY.2.1⟩, (List.forall_mem_cons.mpr ⟨Or.inr ⟨by decide, "java/lang/IllegalArgumentException", hts (Cond.classLink RL 13 "java/lang/IllegalArgumentException") (by decide +kernel), hY.2.2⟩, (fun _ h => absurd h List.not_mem_nil)⟩)⟩) (by decide) (by decide) (hts (Cond.classLink RL 24 "java/lang/IllegalStateException") (by decide +kernel)) (gx_cast hX (by decide +kernel)) hce hcv hcl ?_
  refine lv_astore_n (lv' := [(3, .ref q9), (0, .ref (gad Γ 475)), (1, .int a), (2, .int d)]) hx hb dL_tryLimit_15 rfl hl (by decide) rfl (fun ls hl => ?_)
  refine lv_ldc hx hb hown (hts (Cond.constant RL 26 (-9999003)) (by decide +kernel)) dL_tryLimit_16 ?_
  exact vx_ret (g_iret hx hb hrt hlocks hS hG rfl rfl dL_tryLimit_18)
set_option maxHeartbeats 4000000 in
set_option maxRecDepth 100000 in
theorem wL_trySet {l : Launch} {Γ : gX} (h475 : 475 ∈ gcs Γ) {fr lo : Nat} (hfr : fr ≤ 8) (hlo : lo ≤ 140) {M M1 : Nat → Nat → Int32} {R R1 : Nat → Nat → Option Nat} {O : Int64} (a : Int32) (d : Int32) {v : Int32} (hM : gMet l Γ yX6_set wsX6_set fr lo [.ref (gad Γ 475), .int a, .int d] M R O (some (.int v)) M1 R1 O) : gWrp l Γ yL_trySet wsL_trySet 9 180 [.ref (gad Γ 475), .int a, .int d] M R O (some (.int v)) M1 R1 O := by
  refine g_startW (cc := cL_trySet) (maxL := 4) (ret := (some .int)) (hh := [(0, 6, 7, 13)]) (by decide) rfl (Nat.le_of_ble_eq_true rfl) ?_
  intro p e s m below meth c ls hx hb hml hrt hts hown hlocks hname hK hZ hG hS hl hX hY hnx
  have hl : lv_has ls 4 [(0, .ref (gad Γ 475)), (1, .int a), (2, .int d)] := hl
  have hown : s.vm.findClass RL = some m.cls := hown
  have hF : CallFix p m c cL_trySet 4 s _ wsL_trySet RL := ⟨hx, hb, hml, hown, hts⟩
  refine lv_aload_n hx hb dL_trySet_0 rfl (lv_at hl 0 rfl) ?_
  refine lv_iload_n hx hb dL_trySet_1 rfl (lv_at hl 1 rfl) ?_
  refine lv_iload_n hx hb dL_trySet_2 rfl (lv_at hl 2 rfl) ?_
  refine g_callV (As := [.int a, .int d]) (rest := []) (st1 := [.int v]) hF hM (cwV 2 hts gL_trySet_X6_set rfl rfl rfl (by decide +kernel) ⟨(by show fr + 1 ≤ 9; omega), (by show 8 + (_ + 11) + lo ≤ 180; omega)⟩) hK hZ hG hS h475 (show gC 475 = (6, 32, 0) from rfl) (by decide) rfl rfl hl.1 (Nat.le_of_ble_eq_true rfl) dL_trySet_3 ⟨Nat.zero_le _, Nat.zero_le _⟩ rfl rfl (fun H locs hG hS => ?_)
  refine W.widen (k := 1) (n := 6) (by decide) (by decide) ?_
  exact vx_ret (g_iret hx hb hrt hlocks hS hG rfl rfl dL_trySet_6)
set_option maxHeartbeats 4000000 in
set_option maxRecDepth 100000 in
theorem wL_trySet_t1 {l : Launch} {Γ : gX} (h475 : 475 ∈ gcs Γ) {fr lo : Nat} (hfr : fr ≤ 8) (hlo : lo ≤ 140) {M M1 : Nat → Nat → Int32} {R R1 : Nat → Nat → Option Nat} {O : Int64} (a : Int32) (d : Int32) (hM : gThr l Γ yX6_set wsX6_set fr lo [.ref (gad Γ 475), .int a, .int d] M R O "java/lang/IllegalArgumentException" M1 R1 O) : gWrp l Γ yL_trySet wsL_trySet 9 180 [.ref (gad Γ 475), .int a, .int d] M R O (some (.int (-9999002))) M1 R1 O := by
  refine g_startW (cc := cL_trySet) (maxL := 4) (ret := (some .int)) (hh := [(0, 6, 7, 13)]) (by decide) rfl (Nat.le_of_ble_eq_true rfl) ?_
  intro p e s m below meth c ls hx hb hml hrt hts hown hlocks hname hK hZ hG hS hl hX hY hnx
  have hl : lv_has ls 4 [(0, .ref (gad Γ 475)), (1, .int a), (2, .int d)] := hl
  have hown : s.vm.findClass RL = some m.cls := hown
  have hF : CallFix p m c cL_trySet 4 s _ wsL_trySet RL := ⟨hx, hb, hml, hown, hts⟩
  refine lv_aload_n hx hb dL_trySet_0 rfl (lv_at hl 0 rfl) ?_
  refine lv_iload_n hx hb dL_trySet_1 rfl (lv_at hl 1 rfl) ?_
  refine lv_iload_n hx hb dL_trySet_2 rfl (lv_at hl 2 rfl) ?_
  refine g_xVc (As := [.int a, .int d]) (rest := []) hF hM (cwV 2 hts gL_trySet_X6_set rfl rfl rfl (by decide +kernel) ⟨(by show fr + 1 ≤ 9; omega), (by show 8 + (_ + 11) + lo ≤ 180; omega)⟩) hK hZ hX hG hS h475 (show gC 475 = (6, 32, 0) from rfl) (by decide) rfl rfl hl.1 (Nat.le_of_ble_eq_true rfl) dL_trySet_3 ⟨Nat.le_of_ble_eq_true rfl, Nat.le_of_ble_eq_true rfl⟩ rfl (fun ce q9 H locs hG hS hce hcv hcl => ?_)
  refine vx_catch (name := "java/lang/IllegalArgumentException") hown [] ⟨0, 6, 7, 13⟩ [] (by rw [hnx]; rfl) (fun _ h => absurd h List.not_mem_nil) (by decide) (by decide) (hts (Cond.classLink RL 13 "java/lang/IllegalArgumentException") (by decide +kernel)) (gx_cast hX (by decide +kernel)) hce hcv hcl ?_
  refine lv_astore_n (lv' := [(3, .ref q9), (0, .ref (gad Γ 475)), (1, .int a), (2, .int d)]) hx hb dL_trySet_7 rfl hl (by decide) rfl (fun ls hl => ?_)
  refine lv_ldc hx hb hown (hts (Cond.constant RL 15 (-9999002)) (by decide +kernel)) dL_trySet_8 ?_
  exact vx_ret (g_iret hx hb hrt hlocks hS hG rfl rfl dL_trySet_10)
