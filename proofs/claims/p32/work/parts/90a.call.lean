/-! THE LAW: its call, case by case. Laid by gen/r90.py. -/
set_option maxHeartbeats 4000000 in
set_option maxRecDepth 100000 in
theorem lc_tryAppend {l : Launch} {Γ : gX} {Sh Sh1 : Heap → Prop} {v : Int32} (a d e1 e2 : Int32) (hM : lW l Γ yL_tryAppend wsL_tryAppend [.ref (gad Γ 475), .int a] Sh v Sh1) : lM l Γ yL_call wqL_call 10 204 1 [.ref (gad Γ 475), .int 0, .int a, .int d, .int e1, .int e2] Sh (some (.int v)) Sh1 := by
  refine l_start (cc := cL_call) (maxL := 6) (ret := (some .int)) (by decide) rfl (Nat.le_of_ble_eq_true rfl) ?_
  intro p e s m below meth c ls hx hb hml hrt hts hown hlocks hK hZ hX hY hG hS hl
  have hl : lv_has ls 6 [(0, .ref (gad Γ 475)), (1, .int 0), (2, .int a), (3, .int d), (4, .int e1), (5, .int e2)] := hl
  have hown : s.vm.findClass RL = some m.cls := hown
  have hF : CallFix p m c cL_call 6 s _ wqL_call RL := ⟨hx, hb, hml, hown, hts⟩
  refine lv_iload_n hx hb dL_call_0 rfl (lv_at hl 1 rfl) ?_
  refine lv_tableIn (tgt := 108) hx hb dL_call_1 (by decide) (by decide) rfl (by decide) ?_
  refine lv_aload_n hx hb dL_call_108 rfl (lv_at hl 0 rfl) ?_
  refine lv_iload_n hx hb dL_call_109 rfl (lv_at hl 2 rfl) ?_
  refine l_callW (X := 0) (K := 1) (CC := 1) (As := [.ref (gad Γ 475), .int a]) (rest := []) (st1 := [.int v]) hF hM (vx_cwSW 2 hts qL_tryAppend rfl rfl rfl (by decide +kernel) ⟨Nat.le_of_ble_eq_true rfl, Nat.le_of_ble_eq_true rfl⟩) hK hZ hX hY hG hS rfl hl.1 (Nat.le_of_ble_eq_true rfl) dL_call_110 ⟨Nat.le_of_ble_eq_true rfl, Nat.le_of_ble_eq_true rfl⟩ (by omega) (by omega) rfl rfl (fun H locs hG hS => ?_)
  exact l_iret hx hb hrt hlocks hS hG rfl (by omega) dL_call_113
set_option maxHeartbeats 4000000 in
set_option maxRecDepth 100000 in
theorem lc_tryLoad {l : Launch} {Γ : gX} {Sh Sh1 : Heap → Prop} {v : Int32} (a d e1 e2 : Int32) (hM : lW l Γ yL_tryLoad wsL_tryLoad [.ref (gad Γ 475)] Sh v Sh1) : lM l Γ yL_call wqL_call 10 204 1 [.ref (gad Γ 475), .int 1, .int a, .int d, .int e1, .int e2] Sh (some (.int v)) Sh1 := by
  refine l_start (cc := cL_call) (maxL := 6) (ret := (some .int)) (by decide) rfl (Nat.le_of_ble_eq_true rfl) ?_
  intro p e s m below meth c ls hx hb hml hrt hts hown hlocks hK hZ hX hY hG hS hl
  have hl : lv_has ls 6 [(0, .ref (gad Γ 475)), (1, .int 1), (2, .int a), (3, .int d), (4, .int e1), (5, .int e2)] := hl
  have hown : s.vm.findClass RL = some m.cls := hown
  have hF : CallFix p m c cL_call 6 s _ wqL_call RL := ⟨hx, hb, hml, hown, hts⟩
  refine lv_iload_n hx hb dL_call_0 rfl (lv_at hl 1 rfl) ?_
  refine lv_tableIn (tgt := 114) hx hb dL_call_1 (by decide) (by decide) rfl (by decide) ?_
  refine lv_aload_n hx hb dL_call_114 rfl (lv_at hl 0 rfl) ?_
  refine l_callW (X := 0) (K := 1) (CC := 1) (As := [.ref (gad Γ 475)]) (rest := []) (st1 := [.int v]) hF hM (vx_cwSW 1 hts qL_tryLoad rfl rfl rfl (by decide +kernel) ⟨Nat.le_of_ble_eq_true rfl, Nat.le_of_ble_eq_true rfl⟩) hK hZ hX hY hG hS rfl hl.1 (Nat.le_of_ble_eq_true rfl) dL_call_115 ⟨Nat.le_of_ble_eq_true rfl, Nat.le_of_ble_eq_true rfl⟩ (by omega) (by omega) rfl rfl (fun H locs hG hS => ?_)
  exact l_iret hx hb hrt hlocks hS hG rfl (by omega) dL_call_118
set_option maxHeartbeats 4000000 in
set_option maxRecDepth 100000 in
theorem lc_tryAbout {l : Launch} {Γ : gX} {Sh Sh1 : Heap → Prop} {v : Int32} (a d e1 e2 : Int32) (hM : lW l Γ yL_tryAbout wsL_tryAbout [.ref (gad Γ 475), .int a] Sh v Sh1) : lM l Γ yL_call wqL_call 10 204 1 [.ref (gad Γ 475), .int 2, .int a, .int d, .int e1, .int e2] Sh (some (.int v)) Sh1 := by
  refine l_start (cc := cL_call) (maxL := 6) (ret := (some .int)) (by decide) rfl (Nat.le_of_ble_eq_true rfl) ?_
  intro p e s m below meth c ls hx hb hml hrt hts hown hlocks hK hZ hX hY hG hS hl
  have hl : lv_has ls 6 [(0, .ref (gad Γ 475)), (1, .int 2), (2, .int a), (3, .int d), (4, .int e1), (5, .int e2)] := hl
  have hown : s.vm.findClass RL = some m.cls := hown
  have hF : CallFix p m c cL_call 6 s _ wqL_call RL := ⟨hx, hb, hml, hown, hts⟩
  refine lv_iload_n hx hb dL_call_0 rfl (lv_at hl 1 rfl) ?_
  refine lv_tableIn (tgt := 119) hx hb dL_call_1 (by decide) (by decide) rfl (by decide) ?_
  refine lv_aload_n hx hb dL_call_119 rfl (lv_at hl 0 rfl) ?_
  refine lv_iload_n hx hb dL_call_120 rfl (lv_at hl 2 rfl) ?_
  refine l_callW (X := 0) (K := 1) (CC := 1) (As := [.ref (gad Γ 475), .int a]) (rest := []) (st1 := [.int v]) hF hM (vx_cwSW 2 hts qL_tryAbout rfl rfl rfl (by decide +kernel) ⟨Nat.le_of_ble_eq_true rfl, Nat.le_of_ble_eq_true rfl⟩) hK hZ hX hY hG hS rfl hl.1 (Nat.le_of_ble_eq_true rfl) dL_call_121 ⟨Nat.le_of_ble_eq_true rfl, Nat.le_of_ble_eq_true rfl⟩ (by omega) (by omega) rfl rfl (fun H locs hG hS => ?_)
  exact l_iret hx hb hrt hlocks hS hG rfl (by omega) dL_call_124
set_option maxHeartbeats 4000000 in
set_option maxRecDepth 100000 in
theorem lc_trySegment {l : Launch} {Γ : gX} {Sh Sh1 : Heap → Prop} {v : Int32} (a d e1 e2 : Int32) (hM : lW l Γ yL_trySegment wsL_trySegment [.ref (gad Γ 475), .int a, .int d] Sh v Sh1) : lM l Γ yL_call wqL_call 10 204 1 [.ref (gad Γ 475), .int 3, .int a, .int d, .int e1, .int e2] Sh (some (.int v)) Sh1 := by
  refine l_start (cc := cL_call) (maxL := 6) (ret := (some .int)) (by decide) rfl (Nat.le_of_ble_eq_true rfl) ?_
  intro p e s m below meth c ls hx hb hml hrt hts hown hlocks hK hZ hX hY hG hS hl
  have hl : lv_has ls 6 [(0, .ref (gad Γ 475)), (1, .int 3), (2, .int a), (3, .int d), (4, .int e1), (5, .int e2)] := hl
  have hown : s.vm.findClass RL = some m.cls := hown
  have hF : CallFix p m c cL_call 6 s _ wqL_call RL := ⟨hx, hb, hml, hown, hts⟩
  refine lv_iload_n hx hb dL_call_0 rfl (lv_at hl 1 rfl) ?_
  refine lv_tableIn (tgt := 125) hx hb dL_call_1 (by decide) (by decide) rfl (by decide) ?_
  refine lv_aload_n hx hb dL_call_125 rfl (lv_at hl 0 rfl) ?_
  refine lv_iload_n hx hb dL_call_126 rfl (lv_at hl 2 rfl) ?_
  refine lv_iload_n hx hb dL_call_127 rfl (lv_at hl 3 rfl) ?_
  refine l_callW (X := 0) (K := 1) (CC := 1) (As := [.ref (gad Γ 475), .int a, .int d]) (rest := []) (st1 := [.int v]) hF hM (vx_cwSW 3 hts qL_trySegment rfl rfl rfl (by decide +kernel) ⟨Nat.le_of_ble_eq_true rfl, Nat.le_of_ble_eq_true rfl⟩) hK hZ hX hY hG hS rfl hl.1 (Nat.le_of_ble_eq_true rfl) dL_call_128 ⟨Nat.le_of_ble_eq_true rfl, Nat.le_of_ble_eq_true rfl⟩ (by omega) (by omega) rfl rfl (fun H locs hG hS => ?_)
  exact l_iret hx hb hrt hlocks hS hG rfl (by omega) dL_call_131
set_option maxHeartbeats 4000000 in
set_option maxRecDepth 100000 in
theorem lc_tryHouse {l : Launch} {Γ : gX} {Sh Sh1 : Heap → Prop} {v : Int32} (a d e1 e2 : Int32) (hM : lW l Γ yL_tryHouse wsL_tryHouse [.ref (gad Γ 475), .int a, .int d] Sh v Sh1) : lM l Γ yL_call wqL_call 10 204 1 [.ref (gad Γ 475), .int 4, .int a, .int d, .int e1, .int e2] Sh (some (.int v)) Sh1 := by
  refine l_start (cc := cL_call) (maxL := 6) (ret := (some .int)) (by decide) rfl (Nat.le_of_ble_eq_true rfl) ?_
  intro p e s m below meth c ls hx hb hml hrt hts hown hlocks hK hZ hX hY hG hS hl
  have hl : lv_has ls 6 [(0, .ref (gad Γ 475)), (1, .int 4), (2, .int a), (3, .int d), (4, .int e1), (5, .int e2)] := hl
  have hown : s.vm.findClass RL = some m.cls := hown
  have hF : CallFix p m c cL_call 6 s _ wqL_call RL := ⟨hx, hb, hml, hown, hts⟩
  refine lv_iload_n hx hb dL_call_0 rfl (lv_at hl 1 rfl) ?_
  refine lv_tableIn (tgt := 132) hx hb dL_call_1 (by decide) (by decide) rfl (by decide) ?_
  refine lv_aload_n hx hb dL_call_132 rfl (lv_at hl 0 rfl) ?_
  refine lv_iload_n hx hb dL_call_133 rfl (lv_at hl 2 rfl) ?_
  refine lv_iload_n hx hb dL_call_134 rfl (lv_at hl 3 rfl) ?_
  refine l_callW (X := 0) (K := 1) (CC := 1) (As := [.ref (gad Γ 475), .int a, .int d]) (rest := []) (st1 := [.int v]) hF hM (vx_cwSW 3 hts qL_tryHouse rfl rfl rfl (by decide +kernel) ⟨Nat.le_of_ble_eq_true rfl, Nat.le_of_ble_eq_true rfl⟩) hK hZ hX hY hG hS rfl hl.1 (Nat.le_of_ble_eq_true rfl) dL_call_135 ⟨Nat.le_of_ble_eq_true rfl, Nat.le_of_ble_eq_true rfl⟩ (by omega) (by omega) rfl rfl (fun H locs hG hS => ?_)
  exact l_iret hx hb hrt hlocks hS hG rfl (by omega) dL_call_138
set_option maxHeartbeats 4000000 in
set_option maxRecDepth 100000 in
theorem lc_tryWagon {l : Launch} {Γ : gX} {Sh Sh1 : Heap → Prop} {v : Int32} (a d e1 e2 : Int32) (hM : lW l Γ yL_tryWagon wsL_tryWagon [.ref (gad Γ 475), .int a, .int d] Sh v Sh1) : lM l Γ yL_call wqL_call 10 204 1 [.ref (gad Γ 475), .int 5, .int a, .int d, .int e1, .int e2] Sh (some (.int v)) Sh1 := by
  refine l_start (cc := cL_call) (maxL := 6) (ret := (some .int)) (by decide) rfl (Nat.le_of_ble_eq_true rfl) ?_
  intro p e s m below meth c ls hx hb hml hrt hts hown hlocks hK hZ hX hY hG hS hl
  have hl : lv_has ls 6 [(0, .ref (gad Γ 475)), (1, .int 5), (2, .int a), (3, .int d), (4, .int e1), (5, .int e2)] := hl
  have hown : s.vm.findClass RL = some m.cls := hown
  have hF : CallFix p m c cL_call 6 s _ wqL_call RL := ⟨hx, hb, hml, hown, hts⟩
  refine lv_iload_n hx hb dL_call_0 rfl (lv_at hl 1 rfl) ?_
  refine lv_tableIn (tgt := 139) hx hb dL_call_1 (by decide) (by decide) rfl (by decide) ?_
  refine lv_aload_n hx hb dL_call_139 rfl (lv_at hl 0 rfl) ?_
  refine lv_iload_n hx hb dL_call_140 rfl (lv_at hl 2 rfl) ?_
  refine lv_iload_n hx hb dL_call_141 rfl (lv_at hl 3 rfl) ?_
  refine l_callW (X := 0) (K := 1) (CC := 1) (As := [.ref (gad Γ 475), .int a, .int d]) (rest := []) (st1 := [.int v]) hF hM (vx_cwSW 3 hts qL_tryWagon rfl rfl rfl (by decide +kernel) ⟨Nat.le_of_ble_eq_true rfl, Nat.le_of_ble_eq_true rfl⟩) hK hZ hX hY hG hS rfl hl.1 (Nat.le_of_ble_eq_true rfl) dL_call_142 ⟨Nat.le_of_ble_eq_true rfl, Nat.le_of_ble_eq_true rfl⟩ (by omega) (by omega) rfl rfl (fun H locs hG hS => ?_)
  exact l_iret hx hb hrt hlocks hS hG rfl (by omega) dL_call_145
set_option maxHeartbeats 4000000 in
set_option maxRecDepth 100000 in
theorem lc_tryBuild {l : Launch} {Γ : gX} {Sh Sh1 : Heap → Prop} {v : Int32} (a d e1 e2 : Int32) (hM : lW l Γ yL_tryBuild wsL_tryBuild [.ref (gad Γ 475), .int a, .int d] Sh v Sh1) : lM l Γ yL_call wqL_call 10 204 1 [.ref (gad Γ 475), .int 6, .int a, .int d, .int e1, .int e2] Sh (some (.int v)) Sh1 := by
  refine l_start (cc := cL_call) (maxL := 6) (ret := (some .int)) (by decide) rfl (Nat.le_of_ble_eq_true rfl) ?_
  intro p e s m below meth c ls hx hb hml hrt hts hown hlocks hK hZ hX hY hG hS hl
  have hl : lv_has ls 6 [(0, .ref (gad Γ 475)), (1, .int 6), (2, .int a), (3, .int d), (4, .int e1), (5, .int e2)] := hl
  have hown : s.vm.findClass RL = some m.cls := hown
  have hF : CallFix p m c cL_call 6 s _ wqL_call RL := ⟨hx, hb, hml, hown, hts⟩
  refine lv_iload_n hx hb dL_call_0 rfl (lv_at hl 1 rfl) ?_
  refine lv_tableIn (tgt := 146) hx hb dL_call_1 (by decide) (by decide) rfl (by decide) ?_
  refine lv_aload_n hx hb dL_call_146 rfl (lv_at hl 0 rfl) ?_
  refine lv_iload_n hx hb dL_call_147 rfl (lv_at hl 2 rfl) ?_
  refine lv_iload_n hx hb dL_call_148 rfl (lv_at hl 3 rfl) ?_
  refine l_callW (X := 0) (K := 1) (CC := 1) (As := [.ref (gad Γ 475), .int a, .int d]) (rest := []) (st1 := [.int v]) hF hM (vx_cwSW 3 hts qL_tryBuild rfl rfl rfl (by decide +kernel) ⟨Nat.le_of_ble_eq_true rfl, Nat.le_of_ble_eq_true rfl⟩) hK hZ hX hY hG hS rfl hl.1 (Nat.le_of_ble_eq_true rfl) dL_call_149 ⟨Nat.le_of_ble_eq_true rfl, Nat.le_of_ble_eq_true rfl⟩ (by omega) (by omega) rfl rfl (fun H locs hG hS => ?_)
  exact l_iret hx hb hrt hlocks hS hG rfl (by omega) dL_call_152
set_option maxHeartbeats 4000000 in
set_option maxRecDepth 100000 in
theorem lc_tryBring {l : Launch} {Γ : gX} {Sh Sh1 : Heap → Prop} {v : Int32} (a d e1 e2 : Int32) (hM : lW l Γ yL_tryBring wsL_tryBring [.ref (gad Γ 475), .int a] Sh v Sh1) : lM l Γ yL_call wqL_call 10 204 1 [.ref (gad Γ 475), .int 7, .int a, .int d, .int e1, .int e2] Sh (some (.int v)) Sh1 := by
  refine l_start (cc := cL_call) (maxL := 6) (ret := (some .int)) (by decide) rfl (Nat.le_of_ble_eq_true rfl) ?_
  intro p e s m below meth c ls hx hb hml hrt hts hown hlocks hK hZ hX hY hG hS hl
  have hl : lv_has ls 6 [(0, .ref (gad Γ 475)), (1, .int 7), (2, .int a), (3, .int d), (4, .int e1), (5, .int e2)] := hl
  have hown : s.vm.findClass RL = some m.cls := hown
  have hF : CallFix p m c cL_call 6 s _ wqL_call RL := ⟨hx, hb, hml, hown, hts⟩
  refine lv_iload_n hx hb dL_call_0 rfl (lv_at hl 1 rfl) ?_
  refine lv_tableIn (tgt := 153) hx hb dL_call_1 (by decide) (by decide) rfl (by decide) ?_
  refine lv_aload_n hx hb dL_call_153 rfl (lv_at hl 0 rfl) ?_
  refine lv_iload_n hx hb dL_call_154 rfl (lv_at hl 2 rfl) ?_
  refine l_callW (X := 0) (K := 1) (CC := 1) (As := [.ref (gad Γ 475), .int a]) (rest := []) (st1 := [.int v]) hF hM (vx_cwSW 2 hts qL_tryBring rfl rfl rfl (by decide +kernel) ⟨Nat.le_of_ble_eq_true rfl, Nat.le_of_ble_eq_true rfl⟩) hK hZ hX hY hG hS rfl hl.1 (Nat.le_of_ble_eq_true rfl) dL_call_155 ⟨Nat.le_of_ble_eq_true rfl, Nat.le_of_ble_eq_true rfl⟩ (by omega) (by omega) rfl rfl (fun H locs hG hS => ?_)
  exact l_iret hx hb hrt hlocks hS hG rfl (by omega) dL_call_158
set_option maxHeartbeats 4000000 in
set_option maxRecDepth 100000 in
theorem lc_trySurface {l : Launch} {Γ : gX} {Sh Sh1 : Heap → Prop} {v : Int32} (a d e1 e2 : Int32) (hM : lW l Γ yL_trySurface wsL_trySurface [.ref (gad Γ 475), .int a, .int d] Sh v Sh1) : lM l Γ yL_call wqL_call 10 204 1 [.ref (gad Γ 475), .int 8, .int a, .int d, .int e1, .int e2] Sh (some (.int v)) Sh1 := by
  refine l_start (cc := cL_call) (maxL := 6) (ret := (some .int)) (by decide) rfl (Nat.le_of_ble_eq_true rfl) ?_
  intro p e s m below meth c ls hx hb hml hrt hts hown hlocks hK hZ hX hY hG hS hl
  have hl : lv_has ls 6 [(0, .ref (gad Γ 475)), (1, .int 8), (2, .int a), (3, .int d), (4, .int e1), (5, .int e2)] := hl
  have hown : s.vm.findClass RL = some m.cls := hown
  have hF : CallFix p m c cL_call 6 s _ wqL_call RL := ⟨hx, hb, hml, hown, hts⟩
  refine lv_iload_n hx hb dL_call_0 rfl (lv_at hl 1 rfl) ?_
  refine lv_tableIn (tgt := 159) hx hb dL_call_1 (by decide) (by decide) rfl (by decide) ?_
  refine lv_aload_n hx hb dL_call_159 rfl (lv_at hl 0 rfl) ?_
  refine lv_iload_n hx hb dL_call_160 rfl (lv_at hl 2 rfl) ?_
  refine lv_iload_n hx hb dL_call_161 rfl (lv_at hl 3 rfl) ?_
  refine l_callW (X := 0) (K := 1) (CC := 1) (As := [.ref (gad Γ 475), .int a, .int d]) (rest := []) (st1 := [.int v]) hF hM (vx_cwSW 3 hts qL_trySurface rfl rfl rfl (by decide +kernel) ⟨Nat.le_of_ble_eq_true rfl, Nat.le_of_ble_eq_true rfl⟩) hK hZ hX hY hG hS rfl hl.1 (Nat.le_of_ble_eq_true rfl) dL_call_162 ⟨Nat.le_of_ble_eq_true rfl, Nat.le_of_ble_eq_true rfl⟩ (by omega) (by omega) rfl rfl (fun H locs hG hS => ?_)
  exact l_iret hx hb hrt hlocks hS hG rfl (by omega) dL_call_165
set_option maxHeartbeats 4000000 in
set_option maxRecDepth 100000 in
theorem lc_tryLimit {l : Launch} {Γ : gX} {Sh Sh1 : Heap → Prop} {v : Int32} (a d e1 e2 : Int32) (hM : lW l Γ yL_tryLimit wsL_tryLimit [.ref (gad Γ 475), .int a, .int d] Sh v Sh1) : lM l Γ yL_call wqL_call 10 204 1 [.ref (gad Γ 475), .int 9, .int a, .int d, .int e1, .int e2] Sh (some (.int v)) Sh1 := by
  refine l_start (cc := cL_call) (maxL := 6) (ret := (some .int)) (by decide) rfl (Nat.le_of_ble_eq_true rfl) ?_
  intro p e s m below meth c ls hx hb hml hrt hts hown hlocks hK hZ hX hY hG hS hl
  have hl : lv_has ls 6 [(0, .ref (gad Γ 475)), (1, .int 9), (2, .int a), (3, .int d), (4, .int e1), (5, .int e2)] := hl
  have hown : s.vm.findClass RL = some m.cls := hown
  have hF : CallFix p m c cL_call 6 s _ wqL_call RL := ⟨hx, hb, hml, hown, hts⟩
  refine lv_iload_n hx hb dL_call_0 rfl (lv_at hl 1 rfl) ?_
  refine lv_tableIn (tgt := 166) hx hb dL_call_1 (by decide) (by decide) rfl (by decide) ?_
  refine lv_aload_n hx hb dL_call_166 rfl (lv_at hl 0 rfl) ?_
  refine lv_iload_n hx hb dL_call_167 rfl (lv_at hl 2 rfl) ?_
  refine lv_iload_n hx hb dL_call_168 rfl (lv_at hl 3 rfl) ?_
  refine l_callW (X := 0) (K := 1) (CC := 1) (As := [.ref (gad Γ 475), .int a, .int d]) (rest := []) (st1 := [.int v]) hF hM (vx_cwSW 3 hts qL_tryLimit rfl rfl rfl (by decide +kernel) ⟨Nat.le_of_ble_eq_true rfl, Nat.le_of_ble_eq_true rfl⟩) hK hZ hX hY hG hS rfl hl.1 (Nat.le_of_ble_eq_true rfl) dL_call_169 ⟨Nat.le_of_ble_eq_true rfl, Nat.le_of_ble_eq_true rfl⟩ (by omega) (by omega) rfl rfl (fun H locs hG hS => ?_)
  exact l_iret hx hb hrt hlocks hS hG rfl (by omega) dL_call_172
set_option maxHeartbeats 4000000 in
set_option maxRecDepth 100000 in
theorem lc_trySet {l : Launch} {Γ : gX} {Sh Sh1 : Heap → Prop} {v : Int32} (a d e1 e2 : Int32) (hM : lW l Γ yL_trySet wsL_trySet [.ref (gad Γ 475), .int a, .int d] Sh v Sh1) : lM l Γ yL_call wqL_call 10 204 1 [.ref (gad Γ 475), .int 10, .int a, .int d, .int e1, .int e2] Sh (some (.int v)) Sh1 := by
  refine l_start (cc := cL_call) (maxL := 6) (ret := (some .int)) (by decide) rfl (Nat.le_of_ble_eq_true rfl) ?_
  intro p e s m below meth c ls hx hb hml hrt hts hown hlocks hK hZ hX hY hG hS hl
  have hl : lv_has ls 6 [(0, .ref (gad Γ 475)), (1, .int 10), (2, .int a), (3, .int d), (4, .int e1), (5, .int e2)] := hl
  have hown : s.vm.findClass RL = some m.cls := hown
  have hF : CallFix p m c cL_call 6 s _ wqL_call RL := ⟨hx, hb, hml, hown, hts⟩
  refine lv_iload_n hx hb dL_call_0 rfl (lv_at hl 1 rfl) ?_
  refine lv_tableIn (tgt := 173) hx hb dL_call_1 (by decide) (by decide) rfl (by decide) ?_
  refine lv_aload_n hx hb dL_call_173 rfl (lv_at hl 0 rfl) ?_
  refine lv_iload_n hx hb dL_call_174 rfl (lv_at hl 2 rfl) ?_
  refine lv_iload_n hx hb dL_call_175 rfl (lv_at hl 3 rfl) ?_
  refine l_callW (X := 0) (K := 1) (CC := 1) (As := [.ref (gad Γ 475), .int a, .int d]) (rest := []) (st1 := [.int v]) hF hM (vx_cwSW 3 hts qL_trySet rfl rfl rfl (by decide +kernel) ⟨Nat.le_of_ble_eq_true rfl, Nat.le_of_ble_eq_true rfl⟩) hK hZ hX hY hG hS rfl hl.1 (Nat.le_of_ble_eq_true rfl) dL_call_176 ⟨Nat.le_of_ble_eq_true rfl, Nat.le_of_ble_eq_true rfl⟩ (by omega) (by omega) rfl rfl (fun H locs hG hS => ?_)
  exact l_iret hx hb hrt hlocks hS hG rfl (by omega) dL_call_179
set_option maxHeartbeats 4000000 in
set_option maxRecDepth 100000 in
theorem lc_tryDrive {l : Launch} {Γ : gX} {Sh Sh1 : Heap → Prop} {v : Int32} (a d e1 e2 : Int32) (hM : lW l Γ yL_tryDrive wsL_tryDrive [.ref (gad Γ 475), .int a, .int d] Sh v Sh1) : lM l Γ yL_call wqL_call 10 204 1 [.ref (gad Γ 475), .int 11, .int a, .int d, .int e1, .int e2] Sh (some (.int v)) Sh1 := by
  refine l_start (cc := cL_call) (maxL := 6) (ret := (some .int)) (by decide) rfl (Nat.le_of_ble_eq_true rfl) ?_
  intro p e s m below meth c ls hx hb hml hrt hts hown hlocks hK hZ hX hY hG hS hl
  have hl : lv_has ls 6 [(0, .ref (gad Γ 475)), (1, .int 11), (2, .int a), (3, .int d), (4, .int e1), (5, .int e2)] := hl
  have hown : s.vm.findClass RL = some m.cls := hown
  have hF : CallFix p m c cL_call 6 s _ wqL_call RL := ⟨hx, hb, hml, hown, hts⟩
  refine lv_iload_n hx hb dL_call_0 rfl (lv_at hl 1 rfl) ?_
  refine lv_tableIn (tgt := 180) hx hb dL_call_1 (by decide) (by decide) rfl (by decide) ?_
  refine lv_aload_n hx hb dL_call_180 rfl (lv_at hl 0 rfl) ?_
  refine lv_iload_n hx hb dL_call_181 rfl (lv_at hl 2 rfl) ?_
  refine lv_iload_n hx hb dL_call_182 rfl (lv_at hl 3 rfl) ?_
  refine l_callW (X := 0) (K := 1) (CC := 1) (As := [.ref (gad Γ 475), .int a, .int d]) (rest := []) (st1 := [.int v]) hF hM (vx_cwSW 3 hts qL_tryDrive rfl rfl rfl (by decide +kernel) ⟨Nat.le_of_ble_eq_true rfl, Nat.le_of_ble_eq_true rfl⟩) hK hZ hX hY hG hS rfl hl.1 (Nat.le_of_ble_eq_true rfl) dL_call_183 ⟨Nat.le_of_ble_eq_true rfl, Nat.le_of_ble_eq_true rfl⟩ (by omega) (by omega) rfl rfl (fun H locs hG hS => ?_)
  exact l_iret hx hb hrt hlocks hS hG rfl (by omega) dL_call_186
set_option maxHeartbeats 4000000 in
set_option maxRecDepth 100000 in
theorem lc_trySpray {l : Launch} {Γ : gX} {Sh Sh1 : Heap → Prop} {v : Int32} (a d e1 e2 : Int32) (hM : lW l Γ yL_trySpray wsL_trySpray [.ref (gad Γ 475), .int a, .int d] Sh v Sh1) : lM l Γ yL_call wqL_call 10 204 1 [.ref (gad Γ 475), .int 12, .int a, .int d, .int e1, .int e2] Sh (some (.int v)) Sh1 := by
  refine l_start (cc := cL_call) (maxL := 6) (ret := (some .int)) (by decide) rfl (Nat.le_of_ble_eq_true rfl) ?_
  intro p e s m below meth c ls hx hb hml hrt hts hown hlocks hK hZ hX hY hG hS hl
  have hl : lv_has ls 6 [(0, .ref (gad Γ 475)), (1, .int 12), (2, .int a), (3, .int d), (4, .int e1), (5, .int e2)] := hl
  have hown : s.vm.findClass RL = some m.cls := hown
  have hF : CallFix p m c cL_call 6 s _ wqL_call RL := ⟨hx, hb, hml, hown, hts⟩
  refine lv_iload_n hx hb dL_call_0 rfl (lv_at hl 1 rfl) ?_
  refine lv_tableIn (tgt := 187) hx hb dL_call_1 (by decide) (by decide) rfl (by decide) ?_
  refine lv_aload_n hx hb dL_call_187 rfl (lv_at hl 0 rfl) ?_
  refine lv_iload_n hx hb dL_call_188 rfl (lv_at hl 2 rfl) ?_
  refine lv_iload_n hx hb dL_call_189 rfl (lv_at hl 3 rfl) ?_
  refine l_callW (X := 0) (K := 1) (CC := 1) (As := [.ref (gad Γ 475), .int a, .int d]) (rest := []) (st1 := [.int v]) hF hM (vx_cwSW 3 hts qL_trySpray rfl rfl rfl (by decide +kernel) ⟨Nat.le_of_ble_eq_true rfl, Nat.le_of_ble_eq_true rfl⟩) hK hZ hX hY hG hS rfl hl.1 (Nat.le_of_ble_eq_true rfl) dL_call_190 ⟨Nat.le_of_ble_eq_true rfl, Nat.le_of_ble_eq_true rfl⟩ (by omega) (by omega) rfl rfl (fun H locs hG hS => ?_)
  exact l_iret hx hb hrt hlocks hS hG rfl (by omega) dL_call_193
set_option maxHeartbeats 4000000 in
set_option maxRecDepth 100000 in
theorem lc_tryFill {l : Launch} {Γ : gX} {Sh Sh1 : Heap → Prop} {v : Int32} (a d e1 e2 : Int32) (hM : lW l Γ yL_tryFill wsL_tryFill [.ref (gad Γ 475), .int a] Sh v Sh1) : lM l Γ yL_call wqL_call 10 204 1 [.ref (gad Γ 475), .int 13, .int a, .int d, .int e1, .int e2] Sh (some (.int v)) Sh1 := by
  refine l_start (cc := cL_call) (maxL := 6) (ret := (some .int)) (by decide) rfl (Nat.le_of_ble_eq_true rfl) ?_
  intro p e s m below meth c ls hx hb hml hrt hts hown hlocks hK hZ hX hY hG hS hl
  have hl : lv_has ls 6 [(0, .ref (gad Γ 475)), (1, .int 13), (2, .int a), (3, .int d), (4, .int e1), (5, .int e2)] := hl
  have hown : s.vm.findClass RL = some m.cls := hown
  have hF : CallFix p m c cL_call 6 s _ wqL_call RL := ⟨hx, hb, hml, hown, hts⟩
  refine lv_iload_n hx hb dL_call_0 rfl (lv_at hl 1 rfl) ?_
  refine lv_tableIn (tgt := 194) hx hb dL_call_1 (by decide) (by decide) rfl (by decide) ?_
  refine lv_aload_n hx hb dL_call_194 rfl (lv_at hl 0 rfl) ?_
  refine lv_iload_n hx hb dL_call_195 rfl (lv_at hl 2 rfl) ?_
  refine l_callW (X := 0) (K := 1) (CC := 1) (As := [.ref (gad Γ 475), .int a]) (rest := []) (st1 := [.int v]) hF hM (vx_cwSW 2 hts qL_tryFill rfl rfl rfl (by decide +kernel) ⟨Nat.le_of_ble_eq_true rfl, Nat.le_of_ble_eq_true rfl⟩) hK hZ hX hY hG hS rfl hl.1 (Nat.le_of_ble_eq_true rfl) dL_call_196 ⟨Nat.le_of_ble_eq_true rfl, Nat.le_of_ble_eq_true rfl⟩ (by omega) (by omega) rfl rfl (fun H locs hG hS => ?_)
  exact l_iret hx hb hrt hlocks hS hG rfl (by omega) dL_call_199
set_option maxHeartbeats 4000000 in
set_option maxRecDepth 100000 in
theorem lc_tryPass {l : Launch} {Γ : gX} {Sh Sh1 : Heap → Prop} {v : Int32} (a d e1 e2 : Int32) (hM : lW l Γ yL_tryPass wsL_tryPass [.ref (gad Γ 475), .int a] Sh v Sh1) : lM l Γ yL_call wqL_call 10 204 1 [.ref (gad Γ 475), .int 14, .int a, .int d, .int e1, .int e2] Sh (some (.int v)) Sh1 := by
  refine l_start (cc := cL_call) (maxL := 6) (ret := (some .int)) (by decide) rfl (Nat.le_of_ble_eq_true rfl) ?_
  intro p e s m below meth c ls hx hb hml hrt hts hown hlocks hK hZ hX hY hG hS hl
  have hl : lv_has ls 6 [(0, .ref (gad Γ 475)), (1, .int 14), (2, .int a), (3, .int d), (4, .int e1), (5, .int e2)] := hl
  have hown : s.vm.findClass RL = some m.cls := hown
  have hF : CallFix p m c cL_call 6 s _ wqL_call RL := ⟨hx, hb, hml, hown, hts⟩
  refine lv_iload_n hx hb dL_call_0 rfl (lv_at hl 1 rfl) ?_
  refine lv_tableIn (tgt := 200) hx hb dL_call_1 (by decide) (by decide) rfl (by decide) ?_
  refine lv_aload_n hx hb dL_call_200 rfl (lv_at hl 0 rfl) ?_
  refine lv_iload_n hx hb dL_call_201 rfl (lv_at hl 2 rfl) ?_
  refine l_callW (X := 0) (K := 1) (CC := 1) (As := [.ref (gad Γ 475), .int a]) (rest := []) (st1 := [.int v]) hF hM (vx_cwSW 2 hts qL_tryPass rfl rfl rfl (by decide +kernel) ⟨Nat.le_of_ble_eq_true rfl, Nat.le_of_ble_eq_true rfl⟩) hK hZ hX hY hG hS rfl hl.1 (Nat.le_of_ble_eq_true rfl) dL_call_202 ⟨Nat.le_of_ble_eq_true rfl, Nat.le_of_ble_eq_true rfl⟩ (by omega) (by omega) rfl rfl (fun H locs hG hS => ?_)
  exact l_iret hx hb hrt hlocks hS hG rfl (by omega) dL_call_205
set_option maxHeartbeats 4000000 in
set_option maxRecDepth 100000 in
theorem lc_tryUndo {l : Launch} {Γ : gX} {Sh Sh1 : Heap → Prop} {v : Int32} (a d e1 e2 : Int32) (hM : lW l Γ yL_tryUndo wsL_tryUndo [.ref (gad Γ 475)] Sh v Sh1) : lM l Γ yL_call wqL_call 10 204 1 [.ref (gad Γ 475), .int 15, .int a, .int d, .int e1, .int e2] Sh (some (.int v)) Sh1 := by
  refine l_start (cc := cL_call) (maxL := 6) (ret := (some .int)) (by decide) rfl (Nat.le_of_ble_eq_true rfl) ?_
  intro p e s m below meth c ls hx hb hml hrt hts hown hlocks hK hZ hX hY hG hS hl
  have hl : lv_has ls 6 [(0, .ref (gad Γ 475)), (1, .int 15), (2, .int a), (3, .int d), (4, .int e1), (5, .int e2)] := hl
  have hown : s.vm.findClass RL = some m.cls := hown
  have hF : CallFix p m c cL_call 6 s _ wqL_call RL := ⟨hx, hb, hml, hown, hts⟩
  refine lv_iload_n hx hb dL_call_0 rfl (lv_at hl 1 rfl) ?_
  refine lv_tableIn (tgt := 206) hx hb dL_call_1 (by decide) (by decide) rfl (by decide) ?_
  refine lv_aload_n hx hb dL_call_206 rfl (lv_at hl 0 rfl) ?_
  refine l_callW (X := 0) (K := 1) (CC := 1) (As := [.ref (gad Γ 475)]) (rest := []) (st1 := [.int v]) hF hM (vx_cwSW 1 hts qL_tryUndo rfl rfl rfl (by decide +kernel) ⟨Nat.le_of_ble_eq_true rfl, Nat.le_of_ble_eq_true rfl⟩) hK hZ hX hY hG hS rfl hl.1 (Nat.le_of_ble_eq_true rfl) dL_call_207 ⟨Nat.le_of_ble_eq_true rfl, Nat.le_of_ble_eq_true rfl⟩ (by omega) (by omega) rfl rfl (fun H locs hG hS => ?_)
  exact l_iret hx hb hrt hlocks hS hG rfl (by omega) dL_call_210
set_option maxHeartbeats 4000000 in
set_option maxRecDepth 100000 in
theorem lc_tryWhy {l : Launch} {Γ : gX} {Sh Sh1 : Heap → Prop} {v : Int32} (a d e1 e2 : Int32) (hM : lW l Γ yL_tryWhy wsL_tryWhy [.ref (gad Γ 475), .int a] Sh v Sh1) : lM l Γ yL_call wqL_call 10 204 1 [.ref (gad Γ 475), .int 16, .int a, .int d, .int e1, .int e2] Sh (some (.int v)) Sh1 := by
  refine l_start (cc := cL_call) (maxL := 6) (ret := (some .int)) (by decide) rfl (Nat.le_of_ble_eq_true rfl) ?_
  intro p e s m below meth c ls hx hb hml hrt hts hown hlocks hK hZ hX hY hG hS hl
  have hl : lv_has ls 6 [(0, .ref (gad Γ 475)), (1, .int 16), (2, .int a), (3, .int d), (4, .int e1), (5, .int e2)] := hl
  have hown : s.vm.findClass RL = some m.cls := hown
  have hF : CallFix p m c cL_call 6 s _ wqL_call RL := ⟨hx, hb, hml, hown, hts⟩
  refine lv_iload_n hx hb dL_call_0 rfl (lv_at hl 1 rfl) ?_
  refine lv_tableIn (tgt := 211) hx hb dL_call_1 (by decide) (by decide) rfl (by decide) ?_
  refine lv_aload_n hx hb dL_call_211 rfl (lv_at hl 0 rfl) ?_
  refine lv_iload_n hx hb dL_call_212 rfl (lv_at hl 2 rfl) ?_
  refine l_callW (X := 0) (K := 1) (CC := 1) (As := [.ref (gad Γ 475), .int a]) (rest := []) (st1 := [.int v]) hF hM (vx_cwSW 2 hts qL_tryWhy rfl rfl rfl (by decide +kernel) ⟨Nat.le_of_ble_eq_true rfl, Nat.le_of_ble_eq_true rfl⟩) hK hZ hX hY hG hS rfl hl.1 (Nat.le_of_ble_eq_true rfl) dL_call_213 ⟨Nat.le_of_ble_eq_true rfl, Nat.le_of_ble_eq_true rfl⟩ (by omega) (by omega) rfl rfl (fun H locs hG hS => ?_)
  exact l_iret hx hb hrt hlocks hS hG rfl (by omega) dL_call_216
set_option maxHeartbeats 4000000 in
set_option maxRecDepth 100000 in
theorem lc_tryAhead {l : Launch} {Γ : gX} {Sh Sh1 : Heap → Prop} {v : Int32} (a d e1 e2 : Int32) (hM : lW l Γ yL_tryAhead wsL_tryAhead [.ref (gad Γ 475), .int a, .int d] Sh v Sh1) : lM l Γ yL_call wqL_call 10 204 1 [.ref (gad Γ 475), .int 17, .int a, .int d, .int e1, .int e2] Sh (some (.int v)) Sh1 := by
  refine l_start (cc := cL_call) (maxL := 6) (ret := (some .int)) (by decide) rfl (Nat.le_of_ble_eq_true rfl) ?_
  intro p e s m below meth c ls hx hb hml hrt hts hown hlocks hK hZ hX hY hG hS hl
  have hl : lv_has ls 6 [(0, .ref (gad Γ 475)), (1, .int 17), (2, .int a), (3, .int d), (4, .int e1), (5, .int e2)] := hl
  have hown : s.vm.findClass RL = some m.cls := hown
  have hF : CallFix p m c cL_call 6 s _ wqL_call RL := ⟨hx, hb, hml, hown, hts⟩
  refine lv_iload_n hx hb dL_call_0 rfl (lv_at hl 1 rfl) ?_
  refine lv_tableIn (tgt := 217) hx hb dL_call_1 (by decide) (by decide) rfl (by decide) ?_
  refine lv_aload_n hx hb dL_call_217 rfl (lv_at hl 0 rfl) ?_
  refine lv_iload_n hx hb dL_call_218 rfl (lv_at hl 2 rfl) ?_
  refine lv_iload_n hx hb dL_call_219 rfl (lv_at hl 3 rfl) ?_
  refine l_callW (X := 0) (K := 1) (CC := 1) (As := [.ref (gad Γ 475), .int a, .int d]) (rest := []) (st1 := [.int v]) hF hM (vx_cwSW 3 hts qL_tryAhead rfl rfl rfl (by decide +kernel) ⟨Nat.le_of_ble_eq_true rfl, Nat.le_of_ble_eq_true rfl⟩) hK hZ hX hY hG hS rfl hl.1 (Nat.le_of_ble_eq_true rfl) dL_call_220 ⟨Nat.le_of_ble_eq_true rfl, Nat.le_of_ble_eq_true rfl⟩ (by omega) (by omega) rfl rfl (fun H locs hG hS => ?_)
  exact l_iret hx hb hrt hlocks hS hG rfl (by omega) dL_call_223
set_option maxHeartbeats 4000000 in
set_option maxRecDepth 100000 in
theorem lc_tryWater {l : Launch} {Γ : gX} {Sh Sh1 : Heap → Prop} {v : Int32} (a d e1 e2 : Int32) (hM : lW l Γ yL_tryWater wsL_tryWater [.ref (gad Γ 475), .int a] Sh v Sh1) : lM l Γ yL_call wqL_call 10 204 1 [.ref (gad Γ 475), .int 18, .int a, .int d, .int e1, .int e2] Sh (some (.int v)) Sh1 := by
  refine l_start (cc := cL_call) (maxL := 6) (ret := (some .int)) (by decide) rfl (Nat.le_of_ble_eq_true rfl) ?_
  intro p e s m below meth c ls hx hb hml hrt hts hown hlocks hK hZ hX hY hG hS hl
  have hl : lv_has ls 6 [(0, .ref (gad Γ 475)), (1, .int 18), (2, .int a), (3, .int d), (4, .int e1), (5, .int e2)] := hl
  have hown : s.vm.findClass RL = some m.cls := hown
  have hF : CallFix p m c cL_call 6 s _ wqL_call RL := ⟨hx, hb, hml, hown, hts⟩
  refine lv_iload_n hx hb dL_call_0 rfl (lv_at hl 1 rfl) ?_
  refine lv_tableIn (tgt := 224) hx hb dL_call_1 (by decide) (by decide) rfl (by decide) ?_
  refine lv_aload_n hx hb dL_call_224 rfl (lv_at hl 0 rfl) ?_
  refine lv_iload_n hx hb dL_call_225 rfl (lv_at hl 2 rfl) ?_
  refine l_callW (X := 0) (K := 1) (CC := 1) (As := [.ref (gad Γ 475), .int a]) (rest := []) (st1 := [.int v]) hF hM (vx_cwSW 2 hts qL_tryWater rfl rfl rfl (by decide +kernel) ⟨Nat.le_of_ble_eq_true rfl, Nat.le_of_ble_eq_true rfl⟩) hK hZ hX hY hG hS rfl hl.1 (Nat.le_of_ble_eq_true rfl) dL_call_226 ⟨Nat.le_of_ble_eq_true rfl, Nat.le_of_ble_eq_true rfl⟩ (by omega) (by omega) rfl rfl (fun H locs hG hS => ?_)
  exact l_iret hx hb hrt hlocks hS hG rfl (by omega) dL_call_229
set_option maxHeartbeats 4000000 in
set_option maxRecDepth 100000 in
theorem lc_trySlow {l : Launch} {Γ : gX} {Sh Sh1 : Heap → Prop} {v : Int32} (a d e1 e2 : Int32) (hM : lW l Γ yL_trySlow wsL_trySlow [.ref (gad Γ 475), .int a] Sh v Sh1) : lM l Γ yL_call wqL_call 10 204 1 [.ref (gad Γ 475), .int 19, .int a, .int d, .int e1, .int e2] Sh (some (.int v)) Sh1 := by
  refine l_start (cc := cL_call) (maxL := 6) (ret := (some .int)) (by decide) rfl (Nat.le_of_ble_eq_true rfl) ?_
  intro p e s m below meth c ls hx hb hml hrt hts hown hlocks hK hZ hX hY hG hS hl
  have hl : lv_has ls 6 [(0, .ref (gad Γ 475)), (1, .int 19), (2, .int a), (3, .int d), (4, .int e1), (5, .int e2)] := hl
  have hown : s.vm.findClass RL = some m.cls := hown
  have hF : CallFix p m c cL_call 6 s _ wqL_call RL := ⟨hx, hb, hml, hown, hts⟩
  refine lv_iload_n hx hb dL_call_0 rfl (lv_at hl 1 rfl) ?_
  refine lv_tableIn (tgt := 230) hx hb dL_call_1 (by decide) (by decide) rfl (by decide) ?_
  refine lv_aload_n hx hb dL_call_230 rfl (lv_at hl 0 rfl) ?_
  refine lv_iload_n hx hb dL_call_231 rfl (lv_at hl 2 rfl) ?_
  refine l_callW (X := 0) (K := 1) (CC := 1) (As := [.ref (gad Γ 475), .int a]) (rest := []) (st1 := [.int v]) hF hM (vx_cwSW 2 hts qL_trySlow rfl rfl rfl (by decide +kernel) ⟨Nat.le_of_ble_eq_true rfl, Nat.le_of_ble_eq_true rfl⟩) hK hZ hX hY hG hS rfl hl.1 (Nat.le_of_ble_eq_true rfl) dL_call_232 ⟨Nat.le_of_ble_eq_true rfl, Nat.le_of_ble_eq_true rfl⟩ (by omega) (by omega) rfl rfl (fun H locs hG hS => ?_)
  exact l_iret hx hb hrt hlocks hS hG rfl (by omega) dL_call_235
set_option maxHeartbeats 4000000 in
set_option maxRecDepth 100000 in
theorem lc_tryBest {l : Launch} {Γ : gX} {Sh Sh1 : Heap → Prop} {v : Int32} (a d e1 e2 : Int32) (hM : lW l Γ yL_tryBest wsL_tryBest [.ref (gad Γ 475), .int a, .int d] Sh v Sh1) : lM l Γ yL_call wqL_call 10 204 1 [.ref (gad Γ 475), .int 20, .int a, .int d, .int e1, .int e2] Sh (some (.int v)) Sh1 := by
  refine l_start (cc := cL_call) (maxL := 6) (ret := (some .int)) (by decide) rfl (Nat.le_of_ble_eq_true rfl) ?_
  intro p e s m below meth c ls hx hb hml hrt hts hown hlocks hK hZ hX hY hG hS hl
  have hl : lv_has ls 6 [(0, .ref (gad Γ 475)), (1, .int 20), (2, .int a), (3, .int d), (4, .int e1), (5, .int e2)] := hl
  have hown : s.vm.findClass RL = some m.cls := hown
  have hF : CallFix p m c cL_call 6 s _ wqL_call RL := ⟨hx, hb, hml, hown, hts⟩
  refine lv_iload_n hx hb dL_call_0 rfl (lv_at hl 1 rfl) ?_
  refine lv_tableIn (tgt := 236) hx hb dL_call_1 (by decide) (by decide) rfl (by decide) ?_
  refine lv_aload_n hx hb dL_call_236 rfl (lv_at hl 0 rfl) ?_
  refine lv_iload_n hx hb dL_call_237 rfl (lv_at hl 2 rfl) ?_
  refine lv_iload_n hx hb dL_call_238 rfl (lv_at hl 3 rfl) ?_
  refine l_callW (X := 0) (K := 1) (CC := 1) (As := [.ref (gad Γ 475), .int a, .int d]) (rest := []) (st1 := [.int v]) hF hM (vx_cwSW 3 hts qL_tryBest rfl rfl rfl (by decide +kernel) ⟨Nat.le_of_ble_eq_true rfl, Nat.le_of_ble_eq_true rfl⟩) hK hZ hX hY hG hS rfl hl.1 (Nat.le_of_ble_eq_true rfl) dL_call_239 ⟨Nat.le_of_ble_eq_true rfl, Nat.le_of_ble_eq_true rfl⟩ (by omega) (by omega) rfl rfl (fun H locs hG hS => ?_)
  exact l_iret hx hb hrt hlocks hS hG rfl (by omega) dL_call_242
set_option maxHeartbeats 4000000 in
set_option maxRecDepth 100000 in
theorem lc_tryWhen {l : Launch} {Γ : gX} {Sh Sh1 : Heap → Prop} {v : Int32} (a d e1 e2 : Int32) (hM : lW l Γ yL_tryWhen wsL_tryWhen [.ref (gad Γ 475), .int a] Sh v Sh1) : lM l Γ yL_call wqL_call 10 204 1 [.ref (gad Γ 475), .int 21, .int a, .int d, .int e1, .int e2] Sh (some (.int v)) Sh1 := by
  refine l_start (cc := cL_call) (maxL := 6) (ret := (some .int)) (by decide) rfl (Nat.le_of_ble_eq_true rfl) ?_
  intro p e s m below meth c ls hx hb hml hrt hts hown hlocks hK hZ hX hY hG hS hl
  have hl : lv_has ls 6 [(0, .ref (gad Γ 475)), (1, .int 21), (2, .int a), (3, .int d), (4, .int e1), (5, .int e2)] := hl
  have hown : s.vm.findClass RL = some m.cls := hown
  have hF : CallFix p m c cL_call 6 s _ wqL_call RL := ⟨hx, hb, hml, hown, hts⟩
  refine lv_iload_n hx hb dL_call_0 rfl (lv_at hl 1 rfl) ?_
  refine lv_tableIn (tgt := 243) hx hb dL_call_1 (by decide) (by decide) rfl (by decide) ?_
  refine lv_aload_n hx hb dL_call_243 rfl (lv_at hl 0 rfl) ?_
  refine lv_iload_n hx hb dL_call_244 rfl (lv_at hl 2 rfl) ?_
  refine l_callW (X := 0) (K := 1) (CC := 1) (As := [.ref (gad Γ 475), .int a]) (rest := []) (st1 := [.int v]) hF hM (vx_cwSW 2 hts qL_tryWhen rfl rfl rfl (by decide +kernel) ⟨Nat.le_of_ble_eq_true rfl, Nat.le_of_ble_eq_true rfl⟩) hK hZ hX hY hG hS rfl hl.1 (Nat.le_of_ble_eq_true rfl) dL_call_245 ⟨Nat.le_of_ble_eq_true rfl, Nat.le_of_ble_eq_true rfl⟩ (by omega) (by omega) rfl rfl (fun H locs hG hS => ?_)
  exact l_iret hx hb hrt hlocks hS hG rfl (by omega) dL_call_248
set_option maxHeartbeats 4000000 in
set_option maxRecDepth 100000 in
theorem lc_trySave {l : Launch} {Γ : gX} {Sh Sh1 : Heap → Prop} {v : Int32} (a d e1 e2 : Int32) (hM : lW l Γ yL_trySave wsL_trySave [.ref (gad Γ 475), .int a] Sh v Sh1) : lM l Γ yL_call wqL_call 10 204 1 [.ref (gad Γ 475), .int 22, .int a, .int d, .int e1, .int e2] Sh (some (.int v)) Sh1 := by
  refine l_start (cc := cL_call) (maxL := 6) (ret := (some .int)) (by decide) rfl (Nat.le_of_ble_eq_true rfl) ?_
  intro p e s m below meth c ls hx hb hml hrt hts hown hlocks hK hZ hX hY hG hS hl
  have hl : lv_has ls 6 [(0, .ref (gad Γ 475)), (1, .int 22), (2, .int a), (3, .int d), (4, .int e1), (5, .int e2)] := hl
  have hown : s.vm.findClass RL = some m.cls := hown
  have hF : CallFix p m c cL_call 6 s _ wqL_call RL := ⟨hx, hb, hml, hown, hts⟩
  refine lv_iload_n hx hb dL_call_0 rfl (lv_at hl 1 rfl) ?_
  refine lv_tableIn (tgt := 249) hx hb dL_call_1 (by decide) (by decide) rfl (by decide) ?_
  refine lv_aload_n hx hb dL_call_249 rfl (lv_at hl 0 rfl) ?_
  refine lv_iload_n hx hb dL_call_250 rfl (lv_at hl 2 rfl) ?_
  refine l_callW (X := 0) (K := 1) (CC := 1) (As := [.ref (gad Γ 475), .int a]) (rest := []) (st1 := [.int v]) hF hM (vx_cwSW 2 hts qL_trySave rfl rfl rfl (by decide +kernel) ⟨Nat.le_of_ble_eq_true rfl, Nat.le_of_ble_eq_true rfl⟩) hK hZ hX hY hG hS rfl hl.1 (Nat.le_of_ble_eq_true rfl) dL_call_251 ⟨Nat.le_of_ble_eq_true rfl, Nat.le_of_ble_eq_true rfl⟩ (by omega) (by omega) rfl rfl (fun H locs hG hS => ?_)
  exact l_iret hx hb hrt hlocks hS hG rfl (by omega) dL_call_254
set_option maxHeartbeats 4000000 in
set_option maxRecDepth 100000 in
theorem lc_tryRestore {l : Launch} {Γ : gX} {Sh Sh1 : Heap → Prop} {v : Int32} (a d e1 e2 : Int32) (hM : lW l Γ yL_tryRestore wsL_tryRestore [.ref (gad Γ 475), .int a] Sh v Sh1) : lM l Γ yL_call wqL_call 10 204 1 [.ref (gad Γ 475), .int 23, .int a, .int d, .int e1, .int e2] Sh (some (.int v)) Sh1 := by
  refine l_start (cc := cL_call) (maxL := 6) (ret := (some .int)) (by decide) rfl (Nat.le_of_ble_eq_true rfl) ?_
  intro p e s m below meth c ls hx hb hml hrt hts hown hlocks hK hZ hX hY hG hS hl
  have hl : lv_has ls 6 [(0, .ref (gad Γ 475)), (1, .int 23), (2, .int a), (3, .int d), (4, .int e1), (5, .int e2)] := hl
  have hown : s.vm.findClass RL = some m.cls := hown
  have hF : CallFix p m c cL_call 6 s _ wqL_call RL := ⟨hx, hb, hml, hown, hts⟩
  refine lv_iload_n hx hb dL_call_0 rfl (lv_at hl 1 rfl) ?_
  refine lv_tableOut (tgt := 255) hx hb dL_call_1 (by decide) (by decide) ?_
  refine lv_aload_n hx hb dL_call_255 rfl (lv_at hl 0 rfl) ?_
  refine lv_iload_n hx hb dL_call_256 rfl (lv_at hl 2 rfl) ?_
  refine l_callW (X := 0) (K := 1) (CC := 1) (As := [.ref (gad Γ 475), .int a]) (rest := []) (st1 := [.int v]) hF hM (vx_cwSW 2 hts qL_tryRestore rfl rfl rfl (by decide +kernel) ⟨Nat.le_of_ble_eq_true rfl, Nat.le_of_ble_eq_true rfl⟩) hK hZ hX hY hG hS rfl hl.1 (Nat.le_of_ble_eq_true rfl) dL_call_257 ⟨Nat.le_of_ble_eq_true rfl, Nat.le_of_ble_eq_true rfl⟩ (by omega) (by omega) rfl rfl (fun H locs hG hS => ?_)
  exact l_iret hx hb hrt hlocks hS hG rfl (by omega) dL_call_260
