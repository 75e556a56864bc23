/-! THE START: what the machine gives at the law's entry. -/
section GSt
variable {s : State} {A9 : Array Value}
theorem stW (hts : ∀ w ∈ lw_tbl, w.before A9 s = true) : ∀ w ∈ xW, w.before A9 s = true := by
  refine List.forall_mem_cons.mpr ⟨hts _ (by decide +kernel), List.forall_mem_cons.mpr ⟨hts _ (by decide +kernel), List.forall_mem_cons.mpr ⟨hts _ (by decide +kernel), List.forall_mem_cons.mpr ⟨hts _ (by decide +kernel), List.forall_mem_cons.mpr ⟨hts _ (by decide +kernel), List.forall_mem_cons.mpr ⟨hts _ (by decide +kernel), fun _ h => absurd h List.not_mem_nil⟩⟩⟩⟩⟩⟩
theorem stK {k : Nat} {tx : String} (h1 : (Cond.stringRef RX6 k tx).before A9 s = true) (h2 : (Cond.exactly (.string RX6 k) "java/lang/String").before A9 s = true) : ∃ a, vk_R RX6 k tx a s := by
  obtain ⟨a, c, cA, kA, q1, -⟩ := Cond.exactly_spec (args := A9) (first := s) (o := none) (s := s) (idx := []) (t := .string RX6 k) (cls := "java/lang/String") h2
  exact ⟨a, vk_R.of h1 q1⟩
theorem stStr (hts : ∀ w ∈ lw_tbl, w.before A9 s = true) (hs : ∀ w ∈ flatC (Jvm.Cond.and given_1 narrow_1), w.before A9 s = true) : ∀ x ∈ xStr, ∃ a, vk_R RX6 x.1 x.2 a s := by
  refine List.forall_mem_cons.mpr ⟨stK (hts _ (by decide +kernel)) (hs _ (by decide +kernel)), List.forall_mem_cons.mpr ⟨stK (hts _ (by decide +kernel)) (hs _ (by decide +kernel)), List.forall_mem_cons.mpr ⟨stK (hts _ (by decide +kernel)) (hs _ (by decide +kernel)), List.forall_mem_cons.mpr ⟨stK (hts _ (by decide +kernel)) (hs _ (by decide +kernel)), List.forall_mem_cons.mpr ⟨stK (hts _ (by decide +kernel)) (hs _ (by decide +kernel)), List.forall_mem_cons.mpr ⟨stK (hts _ (by decide +kernel)) (hs _ (by decide +kernel)), List.forall_mem_cons.mpr ⟨stK (hts _ (by decide +kernel)) (hs _ (by decide +kernel)), List.forall_mem_cons.mpr ⟨stK (hts _ (by decide +kernel)) (hs _ (by decide +kernel)), List.forall_mem_cons.mpr ⟨stK (hts _ (by decide +kernel)) (hs _ (by decide +kernel)), List.forall_mem_cons.mpr ⟨stK (hts _ (by decide +kernel)) (hs _ (by decide +kernel)), List.forall_mem_cons.mpr ⟨stK (hts _ (by decide +kernel)) (hs _ (by decide +kernel)), List.forall_mem_cons.mpr ⟨stK (hts _ (by decide +kernel)) (hs _ (by decide +kernel)), fun _ h => absurd h List.not_mem_nil⟩⟩⟩⟩⟩⟩⟩⟩⟩⟩⟩⟩
theorem gx_start (hts : ∀ w ∈ lw_tbl, w.before A9 s = true) (hs : ∀ w ∈ flatC (Jvm.Cond.and given_1 narrow_1), w.before A9 s = true) : GX s := ⟨fun w hw => va_tabs (xW_ok w hw).1 rfl (stW hts w hw), stStr hts hs⟩
theorem gy_start (hs : ∀ w ∈ flatC (Jvm.Cond.and given_1 narrow_1), w.before A9 s = true) : GY s := ⟨va_Nc.of (hs (.not (.castable xIA xIO)) (by decide +kernel)), va_Nc.of (hs (.not (.castable xIS xIO)) (by decide +kernel)), va_Nc.of (hs (.not (.castable xIS xIA)) (by decide +kernel))⟩
theorem gao_start (hts : ∀ w ∈ lw_tbl, w.before A9 s = true) : GAO s := ⟨va_AO.of (hts (.arrayOver (.object RX3)) (by decide +kernel)), va_AO.of (hts (.arrayOver (.object RX1)) (by decide +kernel)), va_AO.of (hts (.arrayOver (.object RX5)) (by decide +kernel)), va_AO.of (hts (.arrayOver (.object RX2)) (by decide +kernel))⟩
theorem gn_start (hts : ∀ w ∈ lw_tbl, w.before A9 s = true) : GN s := ⟨va_Nw.of rfl (hts _ (by decide +kernel)), va_Nw.of rfl (hts _ (by decide +kernel)), va_Nw.of rfl (hts _ (by decide +kernel)), va_Nw.of rfl (hts _ (by decide +kernel)), va_Nw.of rfl (hts _ (by decide +kernel)), va_Nw.of rfl (hts _ (by decide +kernel))⟩
theorem gz_start (hts : ∀ w ∈ lw_tbl, w.before A9 s = true) (hs : ∀ w ∈ flatC (Jvm.Cond.and given_1 narrow_1), w.before A9 s = true) {Γ : gX} (hΓ : gA Γ = fun q => s.heap.size ≤ q) : GZ Γ s s.heap := by
  have hA : ∀ a : Nat, a < s.heap.size → ¬ gA Γ a := fun a h q => by
    rw [hΓ] at q
    omega
  exact ⟨vx_Zqof (hts (.laysStatic Bundle.tN "UNASSIGNED_STACK" Bundle.steD) (by decide +kernel)) (hts (.initialized Bundle.tN) (by decide +kernel)) (hs (.isRef (.static Bundle.tN "UNASSIGNED_STACK" Bundle.steD)) (by decide +kernel)) hA, vx_Zqof (hts (.laysStatic Bundle.tN "SUPPRESSED_SENTINEL" Bundle.listD) (by decide +kernel)) (hts (.initialized Bundle.tN) (by decide +kernel)) (hs (.isRef (.static Bundle.tN "SUPPRESSED_SENTINEL" Bundle.listD)) (by decide +kernel)) hA, fun q hq => by rw [hΓ]; exact hq⟩
theorem gk_start (hts : ∀ w ∈ lw_tbl, w.before A9 s = true) : ∃ D : va_G, va_K D vwCl [] s := by
  obtain ⟨c0, i0, k0⟩ := u_known (C := RX0) (T := TX0) (N := 2) (n := 2) hts inX0 (hts (.instantiable RX0 2) (by decide +kernel))
  obtain ⟨c1, i1, k1⟩ := u_known (C := RX1) (T := TX1) (N := 5) (n := 5) hts inX1 (hts (.instantiable RX1 5) (by decide +kernel))
  obtain ⟨c2, i2, k2⟩ := u_known (C := RX2) (T := TX2) (N := 15) (n := 15) hts inX2 (hts (.instantiable RX2 15) (by decide +kernel))
  obtain ⟨c3, i3, k3⟩ := u_known (C := RX3) (T := TX3) (N := 7) (n := 7) hts inX3 (hts (.instantiable RX3 7) (by decide +kernel))
  obtain ⟨c4, i4, k4⟩ := u_known (C := RX4) (T := TX4) (N := 4) (n := 4) hts inX4 (hts (.instantiable RX4 4) (by decide +kernel))
  obtain ⟨c5, i5, k5⟩ := u_known (C := RX5) (T := TX5) (N := 3) (n := 3) hts inX5 (hts (.instantiable RX5 3) (by decide +kernel))
  obtain ⟨c6, i6, k6⟩ := u_known (C := RX6) (T := TX6) (N := 7) (n := 7) hts inX6 (hts (.instantiable RX6 7) (by decide +kernel))
  refine ⟨(fun k => if k = 0 then c0 else if k = 1 then c1 else if k = 2 then c2 else if k = 3 then c3 else if k = 4 then c4 else if k = 5 then c5 else c6, fun k => if k = 0 then i0 else if k = 1 then i1 else if k = 2 then i2 else if k = 3 then i3 else if k = 4 then i4 else if k = 5 then i5 else i6), ?_, fun k q h => by simp at h⟩
  intro k q hq
  match k, hq with
  | 0, hq => cases hq; exact k0
  | 1, hq => cases hq; exact k1
  | 2, hq => cases hq; exact k2
  | 3, hq => cases hq; exact k3
  | 4, hq => cases hq; exact k4
  | 5, hq => cases hq; exact k5
  | 6, hq => cases hq; exact k6
  | 7, hq => cases hq; exact k6
  | k + 8, hq => simp at hq
end GSt
