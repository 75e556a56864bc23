/-! THE READER on the text that begin writes: its stages. -/
set_option maxRecDepth 16384
def sS (x k : Nat) : Nat := x / (16 + k) % 3
def hP (n x k : Nat) : Nat := x / (128 + k) % n
def hL (x k : Nat) : Nat := x / (64 + k) % 10
def wP (n x k : Nat) : Nat := x / (512 + k) % n
noncomputable def NSur (n x : Nat) : Nat → Nat → Int32
  | 0 => N0 n
  | k + 1 => n_setSurface (NSur n x k) (nI k) (nI (sS x k))
noncomputable def NPar (n x : Nat) : Nat → Nat → Int32
  | 0 => NSur n x n
  | k + 1 => if k < 3 then n_addHouse (NPar n x k) (nI (hP n x k)) (nI (hL x k)) else n_addWagon (NPar n x k) (nI (wP n x (k - 3)))
/-- the text -/
def Tx (n x i : Nat) : Int32 := if i = 0 then 82 else if i = 1 then 48 else if i = 2 then nI (48 + n) else if i < 3 + n then nI (48 + sS x (i - 3)) else if i < 12 + n then (if (i - (3 + n)) % 3 = 0 then 104 else if (i - (3 + n)) % 3 = 1 then nI (48 + hP n x ((i - (3 + n)) / 3)) else nI (48 + hL x ((i - (3 + n)) / 3))) else (if (i - (12 + n)) % 2 = 0 then 119 else nI (48 + wP n x ((i - (12 + n)) / 2)))
section TXs
variable {n x : Nat}
theorem tx_s {k : Nat} (h : k < n) : Tx n x (3 + k) = nI (48 + sS x k) := by
  unfold Tx
  rw [if_neg (by omega), if_neg (by omega), if_neg (by omega), if_pos (by omega), show 3 + k - 3 = k by omega]
theorem tx_h0 {k : Nat} (h : k < 3) : Tx n x (3 + n + 3 * k) = 104 := by
  unfold Tx
  rw [if_neg (by omega), if_neg (by omega), if_neg (by omega), if_neg (by omega), if_pos (by omega), if_pos (by omega)]
theorem tx_h1 {k : Nat} (h : k < 3) : Tx n x (3 + n + 3 * k + 1) = nI (48 + hP n x k) := by
  unfold Tx
  rw [if_neg (by omega), if_neg (by omega), if_neg (by omega), if_neg (by omega), if_pos (by omega), if_neg (by omega), if_pos (by omega), show (3 + n + 3 * k + 1 - (3 + n)) / 3 = k by omega]
theorem tx_h2 {k : Nat} (h : k < 3) : Tx n x (3 + n + 3 * k + 1 + 1) = nI (48 + hL x k) := by
  unfold Tx
  rw [if_neg (by omega), if_neg (by omega), if_neg (by omega), if_neg (by omega), if_pos (by omega), if_neg (by omega), if_neg (by omega), show (3 + n + 3 * k + 1 + 1 - (3 + n)) / 3 = k by omega]
theorem tx_w0 {k : Nat} : Tx n x (12 + n + 2 * k) = 119 := by
  unfold Tx
  rw [if_neg (by omega), if_neg (by omega), if_neg (by omega), if_neg (by omega), if_neg (by omega), if_pos (by omega)]
theorem tx_w1 {k : Nat} : Tx n x (12 + n + 2 * k + 1) = nI (48 + wP n x k) := by
  unfold Tx
  rw [if_neg (by omega), if_neg (by omega), if_neg (by omega), if_neg (by omega), if_neg (by omega), if_neg (by omega), show (12 + n + 2 * k + 1 - (12 + n)) / 2 = k by omega]
end TXs
/-- a stage: the reader at the sign p, its page beside the model's -/
def SG (t p u n h w : Nat) (X Q N : Nat → Int32) : Prop := RX X t p ∧ Rl Q N ∧ BL Q ∧ PI u N ∧ GD N ∧ N 0 = nI n ∧ N 1 = nI h ∧ N 2 = nI w
section SGs
variable {G X Q N : Nat → Int32} {t p u n h w : Nat}
theorem SG.sur (s : SG t p u n h w X Q N) (hp : p < t) (hu : 1998 * (u + 5000) < 2 ^ 31) {k d : Nat} (hd : d < 3) (hG : G p = nI (48 + d)) : fX4_takeDigit_v X G (fX4_below_v 3) = nI d ∧ SG t (p + 1) (u + 850) n h w (fX4_takeDigit_X X G (fX4_below_v 3)) (fX2_changeSurface_P Q (nI k) (nI d)) (n_setSurface N (nI k) (nI d)) := by
  obtain ⟨hR, h1, h2, h3, h4, e0, e1, e2⟩ := s
  obtain ⟨a1, a2⟩ := hR.digit (a := fX4_below_v 3) (G := G) hp (by omega) hG (mk_below (n := 3) (by omega) hd)
  have k1 := (ac_setSurface h1 h3 (nI k) (nI d)).keep h1 h3
  have eo : ∀ j, j < 12 → n_setSurface N (nI k) (nI d) j = N j := fun j hj => by
    unfold n_setSurface
    (repeat' split) <;> first | rfl | exact pk_un (by omega)
  refine ⟨a1, by rw [a2]; exact hR.next hp, k1.1, h2.of (fun i hi => fl_surface Q _ _ hi), k1.2, gd_setSurface h3 h4 _ _, ?_, ?_, ?_⟩
  · rw [eo 0 (by omega)]; exact e0
  · rw [eo 1 (by omega)]; exact e1
  · rw [eo 2 (by omega)]; exact e2
theorem SG.house (s : SG t p u n h w X Q N) (hn : 1 ≤ n ∧ n ≤ 9) (hh : h < 3) (hp : p + 2 < t) (hu : 1998 * (u + 5000) < 2 ^ 31) {a d : Nat} (ha : a < n) (hd : d ≤ 9) (g0 : G p = 104) (g1 : G (p + 1) = nI (48 + a)) (g2 : G (p + 1 + 1) = nI (48 + d)) : ¬ fX4_takePart_v X G Q = 0 ∧ SG t (p + 3) (u + 850) n (h + 1) w (fX4_takePart_X X G Q) (fX4_takePart_Q X G Q) (n_addHouse N (nI a) (nI d)) := by
  obtain ⟨hR, h1, h2, h3, h4, e0, e1, e2⟩ := s
  have q0 : Q 0 = nI n := (h1.hd (by decide)).trans e0
  have q1 : Q 1 = nI h := (h1.hd (by decide)).trans e1
  have c8 : ¬ 8 ≤ Q 1 := by rw [q1]; exact Int32.not_le.mpr (nI_lt (a := h) (b := 8) (by omega) (by decide))
  obtain ⟨s1, s2⟩ := hR.take (G := G) (by omega) g0
  have r1 := hR.next (by omega)
  obtain ⟨b1, b2⟩ := r1.digit (a := fX4_below_v (Q 0)) (G := G) (by omega) (by omega) g1 (by rw [q0]; exact mk_below (by omega) ha)
  have r2 := r1.next (by omega)
  obtain ⟨d1, d2⟩ := r2.digit (a := fX4_below_v 10) (G := G) (by omega) hd g2 (mk_below (n := 10) (by omega) (by omega))
  have r3 := r2.next (by omega)
  have AA := ac_addHouse h1 h3 (nI a) (nI d)
  have sgm : ¬ fX7_isSegment_v N (nI a) = 0 := seg_ok (s := a) h3 (by rw [e0, nI_clamp (by omega)]; exact ha)
  have c18 : ¬ N 1 = 8 := by rw [e1]; exact fun e => by have := (nI_eq (a := h) (b := 8) (by omega) (by decide)).mp e; omega
  have rf0 : rfAH N (nI a) (nI d) = 0 := by
    unfold rfAH
    rw [if_neg sgm, w_09, if_neg (w09 hd), if_neg c18]
  have v0 := AA.done rf0
  have k1 := AA.keep h1 h3
  have tv : fX4_takePart_v X G Q = 1 := by
    unfold fX4_takePart_v fX4_takeHouse_v
    rw [if_neg c8, s1, if_neg (by decide), s2, b1, b2, d1, if_neg (ndm (by omega)), if_neg (ndm hd), if_neg v0]
  have tX : fX4_takePart_X X G Q = upd (upd (upd X 2 (X 2 + 1)) 2 (upd X 2 (X 2 + 1) 2 + 1)) 2 (upd (upd X 2 (X 2 + 1)) 2 (upd X 2 (X 2 + 1) 2 + 1) 2 + 1) := by
    unfold fX4_takePart_X fX4_takeHouse_X
    rw [if_neg c8, s1, if_neg (by decide), s2, b1, b2, d1, d2, if_neg (ndm (by omega)), if_neg (ndm hd), if_neg v0]
  have tQ : fX4_takePart_Q X G Q = fX2_buildHouse_P Q (nI a) (nI d) := by
    unfold fX4_takePart_Q fX4_takeHouse_Q
    rw [if_neg c8, s1, if_neg (by decide), s2, b1, b2, d1, if_neg (ndm (by omega)), if_neg (ndm hd), if_neg v0]
  rw [tv, tX, tQ]
  have nh : n_addHouse N (nI a) (nI d) = hsS N h (nI a) (nI d) := by
    unfold n_addHouse
    rw [if_neg sgm, w_09, if_neg (w09 hd), if_neg c18, hsS_ref N (nI a) (nI d) rfl, e1, nI_clamp (by omega)]
  refine ⟨by decide, r3, k1.1, h2.of (fun i hi => fl_house Q _ _ hi), k1.2, gd_addHouse h3 h4 _ _, ?_, ?_, ?_⟩
  · rw [nh]; unfold hsS; simp (disch := omega) only [pk_un]; exact e0
  · rw [nh]; unfold hsS; rw [pk_us, e1, nI_1]
  · rw [nh]; unfold hsS; simp (disch := omega) only [pk_un]; exact e2
theorem SG.wagon (s : SG t p u n h w X Q N) (hn : 1 ≤ n ∧ n ≤ 9) (hh : h ≤ 3) (hw : w < 2) (hp : p + 1 < t) (hu : 1998 * (u + 5000) < 2 ^ 31) {a : Nat} (ha : a < n) (g0 : G p = 119) (g1 : G (p + 1) = nI (48 + a)) : ¬ fX4_takePart_v X G Q = 0 ∧ SG t (p + 2) (u + 850) n h (w + 1) (fX4_takePart_X X G Q) (fX4_takePart_Q X G Q) (n_addWagon N (nI a)) := by
  obtain ⟨hR, h1, h2, h3, h4, e0, e1, e2⟩ := s
  have q0 : Q 0 = nI n := (h1.hd (by decide)).trans e0
  have q1 : Q 1 = nI h := (h1.hd (by decide)).trans e1
  have q2 : Q 2 = nI w := (h1.hd (by decide)).trans e2
  have c8 : ¬ 8 ≤ Q 1 := by rw [q1]; exact Int32.not_le.mpr (nI_lt (a := h) (b := 8) (by omega) (by decide))
  have c3 : ¬ 3 ≤ Q 2 := by rw [q2]; exact Int32.not_le.mpr (nI_lt (a := w) (b := 3) (by omega) (by decide))
  obtain ⟨z1, z2⟩ := hR.leave (G := G) (c := 104) (by omega) g0 (by decide)
  obtain ⟨s1, s2⟩ := hR.take (G := G) (by omega) g0
  have r1 := hR.next (by omega)
  obtain ⟨b1, b2⟩ := r1.digit (a := fX4_below_v (Q 0)) (G := G) (by omega) (by omega) g1 (by rw [q0]; exact mk_below (by omega) ha)
  have r2 := r1.next (by omega)
  have AA := ac_addWagon h1 h3 (nI a)
  have sgm : ¬ fX7_isSegment_v N (nI a) = 0 := seg_ok (s := a) h3 (by rw [e0, nI_clamp (by omega)]; exact ha)
  have c23 : ¬ N 2 = 3 := by rw [e2]; exact fun e => by have := (nI_eq (a := w) (b := 3) (by omega) (by decide)).mp e; omega
  have rf0 : rfAW N (nI a) = 0 := by
    unfold rfAW
    rw [if_neg sgm, if_neg c23]
  have v0 := AA.done rf0
  have k1 := AA.keep h1 h3
  have tv : fX4_takePart_v X G Q = 1 := by
    unfold fX4_takePart_v
    rw [if_neg c8, z1, if_pos rfl, if_neg c3, z2, s1, if_neg (by decide), s2, b1, if_neg v0]
  have tX : fX4_takePart_X X G Q = upd (upd X 2 (X 2 + 1)) 2 (upd X 2 (X 2 + 1) 2 + 1) := by
    unfold fX4_takePart_X
    rw [if_neg c8, z1, if_pos rfl, if_neg c3, z2, s1, if_neg (by decide), s2, b1, b2, if_neg v0]
  have tQ : fX4_takePart_Q X G Q = fX2_bringWagon_P Q (nI a) := by
    unfold fX4_takePart_Q
    rw [if_neg c8, z1, if_pos rfl, if_neg c3, z2, s1, if_neg (by decide), s2, b1, if_neg v0]
  rw [tv, tX, tQ]
  have nh : n_addWagon N (nI a) = wgS N w (nI a) := by
    unfold n_addWagon
    rw [if_neg sgm, if_neg c23, wgS_ref N (nI a) rfl, e2, nI_clamp (by omega)]
  refine ⟨by decide, r2, k1.1, h2.of (fun i hi => fl_wagon Q _ hi), k1.2, gd_addWagon h3 h4 _, ?_, ?_, ?_⟩
  · rw [nh]; unfold wgS; simp (disch := omega) only [pk_un]; exact e0
  · rw [nh]; unfold wgS; simp (disch := omega) only [pk_un]; exact e1
  · rw [nh]; unfold wgS; rw [pk_us, e2, nI_1]
end SGs
