/-! THE START: a new object: its references, its pages. -/
set_option maxRecDepth 16384
theorem LV.cong {Γ : gX} {R R' : Nat → Nat → Option Nat} {r : Nat} (h : LV Γ R r) (e : ∀ c, 25 * r ≤ c → c ≤ 25 * r + 3 → R' c = R c) : LV Γ R' r := by
  obtain ⟨a, b, c1, c2, c3, d1, d2, d3⟩ := h
  have e0 := e (25 * r) (by omega) (by omega)
  have e1 := e (25 * r + 1) (by omega) (by omega)
  have e2 := e (25 * r + 2) (by omega) (by omega)
  have e3 := e (25 * r + 3) (by omega) (by omega)
  exact ⟨a, b, by rw [e0]; exact c1, by rw [e0]; exact c2, by rw [e0]; exact c3, by rw [e1]; exact d1, by rw [e2]; exact d2, by rw [e3]; exact d3⟩
theorem hisR_at {R : Nat → Nat → Option Nat} {k c : Nat} (h1 : 25 * (4 + k) ≤ c) (h2 : c ≤ 25 * (4 + k) + 3) : ∀ n, k < n → n ≤ 15 → hisR R n c = RoadR (hisR R k) (4 + k) c
  | n + 1, hk, hn => by
    show up2R (RoadR (hisR R n) (4 + n)) 479 n (some (25 * (4 + n))) c = _
    rw [up2R_ne (by omega)]
    by_cases q : k = n
    · subst q; rfl
    · rw [RoadR_ne (by omega)]
      exact hisR_at h1 h2 n (by omega) (by omega)
theorem hisR_9 {R : Nat → Nat → Option Nat} {k : Nat} : ∀ n, k < n → n ≤ 15 → hisR R n 479 k = some (25 * (4 + k))
  | n + 1, hk, hn => by
    show up2R (RoadR (hisR R n) (4 + n)) 479 n (some (25 * (4 + n))) 479 k = _
    by_cases q : k = n
    · subst q; exact up2R_eq
    · rw [up2R_nk q, RoadR_ne (by omega)]
      exact hisR_9 n (by omega) (by omega)
def fR1 (R : Nat → Nat → Option Nat) : Nat → Nat → Option Nat := up2R (up2R R 476 0 (some 477)) 475 0 (some 476)
def fR2 (R : Nat → Nat → Option Nat) : Nat → Nat → Option Nat := up2R (RoadR (fR1 R) 0) 475 1 (some (25 * 0))
def fR3 (R : Nat → Nat → Option Nat) : Nat → Nat → Option Nat := up2R (RoadR (fR2 R) 1) 475 2 (some (25 * 1))
def fR5 (R : Nat → Nat → Option Nat) : Nat → Nat → Option Nat := up2R (up2R (up2R (up2R (hisR (fR3 R) 15) 475 3 (some 478)) 475 4 (some 480)) 475 5 (some 481)) 475 6 (some 482)
theorem faceR_5 (R : Nat → Nat → Option Nat) : faceR R = slR (fR5 R) 2 := rfl
theorem fR5_ne {R : Nat → Nat → Option Nat} {c : Nat} (h : c ≠ 475) : fR5 R c = hisR (fR3 R) 15 c := by
  unfold fR5
  rw [up2R_ne h, up2R_ne h, up2R_ne h, up2R_ne h]
theorem face_hi {R : Nat → Nat → Option Nat} {c : Nat} (h : c < 50 ∨ (100 ≤ c ∧ c < 480) ∨ 480 < c) (h2 : c ≠ 483) : faceR R c = fR5 R c := by
  rw [faceR_5]
  exact slR_hi 2 (by omega) (by omega)
theorem LC_new {Γ : gX} {R : Nat → Nat → Option Nat} (hm : ∀ c, c < 483 → c ∈ gcs Γ) : LC Γ (faceR R) := by
  have r5 : ∀ j, (3 ≤ j → j ≤ 6 → True) → j < 3 → faceR R 475 j = fR3 R 475 j := fun j _ hj => by
    rw [face_hi (by omega) (by decide)]
    unfold fR5
    rw [up2R_nk (by omega), up2R_nk (by omega), up2R_nk (by omega), up2R_nk (by omega), hisR_hi 15 (by omega) (by omega)]
  refine ⟨fun c h1 h2 => hm c (by omega), fun r hr => ?_, ?_, ?_, ?_, ?_, ?_, ?_, ?_, ?_, ?_, ?_, ?_⟩
  · by_cases r0 : r = 0
    · subst r0
      refine (LV_road (R := fR1 R) (r := 0) (by omega) (hm _ (by omega)) (fun c _ _ => hm c (by omega))).cong (fun c h1 h2 => ?_)
      rw [face_hi (by omega) (by omega), fR5_ne (by omega), hisR_hi 15 (by omega) (by omega)]
      unfold fR3
      rw [up2R_ne (by omega), RoadR_ne (by omega)]
      unfold fR2
      rw [up2R_ne (by omega)]
    by_cases r1 : r = 1
    · subst r1
      refine (LV_road (R := fR2 R) (r := 1) (by omega) (hm _ (by omega)) (fun c _ _ => hm c (by omega))).cong (fun c h1 h2 => ?_)
      rw [face_hi (by omega) (by omega), fR5_ne (by omega), hisR_hi 15 (by omega) (by omega)]
      unfold fR3
      rw [up2R_ne (by omega)]
    by_cases r2 : r = 2
    · subst r2
      refine (LV_road (R := fR5 R) (r := 2) (by omega) (hm _ (by omega)) (fun c _ _ => hm c (by omega))).cong (fun c h1 h2 => ?_)
      rw [faceR_5]
      show up2R (RoadR (up2R (RoadR (fR5 R) 2) 480 0 (some (25 * 2))) 3) 480 1 (some (25 * 3)) c = _
      rw [up2R_ne (by omega), RoadR_ne (by omega), up2R_ne (by omega)]
    by_cases r3 : r = 3
    · subst r3
      refine (LV_road (R := up2R (RoadR (fR5 R) 2) 480 0 (some (25 * 2))) (r := 3) (by omega) (hm _ (by omega)) (fun c _ _ => hm c (by omega))).cong (fun c h1 h2 => ?_)
      rw [faceR_5]
      show up2R (RoadR (up2R (RoadR (fR5 R) 2) 480 0 (some (25 * 2))) 3) 480 1 (some (25 * 3)) c = _
      rw [up2R_ne (by omega)]
    obtain ⟨k, rfl⟩ : ∃ k, r = 4 + k := ⟨r - 4, by omega⟩
    refine (LV_road (R := hisR (fR3 R) k) (r := 4 + k) (by omega) (hm _ (by omega)) (fun c _ _ => hm c (by omega))).cong (fun c h1 h2 => ?_)
    rw [face_hi (by omega) (by omega), fR5_ne (by omega)]
    exact hisR_at h1 h2 15 (by omega) (by omega)
  · rw [r5 0 (fun _ _ => trivial) (by decide)]
    unfold fR3
    rw [up2R_nk (by decide), RoadR_ne (by omega)]
    unfold fR2
    rw [up2R_nk (by decide), RoadR_ne (by omega)]
    exact up2R_eq
  · rw [r5 1 (fun _ _ => trivial) (by decide)]
    unfold fR3
    rw [up2R_nk (by decide), RoadR_ne (by omega)]
    exact up2R_eq
  · rw [r5 2 (fun _ _ => trivial) (by decide)]
    exact up2R_eq
  · rw [face_hi (by omega) (by decide)]
    unfold fR5
    rw [up2R_nk (by decide), up2R_nk (by decide), up2R_nk (by decide)]
    exact up2R_eq
  · rw [face_hi (by omega) (by decide)]
    unfold fR5
    rw [up2R_nk (by decide), up2R_nk (by decide)]
    exact up2R_eq
  · rw [face_hi (by omega) (by decide)]
    unfold fR5
    rw [up2R_nk (by decide)]
    exact up2R_eq
  · rw [face_hi (by omega) (by decide)]
    exact up2R_eq
  · rw [face_hi (by omega) (by decide), fR5_ne (by decide), hisR_hi 15 (by omega) (by omega)]
    unfold fR3
    rw [up2R_ne (by decide), RoadR_ne (by omega)]
    unfold fR2
    rw [up2R_ne (by decide), RoadR_ne (by omega)]
    unfold fR1
    rw [up2R_ne (by decide)]
    exact up2R_eq
  · rw [face_hi (by omega) (by decide), fR5_ne (by decide)]
    exact hisR_0 15 (by decide)
  · rw [faceR_5]
    show up2R (RoadR (up2R (RoadR (fR5 R) 2) 480 0 (some (25 * 2))) 3) 480 1 (some (25 * 3)) 480 0 = _
    rw [up2R_nk (by decide), RoadR_ne (by omega)]
    exact up2R_eq
  · rw [faceR_5]
    exact up2R_eq
theorem HP_new {R : Nat → Nat → Option Nat} : HP (faceR R) (fun k => 4 + k) := fun k hk => by
  refine ⟨?_, by show 4 ≤ 4 + k; omega, by show 4 + k < 19; omega⟩
  rw [face_hi (by omega) (by decide), fR5_ne (by decide)]
  exact hisR_9 15 hk (by decide)
theorem cS_self (Z : Nat → Nat → Int32) : Z = cS Z (Z 19) (Z 20) (Z 21) (Z 22) (Z 23) (Z 0) (Z 1) := by
  funext b
  unfold cS
  by_cases h19 : b = 19
  · subst h19; rfl
  by_cases h20 : b = 20
  · subst h20; rfl
  by_cases h21 : b = 21
  · subst h21; rfl
  by_cases h22 : b = 22
  · subst h22; rfl
  by_cases h23 : b = 23
  · subst h23; rfl
  by_cases h0 : b = 0
  · subst h0; rfl
  by_cases h1 : b = 1
  · subst h1; rfl
  rw [if_neg h19, if_neg h20, if_neg h21, if_neg h22, if_neg h23, if_neg h0, if_neg h1]
def Z00 : Nat → Nat → Int32 := faceM (fun _ _ => 0)
theorem Z00_0 : Z00 0 = newP := by
  unfold Z00 faceM
  rw [slM_hi 2 (by omega), hisM_hi 15 (by omega), va_up_ne _ _ (by decide), va_up_eq]
theorem face_z {b : Nat} (h : 19 ≤ b) : faceM (fun _ _ => 0) b = fun _ => 0 := by
  unfold faceM
  rw [slM_hi 2 (by omega), hisM_hi 15 (by omega), va_up_ne _ _ (by omega), va_up_ne _ _ (by omega)]
theorem PR_new : PR newP (N0 4) := by
  have e : newP = upd (fX2_beNew_P (fun _ => 0)) 0 (nI 4) := by
    funext j
    by_cases z : j = 0
    · subst z; rw [pk_us]; rfl
    · rw [pk_un z]; rfl
  rw [e]
  exact ⟨bn_rl _ (by decide), bl_new _ _⟩
theorem INC_new {Γ : gX} {R : Nat → Nat → Option Nat} (hm : ∀ c, c < 483 → c ∈ gcs Γ) (Hy : Nat → Nat → Int32) (T : Nat → Int32) : INC Γ (faceR R) (faceM (fun _ _ => 0)) (N0 4) Hy 0 (fun _ => none, 0, T) := by
  refine ⟨Z00, Z00 19, Z00 20, Z00 21, Z00 22, Z00 23, Z00 0, Z00 1, fun k => 4 + k, cS_self Z00, LC_new hm, ?_⟩
  have z19 : Z00 19 = fun _ => 0 := face_z (by decide)
  have z21 : Z00 21 = fun _ => 0 := face_z (by decide)
  have z22 : Z00 22 = fun _ => 0 := face_z (by decide)
  rw [Z00_0, z19, z21, z22]
  exact ⟨⟨HP_new, fun i j _ _ e => by have e : 4 + i = 4 + j := e; omega⟩, by decide, rfl, ⟨rfl, Nat.zero_le 70, fun i hi => absurd hi (Nat.not_lt_zero i)⟩, PR_new, fun i hi => absurd hi (Nat.not_lt_zero i), fun i _ => ⟨fun _ => rfl, fun K hK => by cases hK⟩⟩
