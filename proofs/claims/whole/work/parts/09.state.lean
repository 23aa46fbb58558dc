/-! what a state IS: a house as 33 numbers, as the class and as the reference hold it; rows, tape, acts, images, trace -/
/-- a house in a row of the reference -/
def py_hm (f : Nat → Int32) (a : Nat) (H : Nat → Nat) : Prop := ∀ j, j < 33 → f (a + j) = nI (H j)
/-- a house of the class, all but whether it stands -/
def py_hd (σ : py_H) (h : Nat) (H : Nat → Nat) : Prop :=
  σ h 1 = nI (H 0) ∧ σ h 2 = nI (H 1) ∧ σ h 3 = nI (H 2) ∧ σ h 4 = nI (H 3) ∧ σ h 5 = nI (H 12) ∧
  (∀ w, w < H 3 → σ (h + 1) w = nI (H (4 + 2 * w)) ∧ σ (h + 2) w = nI (H (5 + 2 * w))) ∧
  (∀ p, p < H 12 → σ (h + 3) p = nI (H (13 + 4 * p)) ∧ σ (h + 4) p = nI (H (14 + 4 * p)) ∧ σ (h + 5) p = nI (H (15 + 4 * p)) ∧ σ (h + 6) p = nI (H (16 + 4 * p)))
def py_hc (σ : py_H) (h : Nat) (H : Nat → Nat) : Prop := σ h 0 = py_b (0 < H 0) ∧ py_hd σ h H
/-- a house as told: its numbers' bounds -/
def py_wf (H : Nat → Nat) : Prop :=
  H 0 ≤ 5 ∧ H 1 ≤ 99 ∧ H 2 ≤ 999 ∧ H 3 ≤ 4 ∧ H 12 ≤ 5 ∧ (0 < H 0 → 0 < H 3) ∧ (H 0 = 0 → H 12 = 0 ∧ H 3 = 0) ∧
  (∀ w, w < H 3 → H (4 + 2 * w) ≤ 9 ∧ H (5 + 2 * w) ≤ 9) ∧
  (∀ p, p < H 12 → 1 ≤ H (13 + 4 * p) ∧ H (13 + 4 * p) ≤ 5 ∧ 1 ≤ H (14 + 4 * p) ∧ H (14 + 4 * p) ≤ 9 ∧ H (15 + 4 * p) ≤ 60 ∧ H (16 + 4 * p) < H 3) ∧
  (∀ w, w < H 3 → py_cn (fun p => decide (H (16 + 4 * p) = w)) (H 12) ≤ H 0)
/-- rows: lanes (3: missing), how many, items -/
def py_rc (σ : py_H) (ln mn : Nat → Nat) (it : Nat → Int32) : Prop := ∀ r, r < 8 → ln r ≤ 3 ∧ σ 3 r = (if ln r = 3 then -1 else nI (ln r)) ∧ (ln r < 3 → mn r ≤ 40 ∧ σ 4 r = nI (mn r) ∧ ∀ i, i < mn r → σ 2 (40 * r + i) = it (40 * r + i))
def py_rk (σ : py_H) (ln mn : Nat → Nat) (it : Nat → Int32) : Prop := ∀ r, r < 8 → ln r ≤ 3 ∧ σ 48 r = (if ln r = 3 then -1000000 else nI (ln r)) ∧ (ln r < 3 → mn r ≤ 40 ∧ σ 49 r = nI (mn r) ∧ ∀ i, i < mn r → σ 50 (40 * r + i) = it (40 * r + i))
/-- how many cells a picture of a kind fades by in a year, and in d years from a year on -/
def py_fd (K S L D Y : Nat) : Nat := if K = 1 then 1 + L / S else if K = 2 then 2 * (1 + L / S) else if K = 3 then (if Y % S = 0 then 1 + L / S else 0) else if K = 4 then D / 2 else 0
def py_fs (K S L D Y d : Nat) : Nat := if K = 1 then d * (1 + L / S) else if K = 2 then d * 2 * (1 + L / S) else if K = 3 then ((Y + d + S - 1) / S - (Y + S - 1) / S) * (1 + L / S) else if K = 4 then d * (D / 2) else 0
theorem py_ceil {Y S : Nat} (hS : 1 ≤ S) : (Y + 1 + S - 1) / S = (Y + S - 1) / S + (if Y % S = 0 then 1 else 0) := by
  have h1 : Y + 1 + S - 1 = Y + S := by omega
  rw [h1, Nat.add_div_right Y (by omega)]
  by_cases hm : Y % S = 0
  · rw [if_pos hm]
    obtain ⟨q, hq⟩ := Nat.dvd_of_mod_eq_zero hm
    subst hq
    rw [Nat.mul_div_cancel_left q (by omega)]
    have h2 : S * q + S - 1 = (S - 1) + S * q := by omega
    rw [h2, Nat.add_mul_div_left _ _ (by omega), Nat.div_eq_of_lt (by omega)]
    omega
  · rw [if_neg hm]
    have h3 : Y + S - 1 = (Y % S + S - 1) + S * (Y / S) := by
      have := Nat.mod_add_div Y S
      omega
    rw [h3, Nat.add_mul_div_left _ _ (by omega)]
    have h4 : Y % S < S := Nat.mod_lt _ (by omega)
    have h5 : (Y % S + S - 1) / S = 1 := by
      have h6 : Y % S + S - 1 = (Y % S - 1) + S := by omega
      rw [h6, Nat.add_div_right _ (by omega), Nat.div_eq_of_lt (by omega)]
    omega
theorem py_ceil_mono {Y S : Nat} (hS : 1 ≤ S) : ∀ d, (Y + S - 1) / S ≤ (Y + d + S - 1) / S
  | 0 => Nat.le_refl _
  | d + 1 => by
    have h := py_ceil_mono (Y := Y) hS d
    have h2 := py_ceil (Y := Y + d) hS
    have h3 : Y + (d + 1) + S - 1 = Y + d + 1 + S - 1 := by omega
    rw [h3, h2]
    omega
theorem py_fs_0 (K S L D Y : Nat) : py_fs K S L D Y 0 = 0 := by
  unfold py_fs
  simp
theorem py_fs_s {K S L D Y d : Nat} (hS : 1 ≤ S) : py_fs K S L D Y (d + 1) = py_fs K S L D Y d + py_fd K S L D (Y + d) := by
  unfold py_fs py_fd
  by_cases h1 : K = 1
  · simp only [if_pos h1]; rw [Nat.succ_mul]
  by_cases h2 : K = 2
  · simp only [if_neg h1, if_pos h2]; rw [Nat.succ_mul, Nat.add_mul]
  by_cases h3 : K = 3
  · simp only [if_neg h1, if_neg h2, if_pos h3]
    have h4 : Y + (d + 1) + S - 1 = Y + d + 1 + S - 1 := by omega
    have h5 := py_ceil_mono (Y := Y) hS d
    rw [h4, py_ceil hS]
    by_cases hm : (Y + d) % S = 0
    · simp only [if_pos hm]
      rw [show (Y + d + S - 1) / S + 1 - (Y + S - 1) / S = ((Y + d + S - 1) / S - (Y + S - 1) / S) + 1 by omega, Nat.succ_mul]
    · simp only [if_neg hm, Nat.add_zero]
  by_cases h4 : K = 4
  · simp only [if_neg h1, if_neg h2, if_neg h3, if_pos h4]; rw [Nat.succ_mul]
  · simp only [if_neg h1, if_neg h2, if_neg h3, if_neg h4]
theorem py_fs_1 {K S L D Y : Nat} (hS : 1 ≤ S) : py_fs K S L D Y 1 = py_fd K S L D Y := by
  have h := py_fs_s (K := K) (L := L) (D := D) (Y := Y) (d := 0) hS
  rw [py_fs_0] at h
  simpa using h
theorem py_fd_le {K S L D Y : Nat} (hL : L ≤ 9) (hD : D ≤ 9) : py_fd K S L D Y ≤ 20 := by
  unfold py_fd
  have h : L / S ≤ L := Nat.div_le_self L S
  have h2 : D / 2 ≤ D := Nat.div_le_self D 2
  split
  · omega
  split
  · omega
  split
  · split <;> omega
  split <;> omega
theorem py_fs_le {K S L D Y : Nat} (hS : 1 ≤ S) (hL : L ≤ 9) (hD : D ≤ 9) : ∀ d, py_fs K S L D Y d ≤ 20 * d
  | 0 => by rw [py_fs_0]; omega
  | d + 1 => by
    have h := py_fs_le (K := K) (Y := Y) hS hL hD d
    have h2 := py_fd_le (K := K) (S := S) (Y := Y + d) hL hD
    rw [py_fs_s hS]
    omega
/-- of a house: what picture p fades by in its year; in d years -/
def py_f1 (H : Nat → Nat) (p : Nat) : Nat := py_fd (H (13 + 4 * p)) (H (14 + 4 * p)) (H (4 + 2 * H (16 + 4 * p))) (H (5 + 2 * H (16 + 4 * p))) (H 2)
def py_fn (H : Nat → Nat) (p d : Nat) : Nat := py_fs (H (13 + 4 * p)) (H (14 + 4 * p)) (H (4 + 2 * H (16 + 4 * p))) (H (5 + 2 * H (16 + 4 * p))) (H 2) d
/-- the house d years on -/
def py_age (H : Nat → Nat) (d : Nat) : Nat → Nat := fun j => if j = 2 then H 2 + d else if 15 ≤ j ∧ (j - 15) % 4 = 0 ∧ (j - 15) / 4 < H 12 then H j - py_fn H ((j - 15) / 4) d else H j
theorem py_age_2 (H : Nat → Nat) (d : Nat) : py_age H d 2 = H 2 + d := rfl
theorem py_age_l (H : Nat → Nat) (d : Nat) {p : Nat} (hp : p < H 12) : py_age H d (15 + 4 * p) = H (15 + 4 * p) - py_fn H p d := by
  unfold py_age
  rw [if_neg (by omega), if_pos (by refine ⟨by omega, by omega, ?_⟩; rw [show 15 + 4 * p - 15 = 4 * p by omega, Nat.mul_div_cancel_left p (by decide)]; exact hp), show (15 + 4 * p - 15) / 4 = p by omega]
theorem py_age_o (H : Nat → Nat) (d : Nat) {j : Nat} (h2 : j ≠ 2) (h : ∀ p, p < H 12 → j ≠ 15 + 4 * p) : py_age H d j = H j := by
  unfold py_age
  rw [if_neg h2, if_neg]
  rintro ⟨h3, h4, h5⟩
  exact h _ h5 (by omega)
theorem py_age_n (H : Nat → Nat) (d : Nat) {j : Nat} (h2 : j ≠ 2) (h : ∀ p, j ≠ 15 + 4 * p) : py_age H d j = H j := py_age_o H d h2 (fun p _ => h p)
theorem py_age_0 (H : Nat → Nat) : py_age H 0 = H := by
  funext j
  unfold py_age
  by_cases h2 : j = 2
  · rw [if_pos h2, h2, Nat.add_zero]
  · rw [if_neg h2]
    split
    · unfold py_fn; rw [py_fs_0, Nat.sub_zero]
    · rfl
theorem py_age_12 (H : Nat → Nat) (d : Nat) : py_age H d 12 = H 12 := py_age_n H d (by decide) (fun p => by omega)
theorem py_age_f1 (H : Nat → Nat) (d p : Nat) (hw : H (16 + 4 * p) < 4) : py_f1 (py_age H d) p = py_fd (H (13 + 4 * p)) (H (14 + 4 * p)) (H (4 + 2 * H (16 + 4 * p))) (H (5 + 2 * H (16 + 4 * p))) (H 2 + d) := by
  unfold py_f1
  rw [py_age_n H d (j := 13 + 4 * p) (by omega) (fun q => by omega), py_age_n H d (j := 14 + 4 * p) (by omega) (fun q => by omega), py_age_n H d (j := 16 + 4 * p) (by omega) (fun q => by omega), py_age_n H d (j := 4 + 2 * H (16 + 4 * p)) (by omega) (fun q => by omega), py_age_n H d (j := 5 + 2 * H (16 + 4 * p)) (by omega) (fun q => by omega), py_age_2]
