/-! pure words of what is foretold -/
/-- what is left of picture p behind d years -/
def py_lf (H : Nat → Nat) (p d : Nat) : Nat := H (15 + 4 * p) - py_fn H p d
theorem py_lf_age {H : Nat → Nat} {p : Nat} (hp : p < H 12) (d : Nat) : py_age H d (15 + 4 * p) = py_lf H p d := py_age_l H d hp
theorem py_fs_mono {K S L D Y d : Nat} (hS : 1 ≤ S) : ∀ e, py_fs K S L D Y d ≤ py_fs K S L D Y (d + e)
  | 0 => Nat.le_refl _
  | e + 1 => by
    have h := py_fs_mono (K := K) (L := L) (D := D) (Y := Y) (d := d) hS e
    have h2 := py_fs_s (K := K) (L := L) (D := D) (Y := Y) (d := d + e) hS
    rw [show d + (e + 1) = d + e + 1 by omega, h2]
    omega
theorem py_lf_anti {H : Nat → Nat} (hw : py_wf H) {p : Nat} (hp : p < H 12) {d e : Nat} (h : d ≤ e) : py_lf H p e ≤ py_lf H p d := by
  have h1 := py_fs_mono (K := H (13 + 4 * p)) (L := H (4 + 2 * H (16 + 4 * p))) (D := H (5 + 2 * H (16 + 4 * p))) (Y := H 2) (d := d) (py_bd_of hw hp).1 (e - d)
  rw [show d + (e - d) = e by omega] at h1
  unfold py_lf py_fn
  omega
theorem py_lf_0 (H : Nat → Nat) (p : Nat) : py_lf H p 0 = H (15 + 4 * p) := by
  unfold py_lf py_fn
  rw [py_fs_0, Nat.sub_zero]
/-- the first i from k on, of n, of which f is true; k + n if none is -/
def py_find (f : Nat → Bool) : Nat → Nat → Nat
  | 0, k => k
  | n + 1, k => if f k then k else py_find f n (k + 1)
theorem py_find_spec (f : Nat → Bool) : ∀ n k, k ≤ py_find f n k ∧ py_find f n k ≤ k + n ∧ (∀ i, k ≤ i → i < py_find f n k → f i = false) ∧ (py_find f n k < k + n → f (py_find f n k) = true)
  | 0, k => ⟨Nat.le_refl _, Nat.le_refl _, fun i h1 h2 => absurd h2 (by show ¬ i < k; omega), fun h => absurd h (by show ¬ k < k + 0; omega)⟩
  | n + 1, k => by
    have ih := py_find_spec f n (k + 1)
    by_cases h : f k = true
    · have e : py_find f (n + 1) k = k := by show (if f k then k else py_find f n (k + 1)) = k; rw [if_pos h]
      rw [e]
      exact ⟨Nat.le_refl _, by omega, fun i h1 h2 => by omega, fun _ => h⟩
    · have e : py_find f (n + 1) k = py_find f n (k + 1) := by show (if f k then k else py_find f n (k + 1)) = _; rw [if_neg h]
      rw [e]
      refine ⟨by omega, by omega, fun i h1 h2 => ?_, fun h3 => ih.2.2.2 (by omega)⟩
      by_cases hi : i = k
      · subst hi; simpa using h
      · exact ih.2.2.1 i (by omega) h2
theorem py_find_eq {f : Nat → Bool} {n k t : Nat} (h1 : k ≤ t) (h2 : t ≤ k + n) (h3 : ∀ i, k ≤ i → i < t → f i = false) (h4 : t < k + n → f t = true) : py_find f n k = t := by
  obtain ⟨a, b, c, d⟩ := py_find_spec f n k
  rcases Nat.lt_trichotomy (py_find f n k) t with h | h | h
  · have := d (by omega)
    rw [h3 _ a h] at this
    cases this
  · exact h
  · have := h4 (by omega)
    rw [c t h1 h] at this
    cases this
theorem py_find_t {f : Nat → Bool} {n k : Nat} (h : f k = true) : py_find f (n + 1) k = k := by
  show (if f k then k else py_find f n (k + 1)) = k
  rw [if_pos h]
theorem py_find_f {f : Nat → Bool} {n k : Nat} (h : f k = false) : py_find f (n + 1) k = py_find f n (k + 1) := by
  show (if f k then k else py_find f n (k + 1)) = _
  rw [h]; rfl
theorem py_find_cong {f g : Nat → Bool} : ∀ {n k : Nat}, (∀ i, k ≤ i → i < k + n → f i = g i) → py_find f n k = py_find g n k
  | 0, _, _ => rfl
  | n + 1, k, h => by
    show (if f k then k else py_find f n (k + 1)) = (if g k then k else py_find g n (k + 1))
    rw [h k (Nat.le_refl _) (by omega), py_find_cong (fun i h1 h2 => h i (by omega) (by omega))]
/-- behind how many years p dies (100: not within 99) -/
def py_dy (H : Nat → Nat) (p : Nat) : Nat := py_find (fun d => decide (py_lf H p d = 0)) 100 0
def py_dyI (H : Nat → Nat) (p : Nat) : Int32 := if py_dy H p < 100 then nI (py_dy H p) else -1000000
theorem py_dy_le (H : Nat → Nat) (p : Nat) : py_dy H p ≤ 100 := (py_find_spec _ 100 0).2.1
theorem py_dy_iff {H : Nat → Nat} (hw : py_wf H) {p : Nat} (hp : p < H 12) {n : Nat} (hn : n < 100) : py_lf H p n = 0 ↔ py_dy H p ≤ n := by
  obtain ⟨a, b, c, d⟩ := py_find_spec (fun d => decide (py_lf H p d = 0)) 100 0
  constructor
  · intro h
    apply Nat.le_of_not_lt
    intro hl
    have := c n (Nat.zero_le _) hl
    simp [h] at this
  · intro h
    have h1 : py_dy H p < 0 + 100 := by omega
    have h2 := d h1
    have h3 : py_lf H p (py_dy H p) = 0 := of_decide_eq_true h2
    have h4 := py_lf_anti hw hp h
    omega
/-- a house with i of its pictures faded -/
def py_pp (H : Nat → Nat) (i : Nat) : Nat → Nat := fun j => if 15 ≤ j ∧ (j - 15) % 4 = 0 ∧ (j - 15) / 4 < i then H j - py_f1 H ((j - 15) / 4) else H j
theorem py_pp_l {H : Nat → Nat} {i p : Nat} (h : p < i) : py_pp H i (15 + 4 * p) = H (15 + 4 * p) - py_f1 H p := by
  unfold py_pp
  rw [if_pos (by refine ⟨by omega, by omega, by omega⟩), show (15 + 4 * p - 15) / 4 = p by omega]
theorem py_pp_g {H : Nat → Nat} {i p : Nat} (h : i ≤ p) : py_pp H i (15 + 4 * p) = H (15 + 4 * p) := by
  unfold py_pp
  rw [if_neg (by omega)]
theorem py_pp_o {H : Nat → Nat} {i j : Nat} (h : ∀ p, j ≠ 15 + 4 * p) : py_pp H i j = H j := by
  unfold py_pp
  rw [if_neg]
  rintro ⟨h1, h2, h3⟩
  exact h ((j - 15) / 4) (by omega)
theorem py_pp_0 (H : Nat → Nat) : py_pp H 0 = H := by
  funext j
  unfold py_pp
  rw [if_neg (by omega)]
theorem py_pp_wf {H : Nat → Nat} (hw : py_wf H) (i : Nat) : py_wf (py_pp H i) := by
  obtain ⟨w0, w1, w2, w3, w12, w03, w00, wW, wP, wR⟩ := hw
  have e0 : py_pp H i 0 = H 0 := py_pp_o (fun p => by omega)
  have e1 : py_pp H i 1 = H 1 := py_pp_o (fun p => by omega)
  have e2 : py_pp H i 2 = H 2 := py_pp_o (fun p => by omega)
  have e3 : py_pp H i 3 = H 3 := py_pp_o (fun p => by omega)
  have e12 : py_pp H i 12 = H 12 := py_pp_o (fun p => by omega)
  unfold py_wf
  rw [e0, e1, e2, e3, e12]
  refine ⟨w0, w1, w2, w3, w12, w03, w00, fun w hw => ?_, fun p hp => ?_, fun w hw => ?_⟩
  · rw [py_pp_o (j := 4 + 2 * w) (fun p => by omega), py_pp_o (j := 5 + 2 * w) (fun p => by omega)]
    exact wW w hw
  · rw [py_pp_o (j := 13 + 4 * p) (fun q => by omega), py_pp_o (j := 14 + 4 * p) (fun q => by omega), py_pp_o (j := 16 + 4 * p) (fun q => by omega)]
    have h := wP p hp
    refine ⟨h.1, h.2.1, h.2.2.1, h.2.2.2.1, ?_, h.2.2.2.2.2⟩
    by_cases hi : p < i
    · rw [py_pp_l hi]; omega
    · rw [py_pp_g (by omega)]; exact h.2.2.2.2.1
  · have e : (fun p => decide (py_pp H i (16 + 4 * p) = w)) = (fun p => decide (H (16 + 4 * p) = w)) := funext (fun p => by rw [py_pp_o (j := 16 + 4 * p) (fun q => by omega)])
    rw [e]
    exact wR w hw
theorem py_pp_fn {H : Nat → Nat} (hw : py_wf H) (i : Nat) {p : Nat} (hp : p < H 12) (d : Nat) : py_fn (py_pp H i) p d = py_fn H p d := by
  have h := (hw.2.2.2.2.2.2.2.2.1 p hp).2.2.2.2.2
  have h3 := hw.2.2.2.1
  unfold py_fn
  rw [py_pp_o (j := 13 + 4 * p) (fun q => by omega), py_pp_o (j := 14 + 4 * p) (fun q => by omega), py_pp_o (j := 16 + 4 * p) (fun q => by omega), py_pp_o (j := 4 + 2 * H (16 + 4 * p)) (fun q => by omega), py_pp_o (j := 5 + 2 * H (16 + 4 * p)) (fun q => by omega), py_pp_o (j := 2) (fun q => by omega)]
theorem py_fn_1 {H : Nat → Nat} (hw : py_wf H) {p : Nat} (hp : p < H 12) : py_fn H p 1 = py_f1 H p := py_fs_1 (py_bd_of hw hp).1
/-- a year: all have faded, the year is one more -/
theorem py_age_pp {H : Nat → Nat} (hw : py_wf H) (j : Nat) : py_age H 1 j = if j = 2 then H 2 + 1 else py_pp H (H 12) j := by
  unfold py_age py_pp
  by_cases h2 : j = 2
  · rw [if_pos h2, if_pos h2]
  · rw [if_neg h2, if_neg h2]
    by_cases h : 15 ≤ j ∧ (j - 15) % 4 = 0 ∧ (j - 15) / 4 < H 12
    · rw [if_pos h, if_pos h, py_fn_1 hw h.2.2]
    · rw [if_neg h, if_neg h]
/-- bits of a number -/
def py_bit (t p : Nat) : Bool := decide (t / 2 ^ p % 2 = 1)
theorem py_shr1 {t p : Nat} (ht : t < 2 ^ 31) (hp : p < 31) : (nI t >>> (nI p &&& 31)) &&& nI 1 = nI (t / 2 ^ p % 2) := by
  have hs : ∀ q, q < 31 → ((nI q &&& 31).toBitVec.smod 32).toNat = q := by decide +kernel
  rw [pk_shrN ht _ p (hs p hp)]
  have h1 : (nI 1).toBitVec.toNat = 2 ^ 1 - 1 := by decide
  have h2 : t / 2 ^ p < 2 ^ 32 := Nat.lt_of_le_of_lt (Nat.div_le_self _ _) (by omega)
  rw [pk_andN h2 1 h1]
theorem py_bs_bit (f : Nat → Bool) : ∀ {n p : Nat}, p < n → py_bit (py_bs f n) p = f p := by
  intro n
  induction n with
  | zero => intro p hp; omega
  | succ n ih =>
    intro p hp
    unfold py_bit
    show decide ((py_bs f n + (if f n then 2 ^ n else 0)) / 2 ^ p % 2 = 1) = f p
    have hlt := py_bs_lt f n
    by_cases hpn : p = n
    · subst hpn
      cases hf : f p
      · simp [Nat.div_eq_of_lt hlt]
      · simp
        rw [Nat.add_div_right _ (Nat.two_pow_pos p), Nat.div_eq_of_lt hlt]
    · have hp2 : p < n := by omega
      have ih2 := ih hp2
      unfold py_bit at ih2
      cases hf : f n
      · simpa using ih2
      · rw [if_pos rfl]
        have e : 2 ^ n = 2 ^ p * (2 * 2 ^ (n - p - 1)) := by
          rw [← Nat.pow_succ', ← Nat.pow_add]
          congr 1
          omega
        rw [e, Nat.add_mul_div_left _ _ (Nat.two_pow_pos p), Nat.add_mul_mod_self_left]
        exact ih2
/-- what must be restored so that p lives behind d years -/
def py_nd (H : Nat → Nat) (p d : Nat) : Nat := py_fn H p d + 1 - H (15 + 4 * p)
def py_sv (H : Nat → Nat) (t d : Nat) : Nat → Nat
  | 0 => 0
  | n + 1 => py_sv H t d n + (if py_bit t n then py_nd H n d else 0)
def py_ok1 (H : Nat → Nat) (t d p : Nat) : Bool := !py_bit t p || (decide (0 < H (15 + 4 * p)) && decide (py_fn H p d + 1 ≤ 60))
def py_all (f : Nat → Bool) : Nat → Bool
  | 0 => true
  | n + 1 => py_all f n && f n
theorem py_all_iff (f : Nat → Bool) : ∀ n, py_all f n = true ↔ ∀ i, i < n → f i = true
  | 0 => ⟨fun _ i hi => absurd hi (Nat.not_lt_zero i), fun _ => rfl⟩
  | n + 1 => by
    have ih := py_all_iff f n
    show (py_all f n && f n) = true ↔ _
    rw [Bool.and_eq_true, ih]
    constructor
    · rintro ⟨h1, h2⟩ i hi
      by_cases h : i = n
      · subst h; exact h2
      · exact h1 i (by omega)
    · intro h
      exact ⟨fun i hi => h i (by omega), h n (by omega)⟩
def py_saveI (H : Nat → Nat) (t d : Nat) : Int32 := if py_all (py_ok1 H t d) (H 12) = true ∧ py_sv H t d (H 12) ≤ H 1 then nI (py_sv H t d (H 12)) else -1000000
/-- cells behind d years were the wall w dark -/
def py_dl (H : Nat → Nat) (w p d : Nat) : Nat := H (15 + 4 * p) - py_fs (H (13 + 4 * p)) (H (14 + 4 * p)) (if H (16 + 4 * p) = w then 0 else H (4 + 2 * H (16 + 4 * p))) (H (5 + 2 * H (16 + 4 * p))) (H 2) d
def py_dn (H : Nat → Nat) (w d : Nat) : Nat := py_cn (fun p => decide (0 < py_dl H w p d)) (H 12)
/-- the first of n of which f is greatest -/
def py_mx (f : Nat → Nat) : Nat → Nat
  | 0 => 0
  | n + 1 => if n = 0 then 0 else if f (py_mx f n) < f n then n else py_mx f n
