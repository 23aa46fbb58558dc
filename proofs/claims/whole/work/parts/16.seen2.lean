/-! pure words: who dies first, what fits, how likely -/
def py_sn (H : Nat → Nat) : Nat → Nat
  | 0 => 100
  | i + 1 => if 0 < py_dy H i ∧ py_dy H i < py_sn H i then py_dy H i else py_sn H i
def py_wh (H : Nat → Nat) : Nat → Nat
  | 0 => 0
  | i + 1 => if 0 < py_dy H i ∧ py_dy H i < py_sn H i then i else py_wh H i
theorem py_sn_le (H : Nat → Nat) : ∀ i, py_sn H i ≤ 100
  | 0 => Nat.le_refl _
  | i + 1 => by
    have h := py_sn_le H i
    show (if 0 < py_dy H i ∧ py_dy H i < py_sn H i then py_dy H i else py_sn H i) ≤ 100
    split <;> omega
def py_whI (H : Nat → Nat) (i : Nat) : Int32 := if py_sn H i < 100 then nI (py_wh H i) else -1000000
theorem py_sn_t {H : Nat → Nat} {i : Nat} (h : 0 < py_dy H i ∧ py_dy H i < py_sn H i) : py_sn H (i + 1) = py_dy H i ∧ py_whI H (i + 1) = nI i := by
  have h2 := py_sn_le H i
  have e : py_sn H (i + 1) = py_dy H i := by show (if _ then _ else _) = _; rw [if_pos h]
  refine ⟨e, ?_⟩
  unfold py_whI
  rw [e, if_pos (by omega)]
  show nI (if _ then _ else _) = _
  rw [if_pos h]
theorem py_sn_f {H : Nat → Nat} {i : Nat} (h : ¬ (0 < py_dy H i ∧ py_dy H i < py_sn H i)) : py_sn H (i + 1) = py_sn H i ∧ py_whI H (i + 1) = py_whI H i := by
  have e : py_sn H (i + 1) = py_sn H i := by show (if _ then _ else _) = _; rw [if_neg h]
  refine ⟨e, ?_⟩
  unfold py_whI
  rw [e]
  have e2 : py_wh H (i + 1) = py_wh H i := by show (if _ then _ else _) = _; rw [if_neg h]
  rw [e2]
/-- the least of them, and who is its first -/
theorem py_sn_spec (H : Nat → Nat) : ∀ i, (∀ p, p < i → 0 < py_dy H p → py_sn H i ≤ py_dy H p) ∧ (py_sn H i < 100 → py_wh H i < i ∧ 0 < py_dy H (py_wh H i) ∧ py_dy H (py_wh H i) = py_sn H i ∧ ∀ p, p < py_wh H i → 0 < py_dy H p → py_sn H i < py_dy H p)
  | 0 => ⟨fun p hp => absurd hp (Nat.not_lt_zero p), fun h => absurd h (by show ¬ 100 < 100; omega)⟩
  | i + 1 => by
    obtain ⟨h1, h2⟩ := py_sn_spec H i
    by_cases h : 0 < py_dy H i ∧ py_dy H i < py_sn H i
    · have e1 : py_sn H (i + 1) = py_dy H i := by show (if _ then _ else _) = _; rw [if_pos h]
      have e2 : py_wh H (i + 1) = i := by show (if _ then _ else _) = _; rw [if_pos h]
      rw [e1, e2]
      refine ⟨fun p hp h0 => ?_, fun _ => ⟨by omega, h.1, rfl, fun p hp h0 => ?_⟩⟩
      · by_cases hpi : p = i
        · subst hpi; exact Nat.le_refl _
        · have := h1 p (by omega) h0; omega
      · have := h1 p hp h0; omega
    · have e1 : py_sn H (i + 1) = py_sn H i := by show (if _ then _ else _) = _; rw [if_neg h]
      have e2 : py_wh H (i + 1) = py_wh H i := by show (if _ then _ else _) = _; rw [if_neg h]
      rw [e1, e2]
      refine ⟨fun p hp h0 => ?_, fun hl => ?_⟩
      · by_cases hpi : p = i
        · subst hpi; omega
        · exact h1 p (by omega) h0
      · have := h2 hl
        exact ⟨by omega, this.2⟩
/-- so an outlook shows what is told -/
def py_fit (K S C L D Y : Nat) (τ : Nat → Int32) (n : Nat) : Bool := py_all (fun y => decide (nI (C - py_fs K S L D Y (y + 1)) = τ y)) n
theorem py_fit_f {K S C L D Y : Nat} {τ : Nat → Int32} {n i : Nat} (hi : i < n) (h : ¬ nI (C - py_fs K S L D Y (i + 1)) = τ i) : ¬ py_fit K S C L D Y τ n = true := by
  intro q
  have := (py_all_iff _ n).mp q i hi
  exact h (of_decide_eq_true this)
/-- how many there are of a number's bits -/
def py_pc (t : Nat) : Nat := py_cn (py_bit t) 5
theorem py_bit_hi {t n p : Nat} (h : t < 2 ^ n) (hp : n ≤ p) : py_bit t p = false := by
  unfold py_bit
  have : 2 ^ n ≤ 2 ^ p := Nat.pow_le_pow_right (by decide) hp
  rw [Nat.div_eq_of_lt (by omega)]
  decide
theorem py_cn_more {f : Nat → Bool} {n : Nat} : ∀ m, (∀ p, n ≤ p → p < n + m → f p = false) → py_cn f (n + m) = py_cn f n
  | 0, _ => rfl
  | m + 1, h => by
    rw [show n + (m + 1) = (n + m) + 1 by omega, ← py_cn_f (h (n + m) (by omega) (by omega))]
    exact py_cn_more m (fun p h1 h2 => h p h1 (by omega))
theorem py_pc_bs (f : Nat → Bool) {n : Nat} (hn : n ≤ 5) : py_pc (py_bs f n) = py_cn f n := by
  unfold py_pc
  have e := py_cn_more (f := py_bit (py_bs f n)) (n := n) (5 - n) (fun p h1 _ => py_bit_hi (py_bs_lt f n) h1)
  rw [show n + (5 - n) = 5 by omega] at e
  rw [e]
  exact py_cn_cong (fun k hk => py_bs_bit f hk)
/-- of the numbers below n that have m bits or more: (10 - c) to each bit, c to each other of l -/
def py_wy (m l c : Nat) : Nat → Nat
  | 0 => 0
  | k + 1 => py_wy m l c k + (if m ≤ py_pc k then (10 - c) ^ py_pc k * c ^ (l - py_pc k) else 0)
theorem py_pc_le (t : Nat) : py_pc t ≤ 5 := py_cn_le _ 5
theorem py_pow_le {b e : Nat} (hb : b ≤ 10) (he : e ≤ 5) : b ^ e ≤ 100000 := by
  have h1 : b ^ e ≤ 10 ^ e := Nat.pow_le_pow_left hb e
  have h2 : 10 ^ e ≤ 10 ^ 5 := Nat.pow_le_pow_right (by decide) he
  omega
theorem py_pc_lt {t l : Nat} (ht : t < 2 ^ l) (hl : l ≤ 5) : py_pc t ≤ l := by
  unfold py_pc
  have e := py_cn_more (f := py_bit t) (n := l) (5 - l) (fun p h1 _ => py_bit_hi ht h1)
  rw [show l + (5 - l) = 5 by omega] at e
  rw [e]
  exact py_cn_le _ l
theorem py_pw2 {b c e l : Nat} (hb : b ≤ 10) (hc : c ≤ 10) (h : e ≤ l) (hl : l ≤ 5) : b ^ e * c ^ (l - e) ≤ 100000 := by
  have h1 : b ^ e ≤ 10 ^ e := Nat.pow_le_pow_left hb e
  have h2 : c ^ (l - e) ≤ 10 ^ (l - e) := Nat.pow_le_pow_left hc _
  have h3 := Nat.mul_le_mul h1 h2
  rw [← Nat.pow_add, show e + (l - e) = l by omega] at h3
  have h4 : 10 ^ l ≤ 10 ^ 5 := Nat.pow_le_pow_right (by decide) hl
  omega
theorem py_wy_le {m l c : Nat} (hc : c ≤ 10) (hl : l ≤ 5) : ∀ k, k ≤ 2 ^ l → py_wy m l c k ≤ 100000 * k
  | 0, _ => Nat.le_refl _
  | k + 1, hk => by
    have ih := py_wy_le (m := m) hc hl k (by omega)
    have h := py_pw2 (b := 10 - c) (c := c) (by omega) hc (py_pc_lt (t := k) (l := l) (by omega) hl) hl
    show py_wy m l c k + (if m ≤ py_pc k then (10 - c) ^ py_pc k * c ^ (l - py_pc k) else 0) ≤ _
    generalize (10 - c) ^ py_pc k * c ^ (l - py_pc k) = z at h ⊢
    split <;> omega
/-- the greatest common divisor by 64 rounds -/
theorem py_gcd_step {a b : Nat} (hb : 0 < b) : Nat.gcd b (a % b) = Nat.gcd a b := by
  rw [Nat.gcd_comm a b, Nat.gcd_rec b a, Nat.gcd_comm]
