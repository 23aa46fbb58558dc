/-! pure words: ranges, bits, counts, what stays -/
abbrev py_pi (x : Int32) (n : Nat) : Prop := 0 ≤ x.toInt ∧ x.toInt < (n : Int)
theorem py_rngI (x : Int32) : -2147483648 ≤ x.toInt ∧ x.toInt < 2147483648 := by
  have h1 := Int32.le_toInt x
  have h2 := Int32.toInt_lt x
  omega
theorem py_toI {n : Nat} (h : n < 2 ^ 31) : (nI n).toInt = (n : Int) := nI_toInt h
theorem py_nat {x : Int32} (h : 0 ≤ x.toInt) : x = nI x.toInt.toNat := by
  apply Int32.toInt_inj.mp
  have h2 := (py_rngI x).2
  rw [nI_toInt (by omega)]
  omega
theorem py_pi_of {x : Int32} {n : Nat} (h : py_pi x n) : ∃ p, p < n ∧ x = nI p := ⟨x.toInt.toNat, by omega, py_nat h.1⟩
theorem py_pi_n {p n : Nat} (hp : p < 2 ^ 31) : py_pi (nI p) n ↔ p < n := by
  unfold py_pi
  rw [nI_toInt hp]
  omega
theorem py_rg {x : Int32} {a b : Nat} (ha : a < 2 ^ 31) (hb : b < 2 ^ 31) : (nI a ≤ x ∧ x ≤ nI b) ↔ ((a : Int) ≤ x.toInt ∧ x.toInt ≤ (b : Int)) := by
  rw [Int32.le_iff_toInt_le, Int32.le_iff_toInt_le, nI_toInt ha, nI_toInt hb]
theorem py_rg_of {x : Int32} {a b : Nat} (h : nI a ≤ x ∧ x ≤ nI b) (ha : a < 2 ^ 31 := by decide) (hb : b < 2 ^ 31 := by decide) : ∃ v, x = nI v ∧ a ≤ v ∧ v ≤ b := by
  have h2 := (py_rg ha hb).mp h
  exact ⟨x.toInt.toNat, py_nat (by omega), by omega, by omega⟩
theorem py_rg_n {v a b : Nat} (hv : v < 2 ^ 31) (ha : a < 2 ^ 31) (hb : b < 2 ^ 31) : (nI a ≤ nI v ∧ nI v ≤ nI b) ↔ (a ≤ v ∧ v ≤ b) := by
  rw [py_rg ha hb, nI_toInt hv]
  omega
theorem py_sub_toInt {a b : Nat} (ha : a < 2 ^ 30) (hb : b < 2 ^ 30) : (nI a - nI b).toInt = (a : Int) - (b : Int) := pk_sub_toInt ha hb
theorem py_pi_w {x : Int32} {n : Nat} (hn : n < 2 ^ 30) : (nI 0 ≤ x ∧ x ≤ nI n - nI 1) ↔ py_pi x n := by
  rw [Int32.le_iff_toInt_le, Int32.le_iff_toInt_le, nI_toInt (by decide), py_sub_toInt hn (by decide)]
  unfold py_pi
  omega
/-- a set of places below n, as a number -/
def py_bs (f : Nat → Bool) : Nat → Nat
  | 0 => 0
  | n + 1 => py_bs f n + (if f n then 2 ^ n else 0)
def py_cn (f : Nat → Bool) : Nat → Nat
  | 0 => 0
  | n + 1 => py_cn f n + (if f n then 1 else 0)
theorem py_bs_lt (f : Nat → Bool) : ∀ n, py_bs f n < 2 ^ n
  | 0 => Nat.one_pos
  | n + 1 => by
    have h := py_bs_lt f n
    unfold py_bs
    rw [Nat.pow_succ]
    split <;> omega
theorem py_cn_le (f : Nat → Bool) : ∀ n, py_cn f n ≤ n
  | 0 => Nat.le_refl _
  | n + 1 => by
    have h := py_cn_le f n
    unfold py_cn
    split <;> omega
theorem py_bs_cong {f g : Nat → Bool} : ∀ {n : Nat}, (∀ k, k < n → f k = g k) → py_bs f n = py_bs g n
  | 0, _ => rfl
  | n + 1, h => by
    unfold py_bs
    rw [py_bs_cong (fun k hk => h k (by omega)), h n (by omega)]
theorem py_cn_cong {f g : Nat → Bool} : ∀ {n : Nat}, (∀ k, k < n → f k = g k) → py_cn f n = py_cn g n
  | 0, _ => rfl
  | n + 1, h => by
    unfold py_cn
    rw [py_cn_cong (fun k hk => h k (by omega)), h n (by omega)]
theorem py_shl1 : ∀ p, p < 31 → (nI 1 <<< (nI p &&& 31)) = nI (2 ^ p) := by decide +kernel
theorem py_or_add {x p : Nat} (hx : x < 2 ^ p) (hp : p < 31) : nI x ||| (nI 1 <<< (nI p &&& 31)) = nI (x + 2 ^ p) := by
  rw [py_shl1 p hp]
  apply Int32.toBitVec_inj.mp
  have h1 : (nI x ||| nI (2 ^ p)).toBitVec = (nI x).toBitVec ||| (nI (2 ^ p)).toBitVec := rfl
  have h2 : ∀ n, (nI n).toBitVec = BitVec.ofNat 32 n := fun n => rfl
  rw [h1, h2, h2, h2]
  apply BitVec.eq_of_toNat_eq
  have h3 : 2 ^ p ≤ 2 ^ 30 := Nat.pow_le_pow_right (by decide) (by omega)
  have h4 : x ||| 2 ^ p = x + 2 ^ p := by
    have := Nat.two_pow_add_eq_or_of_lt hx 1
    rw [Nat.mul_one] at this
    rw [Nat.or_comm, ← this, Nat.add_comm]
  rw [BitVec.toNat_or, BitVec.toNat_ofNat, BitVec.toNat_ofNat, BitVec.toNat_ofNat, Nat.mod_eq_of_lt (by omega), Nat.mod_eq_of_lt (by omega), Nat.mod_eq_of_lt (by omega), h4]
theorem py_or0 (x : Nat) : nI x ||| nI 0 = nI x := by
  apply Int32.toBitVec_inj.mp
  show (nI x).toBitVec ||| 0#32 = _
  simp
theorem py_bs_t {f : Nat → Bool} {p : Nat} (h : f p = true) : py_bs f p + 2 ^ p = py_bs f (p + 1) := by
  show _ = py_bs f p + (if f p then 2 ^ p else 0)
  rw [h]; rfl
theorem py_bs_f {f : Nat → Bool} {p : Nat} (h : f p = false) : py_bs f p = py_bs f (p + 1) := by
  show _ = py_bs f p + (if f p then 2 ^ p else 0)
  rw [h]; rfl
theorem py_cn_t {f : Nat → Bool} {p : Nat} (h : f p = true) : py_cn f p + 1 = py_cn f (p + 1) := by
  show _ = py_cn f p + (if f p then 1 else 0)
  rw [h]; rfl
theorem py_cn_f {f : Nat → Bool} {p : Nat} (h : f p = false) : py_cn f p = py_cn f (p + 1) := by
  show _ = py_cn f p + (if f p then 1 else 0)
  rw [h]; rfl
/-- what stays: all rows but those of S -/
def py_fr (S : List Nat) (σ σ2 : py_H) : Prop := ∀ k, k ∉ S → σ2 k = σ k
theorem py_fr.rf (S : List Nat) (σ : py_H) : py_fr S σ σ := fun _ _ => rfl
theorem py_fr.up {S : List Nat} {σ σ1 : py_H} (h : py_fr S σ σ1) {k : Nat} (hk : k ∈ S) (j : Nat) (v : Int32) : py_fr S σ (py_up σ1 k j v) := fun a ha => by
  have hne : a ≠ k := fun e => ha (by rw [e]; exact hk)
  rw [py_up_k σ1 j v hne]
  exact h a ha
theorem py_fr.row {S : List Nat} {σ σ1 : py_H} (h : py_fr S σ σ1) {k : Nat} (hk : k ∈ S) (f : Nat → Int32) : py_fr S σ (py_row σ1 k f) := fun a ha => by
  have hne : a ≠ k := fun e => ha (by rw [e]; exact hk)
  rw [py_row_ne σ1 f hne]
  exact h a ha
theorem py_fr.tr {S S1 : List Nat} {σ σ1 σ2 : py_H} (h : py_fr S σ σ1) (h1 : py_fr S1 σ1 σ2) (hs : ∀ k ∈ S1, k ∈ S) : py_fr S σ σ2 := fun a ha => by
  rw [h1 a (fun q => ha (hs a q))]
  exact h a ha
theorem py_fr.wd {S S1 : List Nat} {σ σ1 : py_H} (h : py_fr S1 σ σ1) (hs : ∀ k ∈ S1, k ∈ S) : py_fr S σ σ1 := fun a ha => h a (fun q => ha (hs a q))
/-- the four houses of the class -/
def py_hs (h : Nat) : Prop := h = 7 ∨ h = 14 ∨ h = 21 ∨ h = 28
theorem py_hsO {h : Nat} (hh : py_hs h) : py_O h = some (2, 12) := by rcases hh with rfl | rfl | rfl | rfl <;> rfl
theorem py_hsN {h : Nat} (hh : py_hs h) {j : Nat} (hj : j < 6) : py_R h j = none := by
  rcases hh with rfl | rfl | rfl | rfl <;> (rcases (show j = 0 ∨ j = 1 ∨ j = 2 ∨ j = 3 ∨ j = 4 ∨ j = 5 by omega) with rfl | rfl | rfl | rfl | rfl | rfl <;> rfl)
theorem py_hsR {h : Nat} (hh : py_hs h) {j : Nat} (hj : j < 6) : py_R h (j + 6) = some (h + (j + 1)) := by
  rcases hh with rfl | rfl | rfl | rfl <;> (rcases (show j = 0 ∨ j = 1 ∨ j = 2 ∨ j = 3 ∨ j = 4 ∨ j = 5 by omega) with rfl | rfl | rfl | rfl | rfl | rfl <;> rfl)
theorem py_hsA {h : Nat} (hh : py_hs h) {j : Nat} (hj : j < 6) : py_isA (h + (j + 1)) = true := by
  rcases hh with rfl | rfl | rfl | rfl <;> (rcases (show j = 0 ∨ j = 1 ∨ j = 2 ∨ j = 3 ∨ j = 4 ∨ j = 5 by omega) with rfl | rfl | rfl | rfl | rfl | rfl <;> rfl)
theorem py_hsL {h : Nat} (hh : py_hs h) {j : Nat} (hj : j < 2) : py_N (h + (j + 1)) = 4 := by
  rcases hh with rfl | rfl | rfl | rfl <;> (rcases (show j = 0 ∨ j = 1 by omega) with rfl | rfl <;> rfl)
theorem py_hsP {h : Nat} (hh : py_hs h) {j : Nat} (h2 : 2 ≤ j) (hj : j < 6) : py_N (h + (j + 1)) = 5 := by
  rcases hh with rfl | rfl | rfl | rfl <;> (rcases (show j = 2 ∨ j = 3 ∨ j = 4 ∨ j = 5 by omega) with rfl | rfl | rfl | rfl <;> rfl)
