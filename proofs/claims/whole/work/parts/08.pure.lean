/-! pure words: ranges, bits, counts, what stays -/
abbrev py_pi (x : Int32) (n : Nat) : Prop := 0 ≤ x.toInt ∧ x.toInt < (n : Int)
theorem py_rngI (x : Int32) : -2147483648 ≤ x.toInt ∧ x.toInt < 2147483648 := by
  have h1 := Int32.le_toInt x
  have h2 := Int32.toInt_lt x
  omega
theorem py_toI {n : Nat} (h : n < 2 ^ 31) : (nI n).toInt = (n : Int) := nI_toInt h
theorem py_nat {x : Int32} (h : 0 ≤ x.toInt) : x = nI x.toInt.toNat := by
  apply Int32.toInt_inj.mp
  have h2 := (py_rngI x).2
  rw [nI_toInt (by omega)]
  omega
theorem py_pi_of {x : Int32} {n : Nat} (h : py_pi x n) : ∃ p, x = nI p ∧ p < n ∧ (nI p).toInt = (p : Int) ∧ (nI p).toNatClampNeg = p := by
  have h2 := (py_rngI x).2
  exact ⟨x.toInt.toNat, py_nat h.1, by omega, nI_toInt (by omega), nI_clamp (by omega)⟩
theorem py_pi_n {p n : Nat} (hp : p < 2 ^ 31) : py_pi (nI p) n ↔ p < n := by
  unfold py_pi
  rw [nI_toInt hp]
  omega
theorem py_rg_of {x : Int32} {a b : Nat} (h : (a : Int) ≤ x.toInt ∧ x.toInt ≤ (b : Int)) : ∃ v, x = nI v ∧ a ≤ v ∧ v ≤ b ∧ (nI v).toInt = (v : Int) ∧ (nI v).toNatClampNeg = v := by
  have h2 := (py_rngI x).2
  exact ⟨x.toInt.toNat, py_nat (by omega), by omega, by omega, nI_toInt (by omega), nI_clamp (by omega)⟩
theorem py_sub_toInt {a b : Nat} (ha : a < 2 ^ 30) (hb : b < 2 ^ 30) : (nI a - nI b).toInt = (a : Int) - (b : Int) := pk_sub_toInt ha hb
theorem py_pi_w {x : Int32} {n : Nat} (hn : n < 2 ^ 30) : ((nI 0).toInt ≤ x.toInt ∧ x.toInt ≤ (nI n - nI 1).toInt) ↔ py_pi x n := by
  rw [nI_toInt (by decide), py_sub_toInt hn (by decide)]
  unfold py_pi
  omega
/-- a set of places below n, as a number -/
def py_bs (f : Nat → Bool) : Nat → Nat
  | 0 => 0
  | n + 1 => py_bs f n + (if f n then 2 ^ n else 0)
def py_cn (f : Nat → Bool) : Nat → Nat
  | 0 => 0
  | n + 1 => py_cn f n + (if f n then 1 else 0)
theorem py_bs_lt (f : Nat → Bool) : ∀ n, py_bs f n < 2 ^ n
  | 0 => Nat.one_pos
  | n + 1 => by
    have h := py_bs_lt f n
    unfold py_bs
    rw [Nat.pow_succ]
    split <;> omega
theorem py_cn_le (f : Nat → Bool) : ∀ n, py_cn f n ≤ n
  | 0 => Nat.le_refl _
  | n + 1 => by
    have h := py_cn_le f n
    unfold py_cn
    split <;> omega
theorem py_bs_cong {f g : Nat → Bool} : ∀ {n : Nat}, (∀ k, k < n → f k = g k) → py_bs f n = py_bs g n
  | 0, _ => rfl
  | n + 1, h => by
    unfold py_bs
    rw [py_bs_cong (fun k hk => h k (by omega)), h n (by omega)]
theorem py_cn_cong {f g : Nat → Bool} : ∀ {n : Nat}, (∀ k, k < n → f k = g k) → py_cn f n = py_cn g n
  | 0, _ => rfl
  | n + 1, h => by
    unfold py_cn
    rw [py_cn_cong (fun k hk => h k (by omega)), h n (by omega)]
theorem py_shl1 : ∀ p, p < 31 → (nI 1 <<< (nI p &&& 31)) = nI (2 ^ p) := by decide +kernel
theorem py_or_add {x p : Nat} (hx : x < 2 ^ p) (hp : p < 31) : nI x ||| (nI 1 <<< (nI p &&& 31)) = nI (x + 2 ^ p) := by
  rw [py_shl1 p hp]
  apply Int32.toBitVec_inj.mp
  have h1 : (nI x ||| nI (2 ^ p)).toBitVec = (nI x).toBitVec ||| (nI (2 ^ p)).toBitVec := rfl
  have h2 : ∀ n, (nI n).toBitVec = BitVec.ofNat 32 n := fun n => rfl
  rw [h1, h2, h2, h2]
  apply BitVec.eq_of_toNat_eq
  have h3 : 2 ^ p ≤ 2 ^ 30 := Nat.pow_le_pow_right (by decide) (by omega)
  have h4 : x ||| 2 ^ p = x + 2 ^ p := by
    have := Nat.two_pow_add_eq_or_of_lt hx 1
    rw [Nat.mul_one] at this
    rw [Nat.or_comm, ← this, Nat.add_comm]
  rw [BitVec.toNat_or, BitVec.toNat_ofNat, BitVec.toNat_ofNat, BitVec.toNat_ofNat, Nat.mod_eq_of_lt (by omega), Nat.mod_eq_of_lt (by omega), Nat.mod_eq_of_lt (by omega), h4]
theorem py_or0 (x : Nat) : nI x ||| nI 0 = nI x := by
  apply Int32.toBitVec_inj.mp
  show (nI x).toBitVec ||| 0#32 = _
  simp
theorem py_bs_t {f : Nat → Bool} {p : Nat} (h : f p = true) : py_bs f p + 2 ^ p = py_bs f (p + 1) := by
  show _ = py_bs f p + (if f p then 2 ^ p else 0)
  rw [h]; rfl
theorem py_bs_f {f : Nat → Bool} {p : Nat} (h : f p = false) : py_bs f p = py_bs f (p + 1) := by
  show _ = py_bs f p + (if f p then 2 ^ p else 0)
  rw [h]; rfl
theorem py_cn_t {f : Nat → Bool} {p : Nat} (h : f p = true) : py_cn f p + 1 = py_cn f (p + 1) := by
  show _ = py_cn f p + (if f p then 1 else 0)
  rw [h]; rfl
theorem py_cn_f {f : Nat → Bool} {p : Nat} (h : f p = false) : py_cn f p = py_cn f (p + 1) := by
  show _ = py_cn f p + (if f p then 1 else 0)
  rw [h]; rfl
/-- what stays: all rows but those of S, all slots but those of T -/
def py_fr (S : List Nat) (T : List (Nat × Nat)) (σ s : py_H) : Prop := ∀ k j, k ∉ S → (k, j) ∉ T → s k j = σ k j
theorem py_fr.rf (S : List Nat) (T : List (Nat × Nat)) (σ : py_H) : py_fr S T σ σ := fun _ _ _ _ => rfl
theorem py_up_ap (σ : py_H) (k j : Nat) (v : Int32) (a b : Nat) : py_up σ k j v a b = if a = k ∧ b = j then v else σ a b := by
  unfold py_up py_row upd
  by_cases h : a = k
  · subst h; simp
  · simp [h]
theorem py_fr.up {S : List Nat} {T : List (Nat × Nat)} {σ s : py_H} (h : py_fr S T σ s) {k j : Nat} (hk : k ∈ S) (v : Int32) : py_fr S T σ (py_up s k j v) := fun a b ha hb => by
  rw [py_up_ap, if_neg (fun e => ha (by rw [e.1]; exact hk))]
  exact h a b ha hb
theorem py_fr.ut {S : List Nat} {T : List (Nat × Nat)} {σ s : py_H} (h : py_fr S T σ s) {k j : Nat} (hk : (k, j) ∈ T) (v : Int32) : py_fr S T σ (py_up s k j v) := fun a b ha hb => by
  rw [py_up_ap, if_neg (fun e => hb (by rw [e.1, e.2]; exact hk))]
  exact h a b ha hb
theorem py_fr.row {S : List Nat} {T : List (Nat × Nat)} {σ s : py_H} (h : py_fr S T σ s) {k : Nat} (hk : k ∈ S) (f : Nat → Int32) : py_fr S T σ (py_row s k f) := fun a b ha hb => by
  have hne : a ≠ k := fun e => ha (by rw [e]; exact hk)
  rw [py_row_ne s f hne]
  exact h a b ha hb
theorem py_fr.tr {S S1 : List Nat} {T T1 : List (Nat × Nat)} {σ s s2 : py_H} (h : py_fr S T σ s) (h1 : py_fr S1 T1 s s2) (hs : ∀ k ∈ S1, k ∈ S) (ht : ∀ q ∈ T1, q ∈ T ∨ q.1 ∈ S) : py_fr S T σ s2 := fun a b ha hb => by
  rw [h1 a b (fun q => ha (hs a q)) (fun q => (ht _ q).elim hb ha)]
  exact h a b ha hb
theorem py_fr.wd {S S1 : List Nat} {T T1 : List (Nat × Nat)} {σ s : py_H} (h : py_fr S1 T1 σ s) (hs : ∀ k ∈ S1, k ∈ S) (ht : ∀ q ∈ T1, q ∈ T ∨ q.1 ∈ S) : py_fr S T σ s := fun a b ha hb => h a b (fun q => ha (hs a q)) (fun q => (ht _ q).elim hb ha)
/-- a row that stays whole -/
theorem py_fr.at {S : List Nat} {T : List (Nat × Nat)} {σ s : py_H} (h : py_fr S T σ s) (k : Nat) (hk : k ∉ S) (ht : ∀ q ∈ T, q.1 ≠ k) : s k = σ k := funext (fun j => h k j hk (fun q => ht _ q rfl))
/-- the four houses of the class -/
def py_hs (h : Nat) : Prop := h = 7 ∨ h = 14 ∨ h = 21 ∨ h = 28
theorem py_hsO {h : Nat} (hh : py_hs h) : py_O h = some (2, 12) := by rcases hh with rfl | rfl | rfl | rfl <;> rfl
theorem py_hsN {h : Nat} (hh : py_hs h) {j : Nat} (hj : j < 6) : py_R h j = none := by
  rcases hh with rfl | rfl | rfl | rfl <;> (rcases (show j = 0 ∨ j = 1 ∨ j = 2 ∨ j = 3 ∨ j = 4 ∨ j = 5 by omega) with rfl | rfl | rfl | rfl | rfl | rfl <;> rfl)
theorem py_hsR {h : Nat} (hh : py_hs h) {j : Nat} (hj : j < 6) : py_R h (j + 6) = some (h + (j + 1)) := by
  rcases hh with rfl | rfl | rfl | rfl <;> (rcases (show j = 0 ∨ j = 1 ∨ j = 2 ∨ j = 3 ∨ j = 4 ∨ j = 5 by omega) with rfl | rfl | rfl | rfl | rfl | rfl <;> rfl)
theorem py_hsA {h : Nat} (hh : py_hs h) {j : Nat} (hj : j < 6) : py_isA (h + (j + 1)) = true := by
  rcases hh with rfl | rfl | rfl | rfl <;> (rcases (show j = 0 ∨ j = 1 ∨ j = 2 ∨ j = 3 ∨ j = 4 ∨ j = 5 by omega) with rfl | rfl | rfl | rfl | rfl | rfl <;> rfl)
theorem py_hsL {h : Nat} (hh : py_hs h) {j : Nat} (hj : j < 2) : py_N (h + (j + 1)) = 4 := by
  rcases hh with rfl | rfl | rfl | rfl <;> (rcases (show j = 0 ∨ j = 1 by omega) with rfl | rfl <;> rfl)
theorem py_hsP {h : Nat} (hh : py_hs h) {j : Nat} (h2 : 2 ≤ j) (hj : j < 6) : py_N (h + (j + 1)) = 5 := by
  rcases hh with rfl | rfl | rfl | rfl <;> (rcases (show j = 2 ∨ j = 3 ∨ j = 4 ∨ j = 5 by omega) with rfl | rfl | rfl | rfl <;> rfl)
theorem fb_rng (x : Int32) : -2147483648 ≤ x.toInt ∧ x.toInt < 2147483648 := by
  have h1 := Int32.le_toInt x
  have h2 := Int32.toInt_lt x
  omega
theorem fb_bmod {z : Int} (h1 : -2147483648 ≤ z) (h2 : z < 2147483648) : z.bmod (2 ^ 32) = z := by
  rw [Int.bmod_eq_of_le (by omega) (by omega)]
theorem fb_addI {x y : Int32} (h1 : -2147483648 ≤ x.toInt + y.toInt) (h2 : x.toInt + y.toInt < 2147483648) : (x + y).toInt = x.toInt + y.toInt := by
  rw [Int32.toInt_add, fb_bmod h1 h2]
theorem fb_subI {x y : Int32} (h1 : -2147483648 ≤ x.toInt - y.toInt) (h2 : x.toInt - y.toInt < 2147483648) : (x - y).toInt = x.toInt - y.toInt := by
  rw [Int32.toInt_sub, fb_bmod h1 h2]
theorem fb_mulI {x y : Int32} (h1 : -2147483648 ≤ x.toInt * y.toInt) (h2 : x.toInt * y.toInt < 2147483648) : (x * y).toInt = x.toInt * y.toInt := by
  rw [Int32.toInt_mul, fb_bmod h1 h2]
theorem fb_negI {x : Int32} (h : x.toInt ≠ -2147483648) : (-x).toInt = -x.toInt := by
  have := fb_rng x
  rw [Int32.toInt_neg, fb_bmod (by omega) (by omega)]
theorem fb_ofI {z : Int} (h1 : -2147483648 ≤ z) (h2 : z < 2147483648) : (Int32.ofInt z).toInt = z := by
  rw [Int32.toInt_ofInt, fb_bmod h1 h2]
theorem fb_asI (x : Int32) : Int32.ofInt x.toInt = x := Int32.ofInt_toInt x
theorem fb_rngL (x : Int64) : -9223372036854775808 ≤ x.toInt ∧ x.toInt < 9223372036854775808 := by
  have h1 := Int64.le_toInt x
  have h2 := Int64.toInt_lt x
  omega
theorem fb_bmodL {z : Int} (h1 : -9223372036854775808 ≤ z) (h2 : z < 9223372036854775808) : z.bmod (2 ^ 64) = z := by
  rw [Int.bmod_eq_of_le (by omega) (by omega)]
theorem fb_addL {x y : Int64} (h1 : -9223372036854775808 ≤ x.toInt + y.toInt) (h2 : x.toInt + y.toInt < 9223372036854775808) : (x + y).toInt = x.toInt + y.toInt := by
  rw [Int64.toInt_add, fb_bmodL h1 h2]
theorem fb_subL {x y : Int64} (h1 : -9223372036854775808 ≤ x.toInt - y.toInt) (h2 : x.toInt - y.toInt < 9223372036854775808) : (x - y).toInt = x.toInt - y.toInt := by
  rw [Int64.toInt_sub, fb_bmodL h1 h2]
theorem fb_mulL {x y : Int64} (h1 : -9223372036854775808 ≤ x.toInt * y.toInt) (h2 : x.toInt * y.toInt < 9223372036854775808) : (x * y).toInt = x.toInt * y.toInt := by
  rw [Int64.toInt_mul, fb_bmodL h1 h2]
theorem py_pi_c {x : Int32} {b n : Nat} (hb : b + 1 = n) (h2 : b < 2 ^ 31) : ((nI 0).toInt ≤ x.toInt ∧ x.toInt ≤ (nI b).toInt) ↔ py_pi x n := by
  rw [nI_toInt (by decide), nI_toInt h2]
  unfold py_pi
  omega
abbrev py_hp (i n : Int32) (m : Nat) : Prop := 0 ≤ i.toInt ∧ 0 ≤ n.toInt ∧ i.toInt + n.toInt ≤ (m : Int)
theorem py_ln_m {l : Nat} (h : l ≤ 3) : (if l = 3 then (-1 : Int32) else nI l) = -1 ↔ l = 3 := by
  rcases (show l = 0 ∨ l = 1 ∨ l = 2 ∨ l = 3 by omega) with rfl | rfl | rfl | rfl <;> decide
theorem py_ln_e {l m : Nat} (h : l ≤ 3) (hm : m ≤ 3) : (if l = 3 then (-1 : Int32) else nI l) = (if m = 3 then (-1 : Int32) else nI m) ↔ l = m := by
  rcases (show l = 0 ∨ l = 1 ∨ l = 2 ∨ l = 3 by omega) with rfl | rfl | rfl | rfl <;> rcases (show m = 0 ∨ m = 1 ∨ m = 2 ∨ m = 3 by omega) with rfl | rfl | rfl | rfl <;> decide
theorem py_lk_m {l : Nat} (h : l ≤ 3) : (if l = 3 then (-1000000 : Int32) else nI l) = -1000000 ↔ l = 3 := by
  rcases (show l = 0 ∨ l = 1 ∨ l = 2 ∨ l = 3 by omega) with rfl | rfl | rfl | rfl <;> decide
theorem py_lk_e {l m : Nat} (h : l ≤ 3) (hm : m ≤ 3) : (if l = 3 then (-1000000 : Int32) else nI l) = (if m = 3 then (-1000000 : Int32) else nI m) ↔ l = m := by
  rcases (show l = 0 ∨ l = 1 ∨ l = 2 ∨ l = 3 by omega) with rfl | rfl | rfl | rfl <;> rcases (show m = 0 ∨ m = 1 ∨ m = 2 ∨ m = 3 by omega) with rfl | rfl | rfl | rfl <;> decide
/-- what a lane keeps of an int -/
def py_cut (l : Nat) (v : Int32) : Int32 := if l = 0 then v.toInt8.toInt32 else if l = 1 then v.toInt16.toInt32 else v
/-- a stretch of zeros -/
def py_zs (f : Nat → Int32) (a n : Nat) : Nat → Int32 := fun j => if a ≤ j ∧ j < a + n then nI 0 else f j
theorem py_zs_0 (f : Nat → Int32) (a : Nat) : py_zs f a 0 = f := by
  funext j
  unfold py_zs
  rw [if_neg (by omega)]
theorem py_zs_s (f : Nat → Int32) (a n : Nat) : upd (py_zs f a n) (a + n) (nI 0) = py_zs f a (n + 1) := by
  funext j
  unfold py_zs upd
  by_cases h : j = a + n
  · rw [if_pos h, if_pos (by omega)]
  · rw [if_neg h]
    dsimp only
    by_cases h2 : a ≤ j ∧ j < a + n
    · rw [if_pos h2, if_pos (by omega)]
    · rw [if_neg h2, if_neg (by omega)]
theorem py_up_row (σ : py_H) (k : Nat) (f : Nat → Int32) (j : Nat) (v : Int32) : py_up (py_row σ k f) k j v = py_row σ k (upd f j v) := by
  unfold py_up
  rw [py_row_self]
  funext a
  by_cases h : a = k
  · subst h; rw [py_row_self, py_row_self]
  · rw [py_row_ne _ _ h, py_row_ne _ _ h, py_row_ne _ _ h]
theorem py_row_id (σ : py_H) (k : Nat) : py_row σ k (σ k) = σ := by
  funext a
  by_cases h : a = k
  · subst h; rw [py_row_self]
  · rw [py_row_ne _ _ h]
