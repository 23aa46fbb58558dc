/-! pure words: how likely so many live: the reference's sum over who is burnt is the class's sum over who is kept -/
def py_pr (f : Nat → Nat) : Nat → Nat
  | 0 => 1
  | n + 1 => py_pr f n * f n
theorem py_pr_cong {f g : Nat → Nat} : ∀ {n : Nat}, (∀ k, k < n → f k = g k) → py_pr f n = py_pr g n
  | 0, _ => rfl
  | n + 1, h => by
    show py_pr f n * f n = py_pr g n * g n
    rw [py_pr_cong (fun k hk => h k (by omega)), h n (by omega)]
theorem py_pr_0 {f : Nat → Nat} : ∀ {n p : Nat}, p < n → f p = 0 → py_pr f n = 0
  | 0, p, hp, _ => absurd hp (Nat.not_lt_zero p)
  | n + 1, p, hp, h => by
    show py_pr f n * f n = 0
    by_cases hpn : p = n
    · subst hpn; rw [h, Nat.mul_zero]
    · rw [py_pr_0 (show p < n by omega) h, Nat.zero_mul]
theorem py_sm_s (f : Nat → Nat) (n : Nat) : py_sm f (n + 1) = py_sm f n + f n := rfl
theorem py_sm_add (f : Nat → Nat) (a : Nat) : ∀ b, py_sm f (a + b) = py_sm f a + py_sm (fun k => f (a + k)) b
  | 0 => rfl
  | b + 1 => by
    rw [← Nat.add_assoc, py_sm_s, py_sm_add f a b, py_sm_s]
    omega
theorem py_sm_mul (f : Nat → Nat) (c : Nat) : ∀ n, py_sm (fun k => c * f k) n = c * py_sm f n
  | 0 => by show 0 = c * 0; rw [Nat.mul_zero]
  | n + 1 => by
    rw [py_sm_s, py_sm_s, py_sm_mul f c n, Nat.mul_add]
theorem py_smz {f : Nat → Nat} {a : Nat} : ∀ b, (∀ k, a ≤ k → k < a + b → f k = 0) → py_sm f (a + b) = py_sm f a
  | 0, _ => rfl
  | b + 1, h => by
    rw [← Nat.add_assoc, py_sm_s, py_smz b (fun k h1 h2 => h k h1 (by omega)), h (a + b) (by omega) (by omega), Nat.add_zero]
theorem py_bit_add {s n p : Nat} (hs : s < 2 ^ n) : py_bit (2 ^ n + s) p = if p = n then true else py_bit s p := by
  rcases Nat.lt_trichotomy p n with h | h | h
  · rw [if_neg (by omega)]
    unfold py_bit
    have e : 2 ^ n = 2 ^ p * (2 * 2 ^ (n - p - 1)) := by
      rw [← Nat.pow_succ', ← Nat.pow_add]
      congr 1
      omega
    rw [e, Nat.add_comm, Nat.add_mul_div_left _ _ (Nat.two_pow_pos p), Nat.add_mul_mod_self_left]
  · subst h
    rw [if_pos rfl]
    unfold py_bit
    rw [Nat.add_comm, Nat.add_div_right _ (Nat.two_pow_pos p), Nat.div_eq_of_lt hs]
    decide
  · rw [if_neg (by omega), py_bit_hi (n := n + 1) (by rw [Nat.pow_succ]; omega) (by omega), py_bit_hi hs (by omega)]
/-- the weight of a set s of burnt ones of n; a: who lives now -/
def py_U (a : Nat → Bool) (c n s : Nat) : Nat := py_pr (fun p => if a p then (if py_bit s p then c else 10 - c) else (if py_bit s p then 0 else 1)) n
def py_tn2 (l : Nat → Bool) (n s : Nat) : Nat := py_cn (fun p => !py_bit s p && l p) n
def py_EE (a l : Nat → Bool) (c n m : Nat) : Nat := py_sm (fun s => if m ≤ py_tn2 l n s then py_U a c n s else 0) (2 ^ n)
theorem py_U_s {a : Nat → Bool} {c n s : Nat} : py_U a c (n + 1) s = py_U a c n s * (if a n then (if py_bit s n then c else 10 - c) else (if py_bit s n then 0 else 1)) := rfl
theorem py_U_hi {a : Nat → Bool} {c n s : Nat} (hs : s < 2 ^ n) : py_U a c n (2 ^ n + s) = py_U a c n s :=
  py_pr_cong (fun k hk => by rw [py_bit_add hs, if_neg (show ¬ k = n by omega)])
theorem py_tn2_hi {l : Nat → Bool} {n s : Nat} (hs : s < 2 ^ n) : py_tn2 l n (2 ^ n + s) = py_tn2 l n s :=
  py_cn_cong (fun k hk => by rw [py_bit_add hs, if_neg (show ¬ k = n by omega)])
theorem py_tn2_s (l : Nat → Bool) (n s : Nat) : py_tn2 l (n + 1) s = py_tn2 l n s + (if !py_bit s n && l n then 1 else 0) := rfl
theorem py_EE_split (a l : Nat → Bool) (c n m : Nat) : py_EE a l c (n + 1) m = py_sm (fun s => if m ≤ py_tn2 l n s + (if l n then 1 else 0) then py_U a c n s * (if a n then 10 - c else 1) else 0) (2 ^ n) + py_sm (fun s => if m ≤ py_tn2 l n s then py_U a c n s * (if a n then c else 0) else 0) (2 ^ n) := by
  unfold py_EE
  rw [Nat.pow_succ, Nat.mul_two, py_sm_add]
  congr 1
  · refine py_sm_cong (fun s hs => ?_)
    have hb := py_bit_hi hs (Nat.le_refl n)
    rw [py_tn2_s, py_U_s, hb]
    simp
  · refine py_sm_cong (fun s hs => ?_)
    have hb : py_bit (2 ^ n + s) n = true := by rw [py_bit_add hs, if_pos rfl]
    rw [py_tn2_s, py_U_s, hb, py_U_hi hs, py_tn2_hi hs]
    simp
theorem py_EE_l {a l : Nat → Bool} {c n m : Nat} (ha : a n = true) (hl : l n = true) : py_EE a l c (n + 1) m = (10 - c) * py_EE a l c n (m - 1) + c * py_EE a l c n m := by
  rw [py_EE_split, ha, hl]
  unfold py_EE
  rw [← py_sm_mul, ← py_sm_mul]
  congr 1
  · refine py_sm_cong (fun s hs => ?_)
    simp only [if_true]
    by_cases h : m - 1 ≤ py_tn2 l n s
    · rw [if_pos h, if_pos (by omega), Nat.mul_comm]
    · rw [if_neg h, if_neg (by omega), Nat.mul_zero]
  · refine py_sm_cong (fun s hs => ?_)
    simp only [if_true]
    by_cases h : m ≤ py_tn2 l n s
    · rw [if_pos h, if_pos h, Nat.mul_comm]
    · rw [if_neg h, if_neg h, Nat.mul_zero]
theorem py_EE_a {a l : Nat → Bool} {c n m : Nat} (hc : c ≤ 10) (ha : a n = true) (hl : l n = false) : py_EE a l c (n + 1) m = 10 * py_EE a l c n m := by
  have e : 10 * py_EE a l c n m = (10 - c) * py_EE a l c n m + c * py_EE a l c n m := by
    rw [← Nat.add_mul, show 10 - c + c = 10 by omega]
  rw [e, py_EE_split, ha, hl]
  unfold py_EE
  rw [← py_sm_mul, ← py_sm_mul]
  congr 1
  · refine py_sm_cong (fun s hs => ?_)
    simp only [if_true, Bool.false_eq_true, if_false, Nat.add_zero]
    by_cases h : m ≤ py_tn2 l n s
    · rw [if_pos h, if_pos h, Nat.mul_comm]
    · rw [if_neg h, if_neg h, Nat.mul_zero]
  · refine py_sm_cong (fun s hs => ?_)
    simp only [if_true]
    by_cases h : m ≤ py_tn2 l n s
    · rw [if_pos h, if_pos h, Nat.mul_comm]
    · rw [if_neg h, if_neg h, Nat.mul_zero]
theorem py_EE_n {a l : Nat → Bool} {c n m : Nat} (ha : a n = false) (hl : l n = false) : py_EE a l c (n + 1) m = py_EE a l c n m := by
  rw [py_EE_split, ha, hl]
  unfold py_EE
  have e : py_sm (fun s => if m ≤ py_tn2 l n s then py_U a c n s * (if false = true then c else 0) else 0) (2 ^ n) = 0 := by
    have z := py_smz (f := fun s => if m ≤ py_tn2 l n s then py_U a c n s * (if false = true then c else 0) else 0) (a := 0) (2 ^ n) (fun k _ _ => by simp)
    rw [Nat.zero_add] at z
    exact z
  rw [e, Nat.add_zero]
  refine py_sm_cong (fun s hs => ?_)
  simp
/-- the class's sum, bit by bit -/
theorem py_wy_sm (m l c : Nat) : ∀ k, py_wy m l c k = py_sm (fun s => if m ≤ py_pc s then (10 - c) ^ py_pc s * c ^ (l - py_pc s) else 0) k
  | 0 => rfl
  | k + 1 => by
    rw [py_sm_s, ← py_wy_sm m l c k]
    rfl
theorem py_pc_hi {n s : Nat} (hn : n < 5) (hs : s < 2 ^ n) : py_pc (2 ^ n + s) = py_pc s + 1 := by
  have h1 : py_cn (py_bit (2 ^ n + s)) n = py_cn (py_bit s) n := py_cn_cong (fun k hk => by rw [py_bit_add hs, if_neg (show ¬ k = n by omega)])
  have h2 : py_cn (py_bit (2 ^ n + s)) (n + 1) = py_cn (py_bit s) n + 1 := by
    rw [← py_cn_t (show py_bit (2 ^ n + s) n = true by rw [py_bit_add hs, if_pos rfl]), h1]
  have h3 := py_cn_more (f := py_bit (2 ^ n + s)) (n := n + 1) (5 - (n + 1)) (fun p h1 _ => py_bit_hi (n := n + 1) (by rw [Nat.pow_succ]; omega) h1)
  have h4 := py_cn_more (f := py_bit s) (n := n) (5 - n) (fun p h1 _ => py_bit_hi hs h1)
  rw [show n + 1 + (5 - (n + 1)) = 5 by omega] at h3
  rw [show n + (5 - n) = 5 by omega] at h4
  unfold py_pc
  rw [h3, h4, h2]
theorem py_wy_s {m l c : Nat} (hl : l < 5) : py_wy m (l + 1) c (2 ^ (l + 1)) = (10 - c) * py_wy (m - 1) l c (2 ^ l) + c * py_wy m l c (2 ^ l) := by
  rw [py_wy_sm, py_wy_sm, py_wy_sm, Nat.pow_succ, Nat.mul_two, py_sm_add, Nat.add_comm, ← py_sm_mul, ← py_sm_mul]
  congr 1
  · refine py_sm_cong (fun s hs => ?_)
    have hp := py_pc_lt (l := l) hs (by omega)
    rw [py_pc_hi hl hs]
    by_cases h : m - 1 ≤ py_pc s
    · rw [if_pos h, if_pos (by omega), show l + 1 - (py_pc s + 1) = l - py_pc s by omega, Nat.pow_succ, Nat.mul_comm ((10 - c) ^ py_pc s), Nat.mul_assoc]
    · rw [if_neg h, if_neg (by omega), Nat.mul_zero]
  · refine py_sm_cong (fun s hs => ?_)
    have hp := py_pc_lt (l := l) hs (by omega)
    by_cases h : m ≤ py_pc s
    · rw [if_pos h, if_pos h, show l + 1 - py_pc s = (l - py_pc s) + 1 by omega, Nat.pow_succ, ← Nat.mul_assoc, Nat.mul_comm _ c]
    · rw [if_neg h, if_neg h, Nat.mul_zero]
theorem py_EE_wy {a l : Nat → Bool} {c : Nat} (hc : c ≤ 10) (hal : ∀ p, l p = true → a p = true) : ∀ n, n ≤ 5 → py_cn l n ≤ py_cn a n ∧ ∀ m, py_EE a l c n m = py_wy m (py_cn l n) c (2 ^ py_cn l n) * 10 ^ (py_cn a n - py_cn l n)
  | 0, _ => ⟨Nat.le_refl _, fun m => by
    show (0 + if m ≤ 0 then 1 else 0) = (0 + if m ≤ py_pc 0 then (10 - c) ^ py_pc 0 * c ^ (0 - py_pc 0) else 0) * 10 ^ 0
    rw [show py_pc 0 = 0 from rfl]
    simp⟩
  | n + 1, hn => by
    obtain ⟨i1, i2⟩ := py_EE_wy hc hal n (by omega)
    have hk := py_cn_le l n
    cases hl : l n
    · cases ha : a n
      · rw [← py_cn_f hl, ← py_cn_f ha]
        exact ⟨i1, fun m => by rw [py_EE_n ha hl]; exact i2 m⟩
      · rw [← py_cn_f hl, ← py_cn_t ha]
        refine ⟨by omega, fun m => ?_⟩
        rw [py_EE_a hc ha hl, i2 m, show py_cn a n + 1 - py_cn l n = (py_cn a n - py_cn l n) + 1 by omega, Nat.pow_succ, Nat.mul_comm 10, Nat.mul_assoc]
    · have ha := hal n hl
      rw [← py_cn_t hl, ← py_cn_t ha]
      refine ⟨by omega, fun m => ?_⟩
      rw [py_EE_l ha hl, i2, i2, py_wy_s (by omega), show py_cn a n + 1 - (py_cn l n + 1) = py_cn a n - py_cn l n by omega, Nat.add_mul, Nat.mul_assoc, Nat.mul_assoc]
set_option maxRecDepth 100000 in
theorem py_suble : ∀ s, s < 32 → ∀ a, a < 32 → py_bs (fun p => py_bit s p && !py_bit a p) 5 = 0 → s ≤ a := by decide +kernel
theorem py_bs_pos {f : Nat → Bool} : ∀ {n p : Nat}, p < n → f p = true → 0 < py_bs f n
  | 0, p, hp, _ => absurd hp (Nat.not_lt_zero p)
  | n + 1, p, hp, h => by
    show 0 < py_bs f n + (if f n then 2 ^ n else 0)
    by_cases hpn : p = n
    · subst hpn
      rw [if_pos h]
      have := Nat.two_pow_pos p
      omega
    · have := py_bs_pos (show p < n by omega) h
      omega
theorem py_bs_zero {f : Nat → Bool} : ∀ {n : Nat}, (∀ p, p < n → f p = false) → py_bs f n = 0
  | 0, _ => rfl
  | n + 1, h => by
    rw [← py_bs_f (h n (by omega))]
    exact py_bs_zero (fun p hp => h p (by omega))
/-- the reference's own words of it -/
def py_sub (s a : Nat) : Nat := py_bs (fun p => py_bit s p && !py_bit a p) 5
def py_uw (A c s : Nat) : Nat → Nat
  | 0 => if py_sub s A = 0 then 1 else 0
  | i + 1 => py_uw A c s i * (if py_bit A i then (if py_bit s i then c else 10 - c) else 1)
def py_tl (H : Nat → Nat) (e s : Nat) : Nat := py_tn2 (fun p => decide (0 < py_lf H p e)) (H 12) s
def py_ab (H : Nat → Nat) (m e c : Nat) : Nat → Nat
  | 0 => 0
  | s + 1 => py_ab H m e c s + (if m ≤ py_tl H e s then py_uw (py_lvH H) c s (H 12) else 0)
theorem py_uw_pr (A c s : Nat) : ∀ n, py_uw A c s n = (if py_sub s A = 0 then 1 else 0) * py_pr (fun p => if py_bit A p then (if py_bit s p then c else 10 - c) else 1) n
  | 0 => by show _ = _ * 1; rw [Nat.mul_one]; rfl
  | n + 1 => by
    show py_uw A c s n * _ = _ * (py_pr _ n * _)
    rw [py_uw_pr A c s n, Nat.mul_assoc]
theorem py_uw_le {A c s : Nat} (hc : c ≤ 10) : ∀ n, py_uw A c s n ≤ 10 ^ n
  | 0 => by show (if py_sub s A = 0 then 1 else 0) ≤ 1; split <;> omega
  | n + 1 => by
    have ih := py_uw_le (A := A) (s := s) hc n
    show py_uw A c s n * (if py_bit A n then (if py_bit s n then c else 10 - c) else 1) ≤ 10 ^ n * 10
    refine Nat.mul_le_mul ih ?_
    (repeat' split) <;> omega
theorem py_uw_U {H : Nat → Nat} (w12 : H 12 ≤ 5) {c s : Nat} (hs : s < 2 ^ H 12) : py_uw (py_lvH H) c s (H 12) = py_U (fun p => decide (0 < H (15 + 4 * p))) c (H 12) s := by
  have hb : ∀ p, p < H 12 → py_bit (py_lvH H) p = decide (0 < H (15 + 4 * p)) := fun p hp => py_bs_bit _ hp
  rw [py_uw_pr]
  unfold py_U
  by_cases h : py_sub s (py_lvH H) = 0
  · rw [if_pos h, Nat.one_mul]
    refine py_pr_cong (fun p hp => ?_)
    rw [hb p hp]
    by_cases ha : 0 < H (15 + 4 * p)
    · rw [if_pos (decide_eq_true ha), if_pos (decide_eq_true ha)]
    · rw [if_neg (by simpa using ha), if_neg (by simpa using ha)]
      have hz : py_bit s p = false := by
        cases hq : py_bit s p
        · rfl
        · have z := py_bs_pos (f := fun p => py_bit s p && !py_bit (py_lvH H) p) (n := 5) (p := p) (by omega) (by rw [hq, hb p hp]; simpa using ha)
          unfold py_sub at h
          omega
      rw [hz]
      rfl
  · rw [if_neg h, Nat.zero_mul]
    symm
    have hex : ∃ p, p < H 12 ∧ py_bit s p = true ∧ py_bit (py_lvH H) p = false := by
      apply Classical.byContradiction
      intro hn
      apply h
      refine py_bs_zero (fun p hp => ?_)
      by_cases hp2 : p < H 12
      · cases h1 : py_bit s p
        · rfl
        · cases h2 : py_bit (py_lvH H) p
          · exact absurd ⟨p, hp2, h1, h2⟩ hn
          · rfl
      · rw [py_bit_hi hs (by omega)]; rfl
    obtain ⟨p, hp, h1, h2⟩ := hex
    refine py_pr_0 hp ?_
    rw [hb p hp] at h2
    show (if decide (0 < H (15 + 4 * p)) = true then (if py_bit s p = true then c else 10 - c) else (if py_bit s p = true then 0 else 1)) = 0
    rw [h1, h2]
    rfl
theorem py_ab_sm (H : Nat → Nat) (m e c : Nat) : ∀ k, py_ab H m e c k = py_sm (fun s => if m ≤ py_tl H e s then py_uw (py_lvH H) c s (H 12) else 0) k
  | 0 => rfl
  | k + 1 => by
    rw [py_sm_s, ← py_ab_sm H m e c k]
    rfl
theorem py_ab_le {H : Nat → Nat} (w12 : H 12 ≤ 5) {m e c : Nat} (hc : c ≤ 10) (k : Nat) : py_ab H m e c k ≤ 100000 * k := by
  rw [py_ab_sm, Nat.mul_comm]
  refine py_sm_le (fun s _ => ?_)
  have h1 := py_uw_le (A := py_lvH H) (s := s) hc (H 12)
  have h2 : 10 ^ H 12 ≤ 10 ^ 5 := Nat.pow_le_pow_right (by decide) w12
  split <;> omega
def py_la (H : Nat → Nat) : Nat := py_cn (fun p => decide (0 < H (15 + 4 * p))) (H 12)
theorem py_ab_up {H : Nat → Nat} (hw : py_wf H) {m e c : Nat} (hc : c ≤ 10) : py_lc H e ≤ py_la H ∧ py_ab H m e c (py_lvH H + 1) = py_up1 H m e c * 10 ^ (py_la H - py_lc H e) := by
  have w12 := hw.2.2.2.2.1
  have hlt : py_lvH H < 2 ^ H 12 := py_bs_lt _ _
  have h32 : 2 ^ H 12 ≤ 32 := (py_p2 w12).2.2
  have hal : ∀ p, decide (0 < py_lf H p e) = true → decide (0 < H (15 + 4 * p)) = true := fun p h => by
    have h2 : 0 < py_lf H p e := of_decide_eq_true h
    unfold py_lf at h2
    exact decide_eq_true (by omega)
  obtain ⟨z1, z2⟩ := py_EE_wy (a := fun p => decide (0 < H (15 + 4 * p))) (l := fun p => decide (0 < py_lf H p e)) hc hal (H 12) w12
  refine ⟨z1, ?_⟩
  have z3 := z2 m
  have e1 : py_ab H m e c (py_lvH H + 1) = py_ab H m e c (2 ^ H 12) := by
    rw [py_ab_sm, py_ab_sm]
    have q := py_smz (f := fun s => if m ≤ py_tl H e s then py_uw (py_lvH H) c s (H 12) else 0) (a := py_lvH H + 1) (2 ^ H 12 - (py_lvH H + 1)) (fun k h1 h2 => by
      have hs : ¬ py_sub k (py_lvH H) = 0 := fun z => by
        have := py_suble k (by omega) (py_lvH H) (by omega) z
        omega
      rw [py_uw_pr, if_neg hs, Nat.zero_mul]
      split <;> rfl)
    rw [show py_lvH H + 1 + (2 ^ H 12 - (py_lvH H + 1)) = 2 ^ H 12 by omega] at q
    exact q.symm
  rw [e1, py_ab_sm]
  refine Eq.trans ?_ z3
  unfold py_EE
  refine py_sm_cong (fun s hs => ?_)
  rw [py_uw_U w12 hs]
  rfl
/-- the fraction in lowest terms is the same -/
theorem py_low {x g k : Nat} (hk : 0 < k) : (x * k) / (g * k) = x / g := Nat.mul_div_mul_right x g hk
