/-! more rows: small numbers, truth values, loops, calls -/
def py_b (c : Prop) [Decidable c] : Int32 := if c then nI 1 else nI 0
theorem py_b_t {c : Prop} [Decidable c] (h : c) : py_b c = nI 1 := if_pos h
theorem py_b_f {c : Prop} [Decidable c] (h : ¬ c) : py_b c = nI 0 := if_neg h
theorem py_b_c {c e : Prop} [Decidable c] [Decidable e] (h : c ↔ e) : py_b c = py_b e := by
  by_cases hc : c
  · rw [py_b_t hc, py_b_t (h.mp hc)]
  · rw [py_b_f hc, py_b_f (fun q => hc (h.mpr q))]
theorem py_b_ok {c : Prop} [Decidable c] : py_b c = 0 ∨ py_b c = 1 := by
  by_cases hc : c
  · right; rw [py_b_t hc]; decide
  · left; rw [py_b_f hc]; decide
theorem py_b_ne {c : Prop} [Decidable c] : (py_b c = 0 ↔ ¬ c) := by
  by_cases hc : c
  · rw [py_b_t hc]; exact ⟨fun h => absurd h (by decide), fun h => absurd hc h⟩
  · rw [py_b_f hc]; exact ⟨fun _ => hc, fun _ => by decide⟩
theorem py_N_lt (k : Nat) : py_N k < 2 ^ 31 := by
  unfold py_N
  split <;> decide
/-- a counted loop: one walk of its body -/
theorem py_loop (Pr : Nat → Prop) (n : Nat) (step : ∀ i, i ≤ n → (i < n → Pr (i + 1)) → Pr i) : ∀ i, i ≤ n → Pr i := by
  have key : ∀ m i, i ≤ n → n - i = m → Pr i := by
    intro m
    induction m with
    | zero => intro i hi hm; exact step i hi (fun h => absurd h (by omega))
    | succ m ih => intro i hi hm; exact step i hi (fun h => ih (i + 1) (by omega) (by omega))
  intro i hi
  exact key (n - i) i hi rfl
/-- a loop by a measure -/
theorem py_while {α : Type} (Pr : α → Prop) (μ : α → Nat) (step : ∀ a, (∀ b, μ b < μ a → Pr b) → Pr a) : ∀ a, Pr a := by
  have key : ∀ m a, μ a < m → Pr a := by
    intro m
    induction m with
    | zero => intro a h; exact absurd h (Nat.not_lt_zero _)
    | succ m ih => intro a h; exact step a (fun b hb => ih b (by omega))
  intro a
  exact key (μ a + 1) a (by omega)
/-- the forms of contracts -/
def py_vs (r : Option Value) (Ps : py_H → Prop) : py_P := fun a s => a = r ∧ Ps s
abbrev py_ret (v : Value) (σ : py_H) : py_P := py_vs (some v) (fun s => s = σ)
abbrev py_vd (Ps : py_H → Prop) : py_P := py_vs none Ps
theorem py_up_s (σ : py_H) (k j : Nat) (v : Int32) : py_up σ k j v k j = v := by simp [py_up, py_row, upd]
theorem py_up_k (σ : py_H) {k a : Nat} (j : Nat) (v : Int32) (h : a ≠ k) : py_up σ k j v a = σ a := by simp [py_up, py_row, h]
theorem py_up_j (σ : py_H) (k : Nat) {j b : Nat} (v : Int32) (h : b ≠ j) : py_up σ k j v k b = σ k b := by simp [py_up, py_row, upd, h]
theorem py_up_jj (σ : py_H) (k : Nat) {j : Nat} (v : Int32) (b : Nat) : py_up σ k j v k b = if b = j then v else σ k b := by simp [py_up, py_row, upd]
section PYM
variable {X : py_X} {own : String} {cc : ByteArray} {nL d pc : Nat} {ls : List (Option Value)} {st : List Value} {σ : py_H} {P : py_P}
theorem go_iaddN {a b : Nat} (hd : decode cc pc = .ok (.iadd, 1)) (k : py_Go X own cc nL d (pc + 1) ls (.int (nI (a + b)) :: st) σ P) : py_Go X own cc nL d pc ls (.int (nI b) :: .int (nI a) :: st) σ P := by
  exact go_iadd hd (by rw [nI_add]; exact k)
theorem go_imulN {a b : Nat} (hd : decode cc pc = .ok (.imul, 1)) (k : py_Go X own cc nL d (pc + 1) ls (.int (nI (a * b)) :: st) σ P) : py_Go X own cc nL d pc ls (.int (nI b) :: .int (nI a) :: st) σ P := by
  exact go_imul hd (by rw [pk_mul]; exact k)
theorem go_isubN {a b : Nat} (hd : decode cc pc = .ok (.isub, 1)) (h : b ≤ a) (k : py_Go X own cc nL d (pc + 1) ls (.int (nI (a - b)) :: st) σ P) : py_Go X own cc nL d pc ls (.int (nI b) :: .int (nI a) :: st) σ P := by
  exact go_isub hd (by rw [pk_sub h]; exact k)
theorem go_idivN {a b : Nat} (hd : decode cc pc = .ok (.idiv, 1)) (ha : a < 2 ^ 31) (h0 : 0 < b) (hb : b < 2 ^ 31) (k : py_Go X own cc nL d (pc + 1) ls (.int (nI (a / b)) :: st) σ P) : py_Go X own cc nL d pc ls (.int (nI b) :: .int (nI a) :: st) σ P := by
  exact go_idiv hd (nI_ne0 h0 hb) (by rw [pk_div ha h0 hb]; exact k)
theorem go_iremN {a b : Nat} (hd : decode cc pc = .ok (.irem, 1)) (ha : a < 2 ^ 31) (h0 : 0 < b) (hb : b < 2 ^ 31) (k : py_Go X own cc nL d (pc + 1) ls (.int (nI (a % b)) :: st) σ P) : py_Go X own cc nL d pc ls (.int (nI b) :: .int (nI a) :: st) σ P := by
  exact go_irem hd (nI_ne0 h0 hb) (by rw [pk_rem ha h0 hb]; exact k)
theorem go_iincN {i a c : Nat} {m : Int} (hd : decode cc pc = .ok (.iinc i m, 3)) (hi : ls[i]? = some (some (.int (nI a)))) (hm : Int32.ofInt m = nI c) (hn : i < nL) (hok : py_ok ls i = true) (k : py_Go X own cc nL d (pc + 3) (ls.set i (some (.int (nI (a + c))))) st σ P) : py_Go X own cc nL d pc ls st σ P := by
  exact go_iinc hd hi (by rw [hm, nI_add]) hn hok k
theorem go_iincD {i a : Nat} (hd : decode cc pc = .ok (.iinc i (-1), 3)) (hi : ls[i]? = some (some (.int (nI (a + 1))))) (hn : i < nL) (hok : py_ok ls i = true) (k : py_Go X own cc nL d (pc + 3) (ls.set i (some (.int (nI a)))) st σ P) : py_Go X own cc nL d pc ls st σ P := by
  exact go_iinc hd hi (by rw [show Int32.ofInt (-1) = -1 by decide]; exact pk_m1 a) hn hok k
theorem go_icmp_ltN {a b : Nat} {off : Int} {tgt : Nat} (hd : decode cc pc = .ok (.if_icmp .lt off, 3)) (ha : a < 2 ^ 31) (hb : b < 2 ^ 31) (ht : (pc : Int) + off = (tgt : Int)) (kt : a < b → py_Go X own cc nL d tgt ls st σ P) (kf : b ≤ a → py_Go X own cc nL d (pc + 3) ls st σ P) : py_Go X own cc nL d pc ls (.int (nI b) :: .int (nI a) :: st) σ P := by
  exact go_icmp_lt hd ht (fun h => kt ((nI_ltI ha hb).mp h)) (fun h => kf (Nat.not_lt.mp (fun q => h ((nI_ltI ha hb).mpr q))))
theorem go_icmp_geN {a b : Nat} {off : Int} {tgt : Nat} (hd : decode cc pc = .ok (.if_icmp .ge off, 3)) (ha : a < 2 ^ 31) (hb : b < 2 ^ 31) (ht : (pc : Int) + off = (tgt : Int)) (kt : b ≤ a → py_Go X own cc nL d tgt ls st σ P) (kf : a < b → py_Go X own cc nL d (pc + 3) ls st σ P) : py_Go X own cc nL d pc ls (.int (nI b) :: .int (nI a) :: st) σ P := by
  exact go_icmp_ge hd ht (fun h => kt ((nI_leI hb ha).mp h)) (fun h => kf (Nat.not_le.mp (fun q => h ((nI_leI hb ha).mpr q))))
theorem go_icmp_gtN {a b : Nat} {off : Int} {tgt : Nat} (hd : decode cc pc = .ok (.if_icmp .gt off, 3)) (ha : a < 2 ^ 31) (hb : b < 2 ^ 31) (ht : (pc : Int) + off = (tgt : Int)) (kt : b < a → py_Go X own cc nL d tgt ls st σ P) (kf : a ≤ b → py_Go X own cc nL d (pc + 3) ls st σ P) : py_Go X own cc nL d pc ls (.int (nI b) :: .int (nI a) :: st) σ P := by
  exact go_icmp_gt hd ht (fun h => kt ((nI_ltI hb ha).mp h)) (fun h => kf (Nat.not_lt.mp (fun q => h ((nI_ltI hb ha).mpr q))))
theorem go_icmp_leN {a b : Nat} {off : Int} {tgt : Nat} (hd : decode cc pc = .ok (.if_icmp .le off, 3)) (ha : a < 2 ^ 31) (hb : b < 2 ^ 31) (ht : (pc : Int) + off = (tgt : Int)) (kt : a ≤ b → py_Go X own cc nL d tgt ls st σ P) (kf : b < a → py_Go X own cc nL d (pc + 3) ls st σ P) : py_Go X own cc nL d pc ls (.int (nI b) :: .int (nI a) :: st) σ P := by
  exact go_icmp_le hd ht (fun h => kt ((nI_leI ha hb).mp h)) (fun h => kf (Nat.not_le.mp (fun q => h ((nI_leI ha hb).mpr q))))
theorem go_icmp_eqN {a b : Nat} {off : Int} {tgt : Nat} (hd : decode cc pc = .ok (.if_icmp .eq off, 3)) (ha : a < 2 ^ 31) (hb : b < 2 ^ 31) (ht : (pc : Int) + off = (tgt : Int)) (kt : a = b → py_Go X own cc nL d tgt ls st σ P) (kf : a ≠ b → py_Go X own cc nL d (pc + 3) ls st σ P) : py_Go X own cc nL d pc ls (.int (nI b) :: .int (nI a) :: st) σ P := by
  exact go_icmp_eq hd ht (fun h => kt ((nI_eq ha hb).mp h)) (fun h => kf (fun q => h ((nI_eq ha hb).mpr q)))
theorem go_icmp_neN {a b : Nat} {off : Int} {tgt : Nat} (hd : decode cc pc = .ok (.if_icmp .ne off, 3)) (ha : a < 2 ^ 31) (hb : b < 2 ^ 31) (ht : (pc : Int) + off = (tgt : Int)) (kt : a ≠ b → py_Go X own cc nL d tgt ls st σ P) (kf : a = b → py_Go X own cc nL d (pc + 3) ls st σ P) : py_Go X own cc nL d pc ls (.int (nI b) :: .int (nI a) :: st) σ P := by
  exact go_icmp_ne hd ht (fun h => kt (fun q => h ((nI_eq ha hb).mpr q))) (fun h => kf ((nI_eq ha hb).mp h))
theorem go_if_eqN {a : Nat} {off : Int} {tgt : Nat} (hd : decode cc pc = .ok (.ifCond .eq off, 3)) (ha : a < 2 ^ 31) (ht : (pc : Int) + off = (tgt : Int)) (kt : a = 0 → py_Go X own cc nL d tgt ls st σ P) (kf : 0 < a → py_Go X own cc nL d (pc + 3) ls st σ P) : py_Go X own cc nL d pc ls (.int (nI a) :: st) σ P := by
  exact go_if_eq hd ht (fun h => kt ((nI_eq ha (by decide)).mp (h.trans nI_0.symm))) (fun h => kf (Nat.pos_of_ne_zero (fun q => h (by rw [q]; exact nI_0))))
theorem go_if_neN {a : Nat} {off : Int} {tgt : Nat} (hd : decode cc pc = .ok (.ifCond .ne off, 3)) (ha : a < 2 ^ 31) (ht : (pc : Int) + off = (tgt : Int)) (kt : 0 < a → py_Go X own cc nL d tgt ls st σ P) (kf : a = 0 → py_Go X own cc nL d (pc + 3) ls st σ P) : py_Go X own cc nL d pc ls (.int (nI a) :: st) σ P := by
  exact go_if_ne hd ht (fun h => kt (Nat.pos_of_ne_zero (fun q => h (by rw [q]; exact nI_0)))) (fun h => kf ((nI_eq ha (by decide)).mp (h.trans nI_0.symm)))
theorem go_if_gtN {a : Nat} {off : Int} {tgt : Nat} (hd : decode cc pc = .ok (.ifCond .gt off, 3)) (ha : a < 2 ^ 31) (ht : (pc : Int) + off = (tgt : Int)) (kt : 0 < a → py_Go X own cc nL d tgt ls st σ P) (kf : a = 0 → py_Go X own cc nL d (pc + 3) ls st σ P) : py_Go X own cc nL d pc ls (.int (nI a) :: st) σ P := by
  exact go_if_gt hd ht (fun h => kt (Nat.pos_of_ne_zero (fun q => by rw [q] at h; exact absurd h (by decide)))) (fun h => kf (Nat.eq_zero_of_not_pos (fun q => h (by rw [← nI_0]; exact nI_lt q ha))))
theorem go_if_leN {a : Nat} {off : Int} {tgt : Nat} (hd : decode cc pc = .ok (.ifCond .le off, 3)) (ha : a < 2 ^ 31) (ht : (pc : Int) + off = (tgt : Int)) (kt : a = 0 → py_Go X own cc nL d tgt ls st σ P) (kf : 0 < a → py_Go X own cc nL d (pc + 3) ls st σ P) : py_Go X own cc nL d pc ls (.int (nI a) :: st) σ P := by
  exact go_if_le hd ht (fun h => kt (Nat.eq_zero_of_not_pos (fun q => nI_nle q ha h))) (fun h => kf (Nat.pos_of_ne_zero (fun q => h (by rw [q]; decide))))
theorem go_if_ltN {a : Nat} {off : Int} {tgt : Nat} (hd : decode cc pc = .ok (.ifCond .lt off, 3)) (ha : a < 2 ^ 31) (ht : (pc : Int) + off = (tgt : Int)) (kf : py_Go X own cc nL d (pc + 3) ls st σ P) : py_Go X own cc nL d pc ls (.int (nI a) :: st) σ P := by
  exact go_if_lt hd ht (fun h => absurd h (nI_pos ha)) (fun _ => kf)
theorem go_if_geN {a : Nat} {off : Int} {tgt : Nat} (hd : decode cc pc = .ok (.ifCond .ge off, 3)) (ha : a < 2 ^ 31) (ht : (pc : Int) + off = (tgt : Int)) (kt : py_Go X own cc nL d tgt ls st σ P) : py_Go X own cc nL d pc ls (.int (nI a) :: st) σ P := by
  exact go_if_ge hd ht (fun _ => kt) (fun h => absurd (nI_pos' ha) h)
theorem go_icmp_ltJI {x y : Int32} {off : Int} {tgt : Nat} (hd : decode cc pc = .ok (.if_icmp .lt off, 3))  (ht : (pc : Int) + off = (tgt : Int)) (kt : x.toInt < y.toInt → py_Go X own cc nL d tgt ls st σ P) (kf : y.toInt ≤ x.toInt → py_Go X own cc nL d (pc + 3) ls st σ P) : py_Go X own cc nL d pc ls (.int y :: .int x :: st) σ P := by
  refine go_icmp_lt hd ht (fun h => kt ?_) (fun h => kf ?_)
  · first | rw [Int32.lt_iff_toInt_lt] at h | rw [Int32.le_iff_toInt_le] at h
    omega
  · first | rw [Int32.lt_iff_toInt_lt] at h | rw [Int32.le_iff_toInt_le] at h
    omega
theorem go_icmp_ltJN {x : Int32} {b : Nat} {off : Int} {tgt : Nat} (hd : decode cc pc = .ok (.if_icmp .lt off, 3)) (hb : b < 2 ^ 31) (ht : (pc : Int) + off = (tgt : Int)) (kt : x.toInt < (b : Int) → py_Go X own cc nL d tgt ls st σ P) (kf : (b : Int) ≤ x.toInt → py_Go X own cc nL d (pc + 3) ls st σ P) : py_Go X own cc nL d pc ls (.int (nI b) :: .int x :: st) σ P := by
  refine go_icmp_lt hd ht (fun h => kt ?_) (fun h => kf ?_)
  · first | rw [Int32.lt_iff_toInt_lt] at h | rw [Int32.le_iff_toInt_le] at h
    rw [nI_toInt hb] at h; omega
  · first | rw [Int32.lt_iff_toInt_lt] at h | rw [Int32.le_iff_toInt_le] at h
    rw [nI_toInt hb] at h; omega
theorem go_icmp_ltNJ {a : Nat} {y : Int32} {off : Int} {tgt : Nat} (hd : decode cc pc = .ok (.if_icmp .lt off, 3)) (ha : a < 2 ^ 31) (ht : (pc : Int) + off = (tgt : Int)) (kt : (a : Int) < y.toInt → py_Go X own cc nL d tgt ls st σ P) (kf : y.toInt ≤ (a : Int) → py_Go X own cc nL d (pc + 3) ls st σ P) : py_Go X own cc nL d pc ls (.int y :: .int (nI a) :: st) σ P := by
  refine go_icmp_lt hd ht (fun h => kt ?_) (fun h => kf ?_)
  · first | rw [Int32.lt_iff_toInt_lt] at h | rw [Int32.le_iff_toInt_le] at h
    rw [nI_toInt ha] at h; omega
  · first | rw [Int32.lt_iff_toInt_lt] at h | rw [Int32.le_iff_toInt_le] at h
    rw [nI_toInt ha] at h; omega
theorem go_icmp_geJI {x y : Int32} {off : Int} {tgt : Nat} (hd : decode cc pc = .ok (.if_icmp .ge off, 3))  (ht : (pc : Int) + off = (tgt : Int)) (kt : y.toInt ≤ x.toInt → py_Go X own cc nL d tgt ls st σ P) (kf : x.toInt < y.toInt → py_Go X own cc nL d (pc + 3) ls st σ P) : py_Go X own cc nL d pc ls (.int y :: .int x :: st) σ P := by
  refine go_icmp_ge hd ht (fun h => kt ?_) (fun h => kf ?_)
  · first | rw [Int32.lt_iff_toInt_lt] at h | rw [Int32.le_iff_toInt_le] at h
    omega
  · first | rw [Int32.lt_iff_toInt_lt] at h | rw [Int32.le_iff_toInt_le] at h
    omega
theorem go_icmp_geJN {x : Int32} {b : Nat} {off : Int} {tgt : Nat} (hd : decode cc pc = .ok (.if_icmp .ge off, 3)) (hb : b < 2 ^ 31) (ht : (pc : Int) + off = (tgt : Int)) (kt : (b : Int) ≤ x.toInt → py_Go X own cc nL d tgt ls st σ P) (kf : x.toInt < (b : Int) → py_Go X own cc nL d (pc + 3) ls st σ P) : py_Go X own cc nL d pc ls (.int (nI b) :: .int x :: st) σ P := by
  refine go_icmp_ge hd ht (fun h => kt ?_) (fun h => kf ?_)
  · first | rw [Int32.lt_iff_toInt_lt] at h | rw [Int32.le_iff_toInt_le] at h
    rw [nI_toInt hb] at h; omega
  · first | rw [Int32.lt_iff_toInt_lt] at h | rw [Int32.le_iff_toInt_le] at h
    rw [nI_toInt hb] at h; omega
theorem go_icmp_geNJ {a : Nat} {y : Int32} {off : Int} {tgt : Nat} (hd : decode cc pc = .ok (.if_icmp .ge off, 3)) (ha : a < 2 ^ 31) (ht : (pc : Int) + off = (tgt : Int)) (kt : y.toInt ≤ (a : Int) → py_Go X own cc nL d tgt ls st σ P) (kf : (a : Int) < y.toInt → py_Go X own cc nL d (pc + 3) ls st σ P) : py_Go X own cc nL d pc ls (.int y :: .int (nI a) :: st) σ P := by
  refine go_icmp_ge hd ht (fun h => kt ?_) (fun h => kf ?_)
  · first | rw [Int32.lt_iff_toInt_lt] at h | rw [Int32.le_iff_toInt_le] at h
    rw [nI_toInt ha] at h; omega
  · first | rw [Int32.lt_iff_toInt_lt] at h | rw [Int32.le_iff_toInt_le] at h
    rw [nI_toInt ha] at h; omega
theorem go_icmp_gtJI {x y : Int32} {off : Int} {tgt : Nat} (hd : decode cc pc = .ok (.if_icmp .gt off, 3))  (ht : (pc : Int) + off = (tgt : Int)) (kt : y.toInt < x.toInt → py_Go X own cc nL d tgt ls st σ P) (kf : x.toInt ≤ y.toInt → py_Go X own cc nL d (pc + 3) ls st σ P) : py_Go X own cc nL d pc ls (.int y :: .int x :: st) σ P := by
  refine go_icmp_gt hd ht (fun h => kt ?_) (fun h => kf ?_)
  · first | rw [Int32.lt_iff_toInt_lt] at h | rw [Int32.le_iff_toInt_le] at h
    omega
  · first | rw [Int32.lt_iff_toInt_lt] at h | rw [Int32.le_iff_toInt_le] at h
    omega
theorem go_icmp_gtJN {x : Int32} {b : Nat} {off : Int} {tgt : Nat} (hd : decode cc pc = .ok (.if_icmp .gt off, 3)) (hb : b < 2 ^ 31) (ht : (pc : Int) + off = (tgt : Int)) (kt : (b : Int) < x.toInt → py_Go X own cc nL d tgt ls st σ P) (kf : x.toInt ≤ (b : Int) → py_Go X own cc nL d (pc + 3) ls st σ P) : py_Go X own cc nL d pc ls (.int (nI b) :: .int x :: st) σ P := by
  refine go_icmp_gt hd ht (fun h => kt ?_) (fun h => kf ?_)
  · first | rw [Int32.lt_iff_toInt_lt] at h | rw [Int32.le_iff_toInt_le] at h
    rw [nI_toInt hb] at h; omega
  · first | rw [Int32.lt_iff_toInt_lt] at h | rw [Int32.le_iff_toInt_le] at h
    rw [nI_toInt hb] at h; omega
theorem go_icmp_gtNJ {a : Nat} {y : Int32} {off : Int} {tgt : Nat} (hd : decode cc pc = .ok (.if_icmp .gt off, 3)) (ha : a < 2 ^ 31) (ht : (pc : Int) + off = (tgt : Int)) (kt : y.toInt < (a : Int) → py_Go X own cc nL d tgt ls st σ P) (kf : (a : Int) ≤ y.toInt → py_Go X own cc nL d (pc + 3) ls st σ P) : py_Go X own cc nL d pc ls (.int y :: .int (nI a) :: st) σ P := by
  refine go_icmp_gt hd ht (fun h => kt ?_) (fun h => kf ?_)
  · first | rw [Int32.lt_iff_toInt_lt] at h | rw [Int32.le_iff_toInt_le] at h
    rw [nI_toInt ha] at h; omega
  · first | rw [Int32.lt_iff_toInt_lt] at h | rw [Int32.le_iff_toInt_le] at h
    rw [nI_toInt ha] at h; omega
theorem go_icmp_leJI {x y : Int32} {off : Int} {tgt : Nat} (hd : decode cc pc = .ok (.if_icmp .le off, 3))  (ht : (pc : Int) + off = (tgt : Int)) (kt : x.toInt ≤ y.toInt → py_Go X own cc nL d tgt ls st σ P) (kf : y.toInt < x.toInt → py_Go X own cc nL d (pc + 3) ls st σ P) : py_Go X own cc nL d pc ls (.int y :: .int x :: st) σ P := by
  refine go_icmp_le hd ht (fun h => kt ?_) (fun h => kf ?_)
  · first | rw [Int32.lt_iff_toInt_lt] at h | rw [Int32.le_iff_toInt_le] at h
    omega
  · first | rw [Int32.lt_iff_toInt_lt] at h | rw [Int32.le_iff_toInt_le] at h
    omega
theorem go_icmp_leJN {x : Int32} {b : Nat} {off : Int} {tgt : Nat} (hd : decode cc pc = .ok (.if_icmp .le off, 3)) (hb : b < 2 ^ 31) (ht : (pc : Int) + off = (tgt : Int)) (kt : x.toInt ≤ (b : Int) → py_Go X own cc nL d tgt ls st σ P) (kf : (b : Int) < x.toInt → py_Go X own cc nL d (pc + 3) ls st σ P) : py_Go X own cc nL d pc ls (.int (nI b) :: .int x :: st) σ P := by
  refine go_icmp_le hd ht (fun h => kt ?_) (fun h => kf ?_)
  · first | rw [Int32.lt_iff_toInt_lt] at h | rw [Int32.le_iff_toInt_le] at h
    rw [nI_toInt hb] at h; omega
  · first | rw [Int32.lt_iff_toInt_lt] at h | rw [Int32.le_iff_toInt_le] at h
    rw [nI_toInt hb] at h; omega
theorem go_icmp_leNJ {a : Nat} {y : Int32} {off : Int} {tgt : Nat} (hd : decode cc pc = .ok (.if_icmp .le off, 3)) (ha : a < 2 ^ 31) (ht : (pc : Int) + off = (tgt : Int)) (kt : (a : Int) ≤ y.toInt → py_Go X own cc nL d tgt ls st σ P) (kf : y.toInt < (a : Int) → py_Go X own cc nL d (pc + 3) ls st σ P) : py_Go X own cc nL d pc ls (.int y :: .int (nI a) :: st) σ P := by
  refine go_icmp_le hd ht (fun h => kt ?_) (fun h => kf ?_)
  · first | rw [Int32.lt_iff_toInt_lt] at h | rw [Int32.le_iff_toInt_le] at h
    rw [nI_toInt ha] at h; omega
  · first | rw [Int32.lt_iff_toInt_lt] at h | rw [Int32.le_iff_toInt_le] at h
    rw [nI_toInt ha] at h; omega
theorem go_if_ltJ {x : Int32} {off : Int} {tgt : Nat} (hd : decode cc pc = .ok (.ifCond .lt off, 3)) (ht : (pc : Int) + off = (tgt : Int)) (kt : x.toInt < 0 → py_Go X own cc nL d tgt ls st σ P) (kf : 0 ≤ x.toInt → py_Go X own cc nL d (pc + 3) ls st σ P) : py_Go X own cc nL d pc ls (.int x :: st) σ P := by
  refine go_if_lt hd ht (fun h => kt ?_) (fun h => kf ?_)
  · first | rw [Int32.lt_iff_toInt_lt] at h | rw [Int32.le_iff_toInt_le] at h
    rw [show (0 : Int32).toInt = 0 by decide] at h
    omega
  · first | rw [Int32.lt_iff_toInt_lt] at h | rw [Int32.le_iff_toInt_le] at h
    rw [show (0 : Int32).toInt = 0 by decide] at h
    omega
theorem go_if_geJ {x : Int32} {off : Int} {tgt : Nat} (hd : decode cc pc = .ok (.ifCond .ge off, 3)) (ht : (pc : Int) + off = (tgt : Int)) (kt : 0 ≤ x.toInt → py_Go X own cc nL d tgt ls st σ P) (kf : x.toInt < 0 → py_Go X own cc nL d (pc + 3) ls st σ P) : py_Go X own cc nL d pc ls (.int x :: st) σ P := by
  refine go_if_ge hd ht (fun h => kt ?_) (fun h => kf ?_)
  · first | rw [Int32.lt_iff_toInt_lt] at h | rw [Int32.le_iff_toInt_le] at h
    rw [show (0 : Int32).toInt = 0 by decide] at h
    omega
  · first | rw [Int32.lt_iff_toInt_lt] at h | rw [Int32.le_iff_toInt_le] at h
    rw [show (0 : Int32).toInt = 0 by decide] at h
    omega
theorem go_if_gtJ {x : Int32} {off : Int} {tgt : Nat} (hd : decode cc pc = .ok (.ifCond .gt off, 3)) (ht : (pc : Int) + off = (tgt : Int)) (kt : 0 < x.toInt → py_Go X own cc nL d tgt ls st σ P) (kf : x.toInt ≤ 0 → py_Go X own cc nL d (pc + 3) ls st σ P) : py_Go X own cc nL d pc ls (.int x :: st) σ P := by
  refine go_if_gt hd ht (fun h => kt ?_) (fun h => kf ?_)
  · first | rw [Int32.lt_iff_toInt_lt] at h | rw [Int32.le_iff_toInt_le] at h
    rw [show (0 : Int32).toInt = 0 by decide] at h
    omega
  · first | rw [Int32.lt_iff_toInt_lt] at h | rw [Int32.le_iff_toInt_le] at h
    rw [show (0 : Int32).toInt = 0 by decide] at h
    omega
theorem go_if_leJ {x : Int32} {off : Int} {tgt : Nat} (hd : decode cc pc = .ok (.ifCond .le off, 3)) (ht : (pc : Int) + off = (tgt : Int)) (kt : x.toInt ≤ 0 → py_Go X own cc nL d tgt ls st σ P) (kf : 0 < x.toInt → py_Go X own cc nL d (pc + 3) ls st σ P) : py_Go X own cc nL d pc ls (.int x :: st) σ P := by
  refine go_if_le hd ht (fun h => kt ?_) (fun h => kf ?_)
  · first | rw [Int32.lt_iff_toInt_lt] at h | rw [Int32.le_iff_toInt_le] at h
    rw [show (0 : Int32).toInt = 0 by decide] at h
    omega
  · first | rw [Int32.lt_iff_toInt_lt] at h | rw [Int32.le_iff_toInt_le] at h
    rw [show (0 : Int32).toInt = 0 by decide] at h
    omega
theorem go_if_eqB {q : Prop} [Decidable q] {off : Int} {tgt : Nat} (hd : decode cc pc = .ok (.ifCond .eq off, 3)) (ht : (pc : Int) + off = (tgt : Int)) (kt : ¬ q → py_Go X own cc nL d tgt ls st σ P) (kf : q → py_Go X own cc nL d (pc + 3) ls st σ P) : py_Go X own cc nL d pc ls (.int (py_b q) :: st) σ P := by
  exact go_if_eq hd ht (fun h => kt (py_b_ne.mp h)) (fun h => kf (Decidable.byContradiction (fun z => h (py_b_ne.mpr z))))
theorem go_if_neB {q : Prop} [Decidable q] {off : Int} {tgt : Nat} (hd : decode cc pc = .ok (.ifCond .ne off, 3)) (ht : (pc : Int) + off = (tgt : Int)) (kt : q → py_Go X own cc nL d tgt ls st σ P) (kf : ¬ q → py_Go X own cc nL d (pc + 3) ls st σ P) : py_Go X own cc nL d pc ls (.int (py_b q) :: st) σ P := by
  exact go_if_ne hd ht (fun h => kt (Decidable.byContradiction (fun z => h (py_b_ne.mpr z)))) (fun h => kf (py_b_ne.mp h))
theorem go_aldN {k j : Nat} {x : Int32} (hd : decode cc pc = .ok (.iaload, 1)) (hk : py_isA k = true) (hj : j < py_N k) (hv : σ k j = x) (kk : py_Go X own cc nL d (pc + 1) ls (.int x :: st) σ P) : py_Go X own cc nL d pc ls (.int (nI j) :: .ref k :: st) σ P := by
  have h9 := py_N_lt k
  refine go_ald hd hk (vp_in_nI hj h9) ?_
  rw [nI_clamp (by omega), hv]
  exact kk
theorem go_astN {k j : Nat} {x : Int32} (hd : decode cc pc = .ok (.iastore, 1)) (hk : py_isA k = true) (hj : j < py_N k) (kk : py_Go X own cc nL d (pc + 1) ls st (py_up σ k j x) P) : py_Go X own cc nL d pc ls (.int x :: .int (nI j) :: .ref k :: st) σ P := by
  have h9 := py_N_lt k
  refine go_ast hd hk (vp_in_nI hj h9) ?_
  rw [nI_clamp (by omega)]
  exact kk
theorem go_zldN {j : Nat} {x : Int32} (hd : decode cc pc = .ok (.baload, 1)) (hj : j < 2) (hv : σ 58 j = x) (kk : py_Go X own cc nL d (pc + 1) ls (.int x :: st) σ P) : py_Go X own cc nL d pc ls (.int (nI j) :: .ref 58 :: st) σ P := by
  refine go_zld hd (vp_in_nI hj (by decide)) ?_
  rw [nI_clamp (by omega), hv]
  exact kk
theorem go_zstN {j : Nat} (hd : decode cc pc = .ok (.bastore, 1)) (hj : j < 2) (kk : py_Go X own cc nL d (pc + 1) ls st (py_up σ 58 j (nI 1)) P) : py_Go X own cc nL d pc ls (.int (nI 1) :: .int (nI j) :: .ref 58 :: st) σ P := by
  refine go_zst hd (vp_in_nI hj (by decide)) ?_
  rw [nI_clamp (by omega), show vp_nar .boolean (nI 1) = nI 1 by decide]
  exact kk
theorem go_sldN {j : Nat} (hd : decode cc pc = .ok (.iaload, 1)) (hj : j < X.1) (hl : X.1 < 2 ^ 31) (kk : py_Go X own cc nL d (pc + 1) ls (.int (X.2 j) :: st) σ P) : py_Go X own cc nL d pc ls (.int (nI j) :: .ref 65 :: st) σ P := by
  refine go_sld hd (vp_in_nI hj hl) ?_
  rw [nI_clamp (by omega)]
  exact kk
theorem go_tldN {k j : Nat} {x : Int32} (h1 : 62 ≤ k) (h2 : k ≤ 64) (hd : decode cc pc = .ok (.iaload, 1)) (hj : j < 6) (hv : py_T k j = x) (kk : py_Go X own cc nL d (pc + 1) ls (.int x :: st) σ P) : py_Go X own cc nL d pc ls (.int (nI j) :: .ref k :: st) σ P := by
  refine go_tld h1 h2 hd (vp_in_nI hj (by decide)) ?_
  rw [nI_clamp (by omega), hv]
  exact kk
theorem go_getI {idx ci nf j k : Nat} {ft : FieldType} {fin : Bool} {x : Int32} (hd : decode cc pc = .ok (.getfield idx, 3)) (hf : py_F own idx ci nf j ft fin) (hk : py_O k = some (ci, nf)) (hr : py_R k j = none) (hv : σ k j = x) (kk : py_Go X own cc nL d (pc + 3) ls (.int x :: st) σ P) : py_Go X own cc nL d pc ls (.ref k :: st) σ P := by
  exact go_get hd hf hk (by unfold py_pv; rw [hr]) (by rw [hv]; exact kk)
theorem go_getR {idx ci nf j k t : Nat} {ft : FieldType} {fin : Bool} (hd : decode cc pc = .ok (.getfield idx, 3)) (hf : py_F own idx ci nf j ft fin) (hk : py_O k = some (ci, nf)) (hr : py_R k j = some t) (kk : py_Go X own cc nL d (pc + 3) ls (.ref t :: st) σ P) : py_Go X own cc nL d pc ls (.ref k :: st) σ P := by
  exact go_get hd hf hk (by unfold py_pv; rw [hr]) kk
theorem go_putI {idx ci nf j k : Nat} {x : Int32} (hd : decode cc pc = .ok (.putfield idx, 3)) (hf : py_F own idx ci nf j .int false) (hk : py_O k = some (ci, nf)) (hr : py_R k j = none) (kk : py_Go X own cc nL d (pc + 3) ls st (py_up σ k j x) P) : py_Go X own cc nL d pc ls (.int x :: .ref k :: st) σ P := by
  exact go_put hd hf hk hr ⟨rfl, rfl⟩ kk
theorem go_putZ {idx ci nf j k : Nat} {x : Int32} (hd : decode cc pc = .ok (.putfield idx, 3)) (hf : py_F own idx ci nf j .boolean false) (hk : py_O k = some (ci, nf)) (hr : py_R k j = none) (hx : x = 0 ∨ x = 1) (kk : py_Go X own cc nL d (pc + 3) ls st (py_up σ k j x) P) : py_Go X own cc nL d pc ls (.int x :: .ref k :: st) σ P := by
  exact go_put hd hf hk hr (by rcases hx with rfl | rfl <;> exact ⟨rfl, rfl⟩) kk
theorem go_retI {x v : Int32} {Ps : py_H → Prop} (hd : decode cc pc = .ok (.ireturn, 1)) (hx : x = v) (hs : Ps σ) : py_Go X own cc nL d pc ls [.int x] σ (py_vs (some (.int v)) Ps) := by
  exact go_iret hd ⟨by rw [hx], hs⟩
theorem go_retV {Ps : py_H → Prop} (hd : decode cc pc = .ok (.return_, 1)) (hs : Ps σ) : py_Go X own cc nL d pc ls [] σ (py_vs none Ps) := by
  exact go_vret hd ⟨rfl, hs⟩
theorem go_retR {x v : Nat} {Ps : py_H → Prop} (hd : decode cc pc = .ok (.areturn, 1)) (hx : x = v) (hs : Ps σ) : py_Go X own cc nL d pc ls [.ref x] σ (py_vs (some (.ref v)) Ps) := by
  exact go_aret hd ⟨by rw [hx], hs⟩
theorem go_post {P2 : py_P} (h : ∀ r s, P2 r s → P r s) (k : py_Go X own cc nL d pc ls st σ P2) : py_Go X own cc nL d pc ls st σ P := by
  intro p l e R s m args below meth c D ad cI cZ A cells slots Q H locs la C hP hS hL rt
  exact k p l e R s m args below meth c D ad cI cZ A cells slots Q H locs la C hP hS hL (fun r σ2 H2 l2 a2 pc2 hp => rt r σ2 H2 l2 a2 pc2 (h r σ2 hp))
theorem py_Ev.post {y : MethodName} {ret : Option FieldType} {av : List Value} {P2 : py_P} (h : ∀ r s, P2 r s → P r s) (k : py_Ev X d y cc nL ret av σ P2) : py_Ev X d y cc nL ret av σ P := by
  intro l D ad cI cZ n hn p e ha hc hk s m args below hf happ hpre htr
  obtain ⟨t, o, h1, h2, h3, ⟨⟨r, σ2, hp, hq⟩, hrest⟩⟩ := k l D ad cI cZ n hn p e ha hc hk s m args below hf happ hpre htr
  exact ⟨t, o, h1, h2, h3, ⟨⟨r, σ2, h r σ2 hp, hq⟩, hrest⟩⟩
theorem go_cV {idx d1 n k ci nf nL1 : Nat} {y : MethodName} {cc1 : ByteArray} {ret : Option FieldType} {av st0 : List Value} {v : Value} (hd : decode cc pc = .ok (.invokevirtual idx, 3)) (hE : py_Ev X d1 y cc1 nL1 ret (.ref k :: av) σ (py_ret v σ)) (hl : Cond.methodLink own idx y ∈ py_tb) (hY : py_Y y cc1 nL1 ret n) (hV : py_V y) (hk : py_O k = some (ci, nf)) (hc : (vwCl[ci]?).map (fun q => q.1) = some y.cls) (hn : av.length = n) (hdp : d1 + 1 ≤ d) (hst : st0 = av.reverse ++ .ref k :: st) (hr : (st.map fun v => v.category).sum ≤ 8) (kk : py_Go X own cc nL d (pc + 3) ls (v :: st) σ P) : py_Go X own cc nL d pc ls st0 σ P := by
  refine go_callV hd hE hl hY hV hk hc hn hdp hst hr ?_
  rintro r1 σ1 ⟨rfl, rfl⟩
  exact kk
theorem go_cVi {idx d1 n k ci nf nL1 : Nat} {y : MethodName} {cc1 : ByteArray} {ret : Option FieldType} {av st0 : List Value} {v : Value} {Ps : py_H → Prop} (hd : decode cc pc = .ok (.invokevirtual idx, 3)) (hE : py_Ev X d1 y cc1 nL1 ret (.ref k :: av) σ (py_vs (some v) Ps)) (hl : Cond.methodLink own idx y ∈ py_tb) (hY : py_Y y cc1 nL1 ret n) (hV : py_V y) (hk : py_O k = some (ci, nf)) (hc : (vwCl[ci]?).map (fun q => q.1) = some y.cls) (hn : av.length = n) (hdp : d1 + 1 ≤ d) (hst : st0 = av.reverse ++ .ref k :: st) (hr : (st.map fun v => v.category).sum ≤ 8) (kk : ∀ σ1, Ps σ1 → py_Go X own cc nL d (pc + 3) ls (v :: st) σ1 P) : py_Go X own cc nL d pc ls st0 σ P := by
  refine go_callV hd hE hl hY hV hk hc hn hdp hst hr ?_
  rintro r1 σ1 ⟨rfl, h⟩
  exact kk σ1 h
theorem go_cVv {idx d1 n k ci nf nL1 : Nat} {y : MethodName} {cc1 : ByteArray} {ret : Option FieldType} {av st0 : List Value} {Ps : py_H → Prop} (hd : decode cc pc = .ok (.invokevirtual idx, 3)) (hE : py_Ev X d1 y cc1 nL1 ret (.ref k :: av) σ (py_vs none Ps)) (hl : Cond.methodLink own idx y ∈ py_tb) (hY : py_Y y cc1 nL1 ret n) (hV : py_V y) (hk : py_O k = some (ci, nf)) (hc : (vwCl[ci]?).map (fun q => q.1) = some y.cls) (hn : av.length = n) (hdp : d1 + 1 ≤ d) (hst : st0 = av.reverse ++ .ref k :: st) (hr : (st.map fun v => v.category).sum ≤ 8) (kk : ∀ σ1, Ps σ1 → py_Go X own cc nL d (pc + 3) ls st σ1 P) : py_Go X own cc nL d pc ls st0 σ P := by
  refine go_callV hd hE hl hY hV hk hc hn hdp hst hr ?_
  rintro r1 σ1 ⟨rfl, h⟩
  exact kk σ1 h
theorem go_cS {idx d1 n nL1 : Nat} {y : MethodName} {cc1 : ByteArray} {ret : Option FieldType} {av st0 : List Value} {v : Value} (hd : decode cc pc = .ok (.invokestatic idx, 3)) (hE : py_Ev X d1 y cc1 nL1 ret av σ (py_ret v σ)) (hl : Cond.methodLink own idx y ∈ py_tb) (hY : py_Y y cc1 nL1 ret n) (hV : Cond.static y ∈ py_tb) (hn : av.length = n) (hdp : d1 + 1 ≤ d) (hst : st0 = av.reverse ++ st) (hr : (st.map fun v => v.category).sum ≤ 8) (kk : py_Go X own cc nL d (pc + 3) ls (v :: st) σ P) : py_Go X own cc nL d pc ls st0 σ P := by
  refine go_callS hd hE hl hY hV hn hdp hst hr ?_
  rintro r1 σ1 ⟨rfl, rfl⟩
  exact kk
theorem go_cSi {idx d1 n nL1 : Nat} {y : MethodName} {cc1 : ByteArray} {ret : Option FieldType} {av st0 : List Value} {v : Value} {Ps : py_H → Prop} (hd : decode cc pc = .ok (.invokestatic idx, 3)) (hE : py_Ev X d1 y cc1 nL1 ret av σ (py_vs (some v) Ps)) (hl : Cond.methodLink own idx y ∈ py_tb) (hY : py_Y y cc1 nL1 ret n) (hV : Cond.static y ∈ py_tb) (hn : av.length = n) (hdp : d1 + 1 ≤ d) (hst : st0 = av.reverse ++ st) (hr : (st.map fun v => v.category).sum ≤ 8) (kk : ∀ σ1, Ps σ1 → py_Go X own cc nL d (pc + 3) ls (v :: st) σ1 P) : py_Go X own cc nL d pc ls st0 σ P := by
  refine go_callS hd hE hl hY hV hn hdp hst hr ?_
  rintro r1 σ1 ⟨rfl, h⟩
  exact kk σ1 h
theorem go_cSv {idx d1 n nL1 : Nat} {y : MethodName} {cc1 : ByteArray} {ret : Option FieldType} {av st0 : List Value} {Ps : py_H → Prop} (hd : decode cc pc = .ok (.invokestatic idx, 3)) (hE : py_Ev X d1 y cc1 nL1 ret av σ (py_vs none Ps)) (hl : Cond.methodLink own idx y ∈ py_tb) (hY : py_Y y cc1 nL1 ret n) (hV : Cond.static y ∈ py_tb) (hn : av.length = n) (hdp : d1 + 1 ≤ d) (hst : st0 = av.reverse ++ st) (hr : (st.map fun v => v.category).sum ≤ 8) (kk : ∀ σ1, Ps σ1 → py_Go X own cc nL d (pc + 3) ls st σ1 P) : py_Go X own cc nL d pc ls st0 σ P := by
  refine go_callS hd hE hl hY hV hn hdp hst hr ?_
  rintro r1 σ1 ⟨rfl, h⟩
  exact kk σ1 h
theorem go_cN {idx d1 n nL1 : Nat} {host : String} {y : MethodName} {cc1 : ByteArray} {ret : Option FieldType} {av st0 : List Value} {v : Value} (hd : decode cc pc = .ok (.invokestatic idx, 3)) (hE : py_Ev X d1 y cc1 nL1 ret av σ (py_ret v σ)) (hl : Cond.methodLinkNest own idx y host ∈ lw_tbl) (hY : py_Y y cc1 nL1 ret n) (hV : Cond.static y ∈ py_tb) (hn : av.length = n) (hdp : d1 + 1 ≤ d) (hst : st0 = av.reverse ++ st) (hr : (st.map fun v => v.category).sum ≤ 8) (kk : py_Go X own cc nL d (pc + 3) ls (v :: st) σ P) : py_Go X own cc nL d pc ls st0 σ P := by
  refine go_callN hd hE hl hY hV hn hdp hst hr ?_
  rintro r1 σ1 ⟨rfl, rfl⟩
  exact kk
theorem go_cNi {idx d1 n nL1 : Nat} {host : String} {y : MethodName} {cc1 : ByteArray} {ret : Option FieldType} {av st0 : List Value} {v : Value} {Ps : py_H → Prop} (hd : decode cc pc = .ok (.invokestatic idx, 3)) (hE : py_Ev X d1 y cc1 nL1 ret av σ (py_vs (some v) Ps)) (hl : Cond.methodLinkNest own idx y host ∈ lw_tbl) (hY : py_Y y cc1 nL1 ret n) (hV : Cond.static y ∈ py_tb) (hn : av.length = n) (hdp : d1 + 1 ≤ d) (hst : st0 = av.reverse ++ st) (hr : (st.map fun v => v.category).sum ≤ 8) (kk : ∀ σ1, Ps σ1 → py_Go X own cc nL d (pc + 3) ls (v :: st) σ1 P) : py_Go X own cc nL d pc ls st0 σ P := by
  refine go_callN hd hE hl hY hV hn hdp hst hr ?_
  rintro r1 σ1 ⟨rfl, h⟩
  exact kk σ1 h
theorem go_cNv {idx d1 n nL1 : Nat} {host : String} {y : MethodName} {cc1 : ByteArray} {ret : Option FieldType} {av st0 : List Value} {Ps : py_H → Prop} (hd : decode cc pc = .ok (.invokestatic idx, 3)) (hE : py_Ev X d1 y cc1 nL1 ret av σ (py_vs none Ps)) (hl : Cond.methodLinkNest own idx y host ∈ lw_tbl) (hY : py_Y y cc1 nL1 ret n) (hV : Cond.static y ∈ py_tb) (hn : av.length = n) (hdp : d1 + 1 ≤ d) (hst : st0 = av.reverse ++ st) (hr : (st.map fun v => v.category).sum ≤ 8) (kk : ∀ σ1, Ps σ1 → py_Go X own cc nL d (pc + 3) ls st σ1 P) : py_Go X own cc nL d pc ls st0 σ P := by
  refine go_callN hd hE hl hY hV hn hdp hst hr ?_
  rintro r1 σ1 ⟨rfl, h⟩
  exact kk σ1 h
theorem py_ofI {y : MethodName} {av : List Value} {v : Int32} {Ps : py_H → Prop} (hy : plainName y.cls = true) (ho : y.cls = own) (hc : av.all (fun w => w.category == 1) = true) (hn : av.length ≤ nL)  (h : py_Go X own cc nL d 0 (py_in av nL) [] σ (py_vs (some (.int v)) Ps)) : py_Ev X d y cc nL (some .int) av σ (py_vs (some (.int v)) Ps) := by
  refine py_Ev.of hy ho (fun w hw => by simpa using List.all_eq_true.mp hc w hw) hn ?_ h
  rintro r s ⟨rfl, -⟩
  exact trivial
theorem py_ofZ {y : MethodName} {av : List Value} {v : Int32} {Ps : py_H → Prop} (hy : plainName y.cls = true) (ho : y.cls = own) (hc : av.all (fun w => w.category == 1) = true) (hn : av.length ≤ nL) (hz : v = 0 ∨ v = 1) (h : py_Go X own cc nL d 0 (py_in av nL) [] σ (py_vs (some (.int v)) Ps)) : py_Ev X d y cc nL (some .boolean) av σ (py_vs (some (.int v)) Ps) := by
  refine py_Ev.of hy ho (fun w hw => by simpa using List.all_eq_true.mp hc w hw) hn ?_ h
  rintro r s ⟨rfl, -⟩
  exact hz
theorem py_ofV {y : MethodName} {av : List Value}  {Ps : py_H → Prop} (hy : plainName y.cls = true) (ho : y.cls = own) (hc : av.all (fun w => w.category == 1) = true) (hn : av.length ≤ nL)  (h : py_Go X own cc nL d 0 (py_in av nL) [] σ (py_vs none Ps)) : py_Ev X d y cc nL none av σ (py_vs none Ps) := by
  refine py_Ev.of hy ho (fun w hw => by simpa using List.all_eq_true.mp hc w hw) hn ?_ h
  rintro r s ⟨rfl, -⟩
  exact trivial
theorem py_ofR {y : MethodName} {av : List Value} {v : Nat} {cn : String} {Ps : py_H → Prop} (hy : plainName y.cls = true) (ho : y.cls = own) (hc : av.all (fun w => w.category == 1) = true) (hn : av.length ≤ nL)  (h : py_Go X own cc nL d 0 (py_in av nL) [] σ (py_vs (some (.ref v)) Ps)) : py_Ev X d y cc nL (some (.object cn)) av σ (py_vs (some (.ref v)) Ps) := by
  refine py_Ev.of hy ho (fun w hw => by simpa using List.all_eq_true.mp hc w hw) hn ?_ h
  rintro r s ⟨rfl, -⟩
  exact trivial
end PYM
