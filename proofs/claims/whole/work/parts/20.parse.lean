/-! pure words: how a text is read. B: the bytes, N: how many; an answer is a fault (place, number) or a place and a value -/
def py_tc (σ : py_H) (B : Nat → Nat) (N : Nat) : Prop := σ 5 1 = nI N ∧ N ≤ 100 ∧ ∀ i, i < N → σ 6 i = nI (B i) ∧ B i ≤ 255
def py_tm (σ : py_H) (B : Nat → Nat) (N : Nat) : Prop := σ 47 6 = nI N ∧ N ≤ 100 ∧ ∀ i, i < N → σ 52 i = nI (B i) ∧ B i ≤ 255
abbrev py_Re (α : Type) : Type := (Nat × Nat) ⊕ (Nat × α)
def py_bi {α β : Type} (r : py_Re α) (f : Nat → α → py_Re β) : py_Re β := match r with
  | .inl e => .inl e
  | .inr q => f q.1 q.2
def py_isok {α : Type} (r : py_Re α) : Bool := match r with
  | .inl _ => false
  | .inr _ => true
theorem py_ok_t {α : Type} {r : py_Re α} (h : py_isok r = true) : ∃ a v, r = .inr (a, v) := by
  match r, h with
  | .inr (a, v), _ => exact ⟨a, v, rfl⟩
theorem py_ok_f {α : Type} {r : py_Re α} (h : ¬ py_isok r = true) : ∃ p k, r = .inl (p, k) := by
  match r, h with
  | .inl (p, k), _ => exact ⟨p, k, rfl⟩
  | .inr q, h => exact absurd rfl h
def py_rv (r : py_Re Nat) : Int32 := match r with
  | .inl _ => -1
  | .inr q => nI q.2
theorem py_rv_n {r : py_Re Nat} (h : (py_rv r).toInt < 0) (hs : ∀ a v, r = .inr (a, v) → v < 2 ^ 31) : ∃ p k, r = .inl (p, k) := by
  match r, h, hs with
  | .inl (p, k), _, _ => exact ⟨p, k, rfl⟩
  | .inr (a, v), h, hs =>
    have h2 : (nI v).toInt < 0 := h
    rw [nI_toInt (hs a v rfl)] at h2
    omega
theorem py_rv_p {r : py_Re Nat} (h : 0 ≤ (py_rv r).toInt) : ∃ a v, r = .inr (a, v) := by
  match r, h with
  | .inr (a, v), _ => exact ⟨a, v, rfl⟩
  | .inl _, h =>
    have h2 : 0 ≤ (-1 : Int32).toInt := h
    exact absurd h2 (by decide)
/-- the byte at a; 256 behind the end -/
def py_at (B : Nat → Nat) (N a : Nat) : Nat := if a < N then B a else 256
def py_nx (B : Nat → Nat) (N a : Nat) : Int32 := if a < N then nI (B a) else -1
def py_isd (B : Nat → Nat) (N a : Nat) : Bool := decide (a < N) && (decide (48 ≤ B a) && decide (B a ≤ 57))
theorem py_isd_iff (B : Nat → Nat) (N a : Nat) : py_isd B N a = true ↔ a < N ∧ 48 ≤ B a ∧ B a ≤ 57 := by
  unfold py_isd
  simp
/-- how many figures stand from a on -/
def py_rn (B : Nat → Nat) (N : Nat) : Nat → Nat → Nat
  | 0, _ => 0
  | f + 1, a => if py_isd B N a then py_rn B N f (a + 1) + 1 else 0
theorem py_rn_le (B : Nat → Nat) (N : Nat) : ∀ f a, py_rn B N f a ≤ N - a
  | 0, a => Nat.zero_le _
  | f + 1, a => by
    have ih := py_rn_le B N f (a + 1)
    show (if py_isd B N a then py_rn B N f (a + 1) + 1 else 0) ≤ N - a
    by_cases h : py_isd B N a = true
    · rw [if_pos h]
      have := (py_isd_iff B N a).mp h
      omega
    · rw [if_neg h]
      omega
theorem py_rn_more (B : Nat → Nat) (N : Nat) : ∀ f g a, N - a ≤ f → N - a ≤ g → py_rn B N f a = py_rn B N g a
  | 0, 0, a, _, _ => rfl
  | 0, g + 1, a, h, _ => by
    have hd : ¬ py_isd B N a = true := fun z => by have := (py_isd_iff B N a).mp z; omega
    show 0 = (if py_isd B N a then py_rn B N g (a + 1) + 1 else 0)
    rw [if_neg hd]
  | f + 1, 0, a, _, h => by
    have hd : ¬ py_isd B N a = true := fun z => by have := (py_isd_iff B N a).mp z; omega
    show (if py_isd B N a then py_rn B N f (a + 1) + 1 else 0) = 0
    rw [if_neg hd]
  | f + 1, g + 1, a, h1, h2 => by
    have ih := py_rn_more B N f g (a + 1) (by omega) (by omega)
    show (if py_isd B N a then py_rn B N f (a + 1) + 1 else 0) = (if py_isd B N a then py_rn B N g (a + 1) + 1 else 0)
    rw [ih]
def py_run (B : Nat → Nat) (N a : Nat) : Nat := py_rn B N 101 a
theorem py_run_t {B : Nat → Nat} {N a : Nat} (hN : N ≤ 100) (h : py_isd B N a = true) : py_run B N a = py_run B N (a + 1) + 1 := by
  unfold py_run
  show (if py_isd B N a then py_rn B N 100 (a + 1) + 1 else 0) = _
  rw [if_pos h, py_rn_more B N 100 101 (a + 1) (by omega) (by omega)]
theorem py_run_f {B : Nat → Nat} {N a : Nat} (h : ¬ py_isd B N a = true) : py_run B N a = 0 := by
  unfold py_run
  show (if py_isd B N a then py_rn B N 100 (a + 1) + 1 else 0) = _
  rw [if_neg h]
theorem py_run_le (B : Nat → Nat) (N a : Nat) : py_run B N a ≤ N - a := py_rn_le B N 101 a
theorem py_run_d {B : Nat → Nat} {N : Nat} (hN : N ≤ 100) : ∀ {k a : Nat}, k < py_run B N a → py_isd B N (a + k) = true
  | 0, a, h => by
    apply Classical.byContradiction
    intro hn
    rw [Nat.add_zero] at hn
    rw [py_run_f hn] at h
    omega
  | k + 1, a, h => by
    have h0 : py_isd B N a = true := by
      apply Classical.byContradiction
      intro hn
      rw [py_run_f hn] at h
      omega
    have h1 := py_run_t hN h0
    have h2 := py_run_d (B := B) hN (k := k) (a := a + 1) (by omega)
    rw [show a + (k + 1) = a + 1 + k by omega]
    exact h2
/-- the number that a figure run tells by its first two -/
def py_nv (B : Nat → Nat) (N a : Nat) : Nat := if py_run B N a < 2 then B a - 48 else (B a - 48) * 10 + (B (a + 1) - 48)
def py_num (B : Nat → Nat) (N a lo hi : Nat) : py_Re Nat := if py_run B N a = 1 ∨ py_run B N a = 2 then (if lo ≤ py_nv B N a ∧ py_nv B N a ≤ hi then .inr (a + py_run B N a, py_nv B N a) else .inl (a, 2)) else .inl (a, 1)
def py_chr (B : Nat → Nat) (N a c : Nat) : py_Re Nat := if a < N ∧ B a = c then .inr (a + 1, 0) else .inl (a, 1)
theorem py_nv_le {B : Nat → Nat} {N a : Nat} (hN : N ≤ 100) (h : 0 < py_run B N a) : py_nv B N a ≤ 99 := by
  have h0 := (py_isd_iff B N (a + 0)).mp (py_run_d hN (k := 0) h)
  rw [Nat.add_zero] at h0
  unfold py_nv
  by_cases h2 : py_run B N a < 2
  · rw [if_pos h2]; omega
  · rw [if_neg h2]
    have h1 := (py_isd_iff B N (a + 1)).mp (py_run_d hN (k := 1) (by omega))
    omega
theorem py_num_v {B : Nat → Nat} {N a lo hi b v : Nat} (hN : N ≤ 100) (h : py_num B N a lo hi = .inr (b, v)) : lo ≤ v ∧ v ≤ hi ∧ a < b ∧ b ≤ N ∧ v ≤ 99 := by
  unfold py_num at h
  have hr := py_run_le B N a
  by_cases h1 : py_run B N a = 1 ∨ py_run B N a = 2
  · rw [if_pos h1] at h
    by_cases h2 : lo ≤ py_nv B N a ∧ py_nv B N a ≤ hi
    · rw [if_pos h2] at h
      injection h with h
      injection h with e1 e2
      subst e1; subst e2
      refine ⟨h2.1, h2.2, by omega, by omega, ?_⟩
      exact py_nv_le hN (by omega)
    · rw [if_neg h2] at h; cases h
  · rw [if_neg h1] at h; cases h
theorem py_chr_v {B : Nat → Nat} {N a c b v : Nat} (h : py_chr B N a c = .inr (b, v)) : b = a + 1 ∧ b ≤ N ∧ v = 0 ∧ B a = c := by
  unfold py_chr at h
  by_cases h1 : a < N ∧ B a = c
  · rw [if_pos h1] at h
    injection h with h
    injection h with e1 e2
    exact ⟨e1.symm, by omega, e2.symm, h1.2⟩
  · rw [if_neg h1] at h; cases h
/-- a fault's place is not behind the end -/
theorem py_num_e {B : Nat → Nat} {N a lo hi p k : Nat} (h : py_num B N a lo hi = .inl (p, k)) : p = a ∧ (k = 1 ∨ k = 2) := by
  unfold py_num at h
  by_cases h1 : py_run B N a = 1 ∨ py_run B N a = 2
  · rw [if_pos h1] at h
    by_cases h2 : lo ≤ py_nv B N a ∧ py_nv B N a ≤ hi
    · rw [if_pos h2] at h; cases h
    · rw [if_neg h2] at h
      injection h with h
      injection h with e1 e2
      exact ⟨e1.symm, Or.inr e2.symm⟩
  · rw [if_neg h1] at h
    injection h with h
    injection h with e1 e2
    exact ⟨e1.symm, Or.inl e2.symm⟩
theorem py_chr_e {B : Nat → Nat} {N a c p k : Nat} (h : py_chr B N a c = .inl (p, k)) : p = a ∧ k = 1 := by
  unfold py_chr at h
  by_cases h1 : a < N ∧ B a = c
  · rw [if_pos h1] at h; cases h
  · rw [if_neg h1] at h
    injection h with h
    injection h with e1 e2
    exact ⟨e1.symm, e2.symm⟩
def py_law (r q : Nat) : Nat → Nat := fun j => if j = 0 then r else if j = 1 then q else 0
def py_plaw (B : Nat → Nat) (N : Nat) : py_Re (Nat → Nat) :=
  py_bi (py_chr B N 0 103) (fun a _ => py_bi (py_num B N a 1 5) (fun a r => py_bi (py_chr B N a 44) (fun a _ => py_bi (py_num B N a 0 99) (fun a q => py_bi (py_chr B N a 59) (fun a _ => .inr (a, py_law r q))))))
def py_pwall (B : Nat → Nat) (N a : Nat) (H : Nat → Nat) : py_Re (Nat → Nat) :=
  if (a < N ∧ B a = 119) ∧ 4 ≤ H 3 then .inl (a, 3) else
  py_bi (py_chr B N a 119) (fun a _ => py_bi (py_num B N a 0 9) (fun a l => py_bi (py_chr B N a 44) (fun a _ => py_bi (py_num B N a 0 9) (fun a d => py_bi (py_chr B N a 59) (fun a _ => .inr (a, py_aw H l d))))))
def py_pws (B : Nat → Nat) (N : Nat) : Nat → Nat → Nat → (Nat → Nat) → py_Re (Nat → Nat)
  | 0, _, a, H => .inr (a, H)
  | f + 1, w, a, H => if w = 0 ∨ (a < N ∧ B a = 119) then py_bi (py_pwall B N a H) (fun a H => py_pws B N f (w + 1) a H) else .inr (a, H)
def py_kd (c : Nat) : Nat := if c = 111 then 1 else if c = 99 then 2 else if c = 117 then 3 else if c = 112 then 4 else if c = 115 then 5 else 0
def py_pw (B : Nat → Nat) (N a : Nat) (H : Nat → Nat) : py_Re Nat :=
  py_bi (py_num B N a 0 (H 3 - 1)) (fun b w => if py_cn (fun p => decide (H (16 + 4 * p) = w)) (H 12) < H 0 then .inr (b, w) else .inl (a, 2))
def py_ppic (B : Nat → Nat) (N a : Nat) (H : Nat → Nat) : py_Re (Nat → Nat) :=
  if py_kd (py_at B N a) = 0 then .inl (a, 1) else if 5 ≤ H 12 then .inl (a, 3) else
  py_bi (py_num B N (a + 1) 1 9) (fun b s => py_bi (py_chr B N b 44) (fun b _ => py_bi (py_num B N b 1 60) (fun b c => py_bi (py_chr B N b 44) (fun b _ => py_bi (py_pw B N b H) (fun b w => py_bi (py_chr B N b 59) (fun b _ => .inr (b, py_ap H (py_kd (py_at B N a)) s c w)))))))
def py_pps (B : Nat → Nat) (N : Nat) : Nat → Nat → (Nat → Nat) → py_Re (Nat → Nat)
  | 0, a, H => .inr (a, H)
  | f + 1, a, H => if a < N then py_bi (py_ppic B N a H) (fun a H => py_pps B N f a H) else .inr (a, H)
def py_read (B : Nat → Nat) (N : Nat) : py_Re (Nat → Nat) := py_bi (py_plaw B N) (fun a H => py_bi (py_pws B N 5 0 a H) (fun a H => py_pps B N 6 a H))
