/-! pure words: the reference's tokens; what a place's token is, where it ends -/
def py_en (B : Nat → Nat) (N a : Nat) : Nat := if 0 < py_run B N a then a + py_run B N a else if a < N then a + 1 else a
def py_tk (B : Nat → Nat) (N a : Nat) : Nat := if 0 < py_run B N a then (if py_run B N a < 3 then 2 else 5) else if a < N then (if 97 ≤ B a ∧ B a ≤ 122 then 1 else if B a = 44 then 3 else if B a = 59 then 4 else 5) else 0
def py_vl (B : Nat → Nat) (N a : Nat) : Int32 := if 0 < py_run B N a then nI (py_nv B N a) else py_nx B N a
theorem py_run0 {B : Nat → Nat} {N a : Nat} (hN : N ≤ 100) : 0 < py_run B N a ↔ py_isd B N a = true := by
  constructor
  · intro h
    have z := py_run_d hN h
    rw [Nat.add_zero] at z
    exact z
  · intro h
    rw [py_run_t hN h]
    omega
theorem py_nodig {B : Nat → Nat} {N a : Nat} (h : ¬ py_isd B N a = true) : py_run B N a = 0 := py_run_f h
theorem py_en_le {B : Nat → Nat} {N a : Nat} (ha : a ≤ N) : py_en B N a ≤ N := by
  unfold py_en
  have h := py_run_le B N a
  split
  · omega
  · split <;> omega
theorem py_tk_5 (B : Nat → Nat) (N a : Nat) : py_tk B N a ≤ 5 := by
  unfold py_tk
  (repeat' split) <;> omega
theorem py_tk_2 {B : Nat → Nat} {N a : Nat} : py_tk B N a = 2 ↔ (py_run B N a = 1 ∨ py_run B N a = 2) := by
  unfold py_tk
  (repeat' split) <;> omega
/-- a sign by itself -/
theorem py_tk_o {B : Nat → Nat} {N a : Nat} (hN : N ≤ 100) (h : a < N) (hd : B a < 48 ∨ 57 < B a) : py_run B N a = 0 ∧ py_en B N a = a + 1 ∧ py_tk B N a = (if 97 ≤ B a ∧ B a ≤ 122 then 1 else if B a = 44 then 3 else if B a = 59 then 4 else 5) ∧ py_vl B N a = nI (B a) := by
  have h0 : py_run B N a = 0 := py_run_f (fun z => by have := (py_isd_iff B N a).mp z; omega)
  refine ⟨h0, ?_, ?_, ?_⟩
  · unfold py_en; rw [h0, if_neg (Nat.lt_irrefl 0), if_pos h]
  · unfold py_tk; rw [h0, if_neg (Nat.lt_irrefl 0), if_pos h]
  · unfold py_vl py_nx; rw [h0, if_neg (Nat.lt_irrefl 0), if_pos h]
theorem py_tk_34 {B : Nat → Nat} {N a c k : Nat} (hN : N ≤ 100) (hck : (c = 44 ∧ k = 3) ∨ (c = 59 ∧ k = 4)) : py_tk B N a = k ↔ (a < N ∧ B a = c) := by
  constructor
  · intro h
    unfold py_tk at h
    split at h
    · split at h <;> omega
    · split at h
      · (repeat' split at h) <;> omega
      · omega
  · rintro ⟨h1, h2⟩
    rw [(py_tk_o hN h1 (by omega)).2.2.1]
    (repeat' split) <;> omega
theorem py_tk_l {B : Nat → Nat} {N a c : Nat} (hN : N ≤ 100) (hB : ∀ i, i < N → B i ≤ 255) (hc : 97 ≤ c ∧ c ≤ 122) : (py_tk B N a = 1 ∧ py_vl B N a = nI c) ↔ (a < N ∧ B a = c) := by
  constructor
  · rintro ⟨h, hv⟩
    unfold py_tk at h
    split at h
    · split at h <;> omega
    · rename_i hr
      split at h
      · rename_i ha
        refine ⟨ha, ?_⟩
        unfold py_vl py_nx at hv
        rw [if_neg hr, if_pos ha] at hv
        have z := hB a ha
        have e := congrArg Int32.toInt hv
        rw [nI_toInt (by omega), nI_toInt (by omega)] at e
        omega
      · omega
  · rintro ⟨h1, h2⟩
    have z := py_tk_o (B := B) hN h1 (by omega)
    rw [z.2.2.1, z.2.2.2, h2]
    exact ⟨if_pos hc, rfl⟩
theorem py_tk_0 {B : Nat → Nat} {N a : Nat} : py_tk B N a = 0 ↔ ¬ a < N := by
  have hr := py_run_le B N a
  unfold py_tk
  constructor
  · intro h
    split at h
    · split at h <;> omega
    · split at h
      · (repeat' split at h) <;> omega
      · omega
  · intro h
    rw [if_neg (by omega), if_neg h]
/-- the kind that a letter tells -/
theorem py_kd_l {c : Nat} (h : 0 < py_kd c) : 97 ≤ c ∧ c ≤ 122 := by
  unfold py_kd at h
  (repeat' split at h) <;> omega
/-- the token at a tells a kind -/
theorem py_tk_k {B : Nat → Nat} {N a : Nat} (hN : N ≤ 100) (hB : ∀ i, i < N → B i ≤ 255) : (py_tk B N a = 1 ∧ 0 < py_kdI (py_vl B N a)) ↔ 0 < py_kd (py_at B N a) := by
  constructor
  · rintro ⟨h, hv⟩
    unfold py_tk at h
    split at h
    · split at h <;> omega
    · rename_i hr
      split at h
      · rename_i ha
        have e : py_vl B N a = py_nx B N a := by unfold py_vl; rw [if_neg hr]
        rw [e, py_kdI_at hB] at hv
        exact hv
      · omega
  · intro h
    have ha := py_kd_at h
    have e1 : py_at B N a = B a := by unfold py_at; rw [if_pos ha]
    have hl := py_kd_l h
    rw [e1] at hl
    have z := py_tk_o (B := B) hN ha (by omega)
    rw [z.2.2.1, if_pos hl]
    refine ⟨rfl, ?_⟩
    have e2 : py_vl B N a = py_nx B N a := by rw [z.2.2.2]; unfold py_nx; rw [if_pos ha]
    rw [e2, py_kdI_at hB]
    exact h
/-- what the lexer holds at a -/
def py_lx (s : py_H) (B : Nat → Nat) (N a : Nat) : Prop := s 47 10 = nI a ∧ s 47 9 = nI (py_en B N a) ∧ s 47 11 = nI (py_tk B N a) ∧ s 47 12 = py_vl B N a
/-- what is read so far: a fault, or the token at a place -/
def py_lr {α : Type} (s : py_H) (B : Nat → Nat) (N : Nat) (ft : Int32) (r : py_Re α) : Prop := match r with
  | .inl e => s 47 8 = nI e.1 ∧ s 47 7 = nI e.2 ∧ e.1 ≤ N
  | .inr q => s 47 8 = -1 ∧ py_lx s B N q.1 ∧ s 47 7 = ft ∧ q.1 ≤ N
/-- the shape of an answer, without its value -/
def py_sp {α : Type} (r : py_Re α) : (Nat × Nat) ⊕ Nat := match r with
  | .inl e => .inl e
  | .inr q => .inr q.1
theorem py_lr_sp {α β : Type} {s : py_H} {B : Nat → Nat} {N : Nat} {ft : Int32} {r : py_Re α} {r2 : py_Re β} (e : py_sp r = py_sp r2) (h : py_lr s B N ft r) : py_lr s B N ft r2 := by
  match r, r2, e, h with
  | .inl x, .inl y, e, h =>
    have e2 : x = y := Sum.inl.inj e
    rw [← e2]; exact h
  | .inr x, .inr y, e, h =>
    have e2 : x.1 = y.1 := Sum.inr.inj e
    show s 47 8 = -1 ∧ py_lx s B N y.1 ∧ s 47 7 = ft ∧ y.1 ≤ N
    rw [← e2]; exact h
abbrev py_T6 : List (Nat × Nat) := [(47, 7), (47, 8), (47, 9), (47, 10), (47, 11), (47, 12)]
theorem py_tm_6 {σ s : py_H} {B : Nat → Nat} {N : Nat} {S : List Nat} (hf : py_fr S py_T6 σ s) (h : 47 ∉ S ∧ 52 ∉ S) (ht : py_tm σ B N) : py_tm s B N := py_tm_fr hf ⟨⟨h.1, by decide⟩, h.2, by decide⟩ ht
/-- what the value of an answer is -/
def py_iv (r : py_Re Int32) : Int32 := match r with
  | .inl _ => nI 0
  | .inr q => q.2
def py_rv0 (r : py_Re Nat) : Int32 := match r with
  | .inl _ => nI 0
  | .inr q => nI q.2
/-- takes: the token must be so -/
def py_tks {α : Type} (B : Nat → Nat) (N : Nat) (r : py_Re α) (b : Prop) [Decidable b] (k : Nat) : py_Re Int32 := py_bi r (fun a _ => if b then .inr (py_en B N a, py_vl B N a) else .inl (a, k))
theorem py_bi_a {α β γ : Type} (r : py_Re α) (f : Nat → α → py_Re β) (g : Nat → β → py_Re γ) : py_bi (py_bi r f) g = py_bi r (fun a v => py_bi (f a v) g) := by
  cases r <;> rfl
/-- the sign c, told by the token k -/
theorem py_tks_c {α : Type} {s : py_H} {B : Nat → Nat} {N : Nat} {ft : Int32} {r : py_Re α} {c k : Nat} (hN : N ≤ 100) (hck : (c = 44 ∧ k = 3) ∨ (c = 59 ∧ k = 4)) (h : py_lr s B N ft r) : py_sp (py_tks B N r (s 47 11 = nI k) 1) = py_sp (py_bi r (fun a _ => py_chr B N a c)) := by
  match r, h with
  | .inl e, h => rfl
  | .inr q, h =>
    show py_sp (if s 47 11 = nI k then _ else _) = py_sp (py_chr B N q.1 c)
    unfold py_chr
    have ht := py_tk_34 (B := B) (a := q.1) hN hck
    have h5 := py_tk_5 B N q.1
    by_cases hq : q.1 < N ∧ B q.1 = c
    · rw [if_pos (by rw [h.2.1.2.2.1, ht.mpr hq]), if_pos hq]
      show Sum.inr (py_en B N q.1) = Sum.inr (q.1 + 1)
      rw [(py_tk_o hN hq.1 (by omega)).2.1]
    · rw [if_neg, if_neg hq]
      · rfl
      · rw [h.2.1.2.2.1]
        intro z
        have e := congrArg Int32.toInt z
        rw [nI_toInt (by omega), nI_toInt (by omega)] at e
        exact hq (ht.mp (by omega))
