/-! the invariant: what the class holds, what the reference holds, of one abstract state; the answers -/
abbrev py_Rt : Type := (Nat → Nat) × (Nat → Nat) × (Nat → Int32)
def py_im (σ : py_H) (h : Nat) (I : Option (Nat → Nat)) : Prop := match I with
  | none => σ h 0 = nI 0
  | some J => py_hc σ h J ∧ 0 < J 0
/-- the class's part: R rows, q status, B N tape, ft fault, H house, n As acts, I0 I1 images, t tr trace -/
def py_IC (σ : py_H) (R : py_Rt) (q : Int32) (B : Nat → Nat) (N : Nat) (ft : Int32) (H : Nat → Nat) (n : Nat) (As : Nat → Nat → Nat) (I0 I1 : Option (Nat → Nat)) (t : Nat) (tr : Nat → Int32) : Prop :=
  py_rc σ R.1 R.2.1 R.2.2 ∧ σ 0 10 = q ∧ py_tc σ B N ∧ σ 0 9 = ft ∧ py_hc σ 7 H ∧ (∃ fr, py_ac σ n fr As (H 12)) ∧ py_im σ 21 I0 ∧ py_im σ 28 I1 ∧ (σ 45 1 = nI t ∧ ∀ i, i < t → σ 46 i = tr i) ∧ (∀ w, w < 4 → σ 41 w = nI 0)
/-- the reference's part -/
def py_ik (σ : py_H) (k : Nat) (I : Option (Nat → Nat)) : Prop := match I with
  | none => σ 58 k = nI 0
  | some J => σ 58 k = nI 1 ∧ py_hm (σ 57) (33 * k) J
def py_IM (σ : py_H) (R : py_Rt) (q : Int32) (B : Nat → Nat) (N : Nat) (ft : Int32) (H : Nat → Nat) (n : Nat) (As : Nat → Nat → Nat) (I0 I1 : Option (Nat → Nat)) (t : Nat) (tr : Nat → Int32) : Prop :=
  py_rk σ R.1 R.2.1 R.2.2 ∧ σ 47 4 = q ∧ py_tm σ B N ∧ σ 47 7 = ft ∧ py_hm (σ 53) 0 H ∧ (σ 47 17 = nI n ∧ ∀ i, i < n → py_hm (σ 56) (33 * i) (As i)) ∧ py_ik σ 0 I0 ∧ py_ik σ 1 I1 ∧ (σ 47 23 = nI t ∧ ∀ i, i < t → σ 61 i = tr i)
/-- the bounds of it all -/
def py_IW (H : Nat → Nat) (n : Nat) (As : Nat → Nat → Nat) (I0 I1 : Option (Nat → Nat)) (t : Nat) : Prop :=
  py_wf H ∧ (n ≤ 24 ∧ ∀ i, i < n → py_wf (As i) ∧ py_st (As i) H) ∧ (∀ J, I0 = some J → py_wf J ∧ 0 < J 0) ∧ (∀ J, I1 = some J → py_wf J ∧ 0 < J 0) ∧ t ≤ 16
/-! what stays, part by part -/
section PYI
variable {σ s : py_H} {S : List Nat} {T : List (Nat × Nat)}
theorem py_rc_fr {R : py_Rt} (hf : py_fr S T σ s) (h : 2 ∉ S ∧ 3 ∉ S ∧ 4 ∉ S ∧ ∀ q ∈ T, q.1 ≠ 2 ∧ q.1 ≠ 3 ∧ q.1 ≠ 4) (hr : py_rc σ R.1 R.2.1 R.2.2) : py_rc s R.1 R.2.1 R.2.2 := by
  have e2 := hf.at 2 h.1 (fun q hq => (h.2.2.2 q hq).1)
  have e3 := hf.at 3 h.2.1 (fun q hq => (h.2.2.2 q hq).2.1)
  have e4 := hf.at 4 h.2.2.1 (fun q hq => (h.2.2.2 q hq).2.2)
  unfold py_rc
  rw [e2, e3, e4]
  exact hr
theorem py_ac_fr {n : Nat} {As : Nat → Nat → Nat} {m : Nat} (hf : py_fr S T σ s) (h : 35 ∉ S ∧ 36 ∉ S ∧ ∀ q ∈ T, q.1 ≠ 35 ∧ q.1 ≠ 36) (ha : ∃ fr, py_ac σ n fr As m) : ∃ fr, py_ac s n fr As m := by
  have e2 := hf.at 35 h.1 (fun q hq => (h.2.2 q hq).1)
  have e3 := hf.at 36 h.2.1 (fun q hq => (h.2.2 q hq).2)
  obtain ⟨fr, ha⟩ := ha
  refine ⟨fr, ?_⟩
  unfold py_ac
  rw [e2, e3]
  exact ha
theorem py_im_fr {h : Nat} {I : Option (Nat → Nat)} (hf : py_fr S T σ s) (hs : ∀ j, j < 7 → h + j ∉ S) (ht : ∀ j, j < 7 → ∀ q ∈ T, q.1 ≠ h + j) (hi : py_im σ h I) : py_im s h I := by
  match I, hi with
  | none, hi =>
    have e := hf.at (h + 0) (hs 0 (by decide)) (ht 0 (by decide))
    rw [Nat.add_zero] at e
    show s h 0 = nI 0
    rw [e]
    exact hi
  | some J, hi => exact ⟨py_hc_fr hf hs ht hi.1, hi.2⟩
theorem py_tr_fr {t : Nat} {tr : Nat → Int32} (hf : py_fr S T σ s) (h : 45 ∉ S ∧ 46 ∉ S ∧ ∀ q ∈ T, q.1 ≠ 45 ∧ q.1 ≠ 46) (hr : σ 45 1 = nI t ∧ ∀ i, i < t → σ 46 i = tr i) : s 45 1 = nI t ∧ ∀ i, i < t → s 46 i = tr i := by
  have e2 := hf.at 45 h.1 (fun q hq => (h.2.2 q hq).1)
  have e3 := hf.at 46 h.2.1 (fun q hq => (h.2.2 q hq).2)
  rw [e2, e3]
  exact hr
theorem py_cr_fr (hf : py_fr S T σ s) (h : 41 ∉ S ∧ ∀ q ∈ T, q.1 ≠ 41) (hr : ∀ w, w < 4 → σ 41 w = nI 0) : ∀ w, w < 4 → s 41 w = nI 0 := by
  have e2 := hf.at 41 h.1 h.2
  rw [e2]
  exact hr
end PYI
/-- the class's rows of places -/
abbrev py_SC : List Nat := [0, 1, 2, 3, 4, 5, 6, 7, 8, 9, 10, 11, 12, 13, 14, 15, 16, 17, 18, 19, 20, 21, 22, 23, 24, 25, 26, 27, 28, 29, 30, 31, 32, 33, 34, 35, 36, 37, 38, 39, 40, 41, 42, 43, 44, 45, 46]
abbrev py_SM : List Nat := [47, 48, 49, 50, 51, 52, 53, 54, 55, 56, 57, 58, 59, 60, 61]
theorem py_IC_fr {σ s : py_H} {R : py_Rt} {q : Int32} {B : Nat → Nat} {N : Nat} {ft : Int32} {H : Nat → Nat} {n : Nat} {As : Nat → Nat → Nat} {I0 I1 : Option (Nat → Nat)} {t : Nat} {tr : Nat → Int32} (hf : py_fr py_SM [] σ s) (h : py_IC σ R q B N ft H n As I0 I1 t tr) : py_IC s R q B N ft H n As I0 I1 t tr := by
  obtain ⟨h1, h2, h3, h4, h5, h6, h7, h8, h9, h10⟩ := h
  exact ⟨py_rc_fr hf (by decide) h1, by rw [hf 0 10 (by decide) (by decide)]; exact h2, py_tc_fr hf (by decide) (by decide) (by decide) (by decide) h3, by rw [hf 0 9 (by decide) (by decide)]; exact h4, py_hc_fr hf (by decide) (by decide) h5, py_ac_fr hf (by decide) h6, py_im_fr hf (by decide) (by decide) h7, py_im_fr hf (by decide) (by decide) h8, py_tr_fr hf (by decide) h9, py_cr_fr hf (by decide) h10⟩
theorem py_IM_fr {σ s : py_H} {R : py_Rt} {q : Int32} {B : Nat → Nat} {N : Nat} {ft : Int32} {H : Nat → Nat} {n : Nat} {As : Nat → Nat → Nat} {I0 I1 : Option (Nat → Nat)} {t : Nat} {tr : Nat → Int32} (hf : py_fr py_SC [] σ s) (h : py_IM σ R q B N ft H n As I0 I1 t tr) : py_IM s R q B N ft H n As I0 I1 t tr := by
  have e : ∀ k, k ∉ py_SC → s k = σ k := fun k hk => hf.at k hk (fun q hq => absurd hq List.not_mem_nil)
  have e47 := e 47 (by decide)
  have e48 := e 48 (by decide)
  have e49 := e 49 (by decide)
  have e50 := e 50 (by decide)
  have e52 := e 52 (by decide)
  have e53 := e 53 (by decide)
  have e56 := e 56 (by decide)
  have e57 := e 57 (by decide)
  have e58 := e 58 (by decide)
  have e61 := e 61 (by decide)
  unfold py_IM py_rk py_tm py_ik at h ⊢
  rw [e47, e48, e49, e50, e52, e53, e56, e57, e58, e61]
  exact h
/-! rows -/
abbrev BADI : Int32 := -1000001
def an_row (x y z : Int32) : Int32 := if py_pi x 8 ∧ py_pi y 3 ∧ z.toInt ≤ 40 then (if z.toInt < 0 then -1000010 - nI 4 else z) else -1000001
def nq_row (q x y z : Int32) : Int32 := if py_pi x 8 ∧ py_pi y 3 ∧ z.toInt ≤ 40 then (if z.toInt < 0 then nI 4 else nI 0) else q
def nr_row (R : py_Rt) (x y z : Int32) : py_Rt := if (py_pi x 8 ∧ py_pi y 3 ∧ z.toInt ≤ 40) ∧ 0 ≤ z.toInt then (va_up R.1 x.toNatClampNeg y.toNatClampNeg, va_up R.2.1 x.toNatClampNeg z.toNatClampNeg, py_zs R.2.2 (40 * x.toNatClampNeg) 40) else R
def an_set (R : py_Rt) (x y z : Int32) : Int32 := if py_pi x 8 then (if R.1 x.toNatClampNeg = 3 then -1000010 - nI 1 else if py_pi y (R.2.1 x.toNatClampNeg) then py_cut (R.1 x.toNatClampNeg) z else -1000010 - nI 2) else -1000001
def nq_set (R : py_Rt) (q x y : Int32) : Int32 := if py_pi x 8 then (if R.1 x.toNatClampNeg = 3 then nI 1 else if py_pi y (R.2.1 x.toNatClampNeg) then nI 0 else nI 2) else q
def nr_set (R : py_Rt) (x y z : Int32) : py_Rt := if py_pi x 8 ∧ R.1 x.toNatClampNeg ≠ 3 ∧ py_pi y (R.2.1 x.toNatClampNeg) then (R.1, R.2.1, upd R.2.2 (40 * x.toNatClampNeg + y.toNatClampNeg) (py_cut (R.1 x.toNatClampNeg) z)) else R
abbrev py_cpok (R : py_Rt) (a i b j n : Int32) : Prop := (py_pi a 8 ∧ py_pi b 8) ∧ (R.1 a.toNatClampNeg ≠ 3 ∧ R.1 b.toNatClampNeg ≠ 3) ∧ R.1 a.toNatClampNeg = R.1 b.toNatClampNeg ∧ py_hp i n (R.2.1 a.toNatClampNeg) ∧ py_hp j n (R.2.1 b.toNatClampNeg)
def an_copy (R : py_Rt) (a i b j n : Int32) : Int32 := if py_pi a 8 ∧ py_pi b 8 then (if R.1 a.toNatClampNeg = 3 ∨ R.1 b.toNatClampNeg = 3 then -1000010 - nI 1 else if R.1 a.toNatClampNeg = R.1 b.toNatClampNeg then (if py_hp i n (R.2.1 a.toNatClampNeg) ∧ py_hp j n (R.2.1 b.toNatClampNeg) then n else -1000010 - nI 2) else -1000010 - nI 5) else -1000001
def nq_copy (R : py_Rt) (q a i b j n : Int32) : Int32 := if py_pi a 8 ∧ py_pi b 8 then (if R.1 a.toNatClampNeg = 3 ∨ R.1 b.toNatClampNeg = 3 then nI 1 else if R.1 a.toNatClampNeg = R.1 b.toNatClampNeg then (if py_hp i n (R.2.1 a.toNatClampNeg) ∧ py_hp j n (R.2.1 b.toNatClampNeg) then nI 0 else nI 2) else nI 5) else q
def nr_copy (R : py_Rt) (a i b j n : Int32) : py_Rt := if py_cpok R a i b j n then (R.1, R.2.1, va_cpy R.2.2 R.2.2 (40 * a.toNatClampNeg + i.toNatClampNeg) (40 * b.toNatClampNeg + j.toNatClampNeg) n.toNatClampNeg) else R
def an_drop (R : py_Rt) (x : Int32) : Int32 := if py_pi x 8 then (if R.1 x.toNatClampNeg = 3 then -1000010 - nI 1 else nI (R.2.1 x.toNatClampNeg)) else -1000001
def nq_drop (R : py_Rt) (q x : Int32) : Int32 := if py_pi x 8 then (if R.1 x.toNatClampNeg = 3 then nI 1 else nI 0) else q
def nr_drop (R : py_Rt) (x : Int32) : py_Rt := if py_pi x 8 ∧ R.1 x.toNatClampNeg ≠ 3 then (va_up R.1 x.toNatClampNeg 3, R.2.1, R.2.2) else R
theorem py_rc_row {σ s : py_H} {R : py_Rt} {r l n : Nat} (hr : r < 8) (hl : l < 3) (hn : n ≤ 40) (h : py_rc σ R.1 R.2.1 R.2.2) (e3 : s 3 = upd (σ 3) r (nI l)) (e4 : s 4 = upd (σ 4) r (nI n)) (e2 : s 2 = py_zs (σ 2) (r * 40) n) : py_rc s (va_up R.1 r l) (va_up R.2.1 r n) (py_zs R.2.2 (40 * r) 40) := by
  intro k hk
  have z := h k hk
  rw [e2, e3, e4]
  by_cases hkr : k = r
  · subst hkr
    have u1 : va_up R.1 k l k = l := by unfold va_up; rw [if_pos rfl]
    have u2 : va_up R.2.1 k n k = n := by unfold va_up; rw [if_pos rfl]
    rw [u1, u2, pk_us, pk_us, if_neg (by omega)]
    refine ⟨by omega, rfl, fun _ => ⟨hn, rfl, fun i hi => ?_⟩⟩
    unfold py_zs
    rw [if_pos (by omega), if_pos (by omega)]
  · have u1 : va_up R.1 r l k = R.1 k := by unfold va_up; rw [if_neg hkr]
    have u2 : va_up R.2.1 r n k = R.2.1 k := by unfold va_up; rw [if_neg hkr]
    rw [u1, u2, pk_un hkr, pk_un hkr]
    refine ⟨z.1, z.2.1, fun hl3 => ?_⟩
    have y := z.2.2 hl3
    refine ⟨y.1, y.2.1, fun i hi => ?_⟩
    unfold py_zs
    rw [if_neg (by omega), if_neg (by omega)]
    exact y.2.2 i hi
theorem py_rc_set {σ s : py_H} {R : py_Rt} {r i : Nat} {v : Int32} (hr : r < 8) (hi : i < 40) (h : py_rc σ R.1 R.2.1 R.2.2) (e3 : s 3 = σ 3) (e4 : s 4 = σ 4) (e2 : s 2 = upd (σ 2) (r * 40 + i) v) : py_rc s R.1 R.2.1 (upd R.2.2 (40 * r + i) v) := by
  intro k hk
  have z := h k hk
  rw [e2, e3, e4]
  refine ⟨z.1, z.2.1, fun hl3 => ?_⟩
  have y := z.2.2 hl3
  refine ⟨y.1, y.2.1, fun j hj => ?_⟩
  by_cases hq : 40 * k + j = 40 * r + i
  · rw [hq, pk_us, show 40 * r + i = r * 40 + i by omega, pk_us]
  · rw [pk_un hq, pk_un (show 40 * k + j ≠ r * 40 + i by omega)]
    exact y.2.2 j hj
theorem py_rc_copy {σ s : py_H} {R : py_Rt} {a i b j n : Nat} (ha : a < 8) (hb : b < 8) (h : py_rc σ R.1 R.2.1 R.2.2) (ha3 : R.1 a < 3) (hb3 : R.1 b < 3) (hi : i + n ≤ R.2.1 a) (hj : j + n ≤ R.2.1 b) (e3 : s 3 = σ 3) (e4 : s 4 = σ 4) (e2 : s 2 = va_cpy (σ 2) (σ 2) (a * 40 + i) (b * 40 + j) n) : py_rc s R.1 R.2.1 (va_cpy R.2.2 R.2.2 (40 * a + i) (40 * b + j) n) := by
  intro k hk
  have z := h k hk
  have za := (h a ha).2.2 ha3
  have zb := (h b hb).2.2 hb3
  rw [e2, e3, e4]
  refine ⟨z.1, z.2.1, fun hl3 => ?_⟩
  have y := z.2.2 hl3
  refine ⟨y.1, y.2.1, fun q hq => ?_⟩
  by_cases hin : 40 * b + j ≤ 40 * k + q ∧ 40 * k + q < 40 * b + j + n
  · rw [pk_cpy_in (by omega) (by omega), pk_cpy_in hin.1 hin.2]
    have e := za.2.2 (i + (40 * k + q - (40 * b + j))) (by omega)
    rw [show a * 40 + i + (40 * k + q - (b * 40 + j)) = 40 * a + (i + (40 * k + q - (40 * b + j))) by omega, show 40 * a + i + (40 * k + q - (40 * b + j)) = 40 * a + (i + (40 * k + q - (40 * b + j))) by omega]
    exact e
  · rw [pk_cpy_out (by omega), pk_cpy_out (by omega)]
    exact y.2.2 q hq
theorem py_rc_drop {σ s : py_H} {R : py_Rt} {r : Nat} (hr : r < 8) (h : py_rc σ R.1 R.2.1 R.2.2) (e3 : s 3 = upd (σ 3) r (-1)) (e4 : ∀ k, k ≠ r → s 4 k = σ 4 k) (e2 : s 2 = σ 2) : py_rc s (va_up R.1 r 3) R.2.1 R.2.2 := by
  intro k hk
  have z := h k hk
  rw [e2, e3]
  by_cases hkr : k = r
  · subst hkr
    have u1 : va_up R.1 k 3 k = 3 := by unfold va_up; rw [if_pos rfl]
    rw [u1, pk_us, if_pos rfl]
    exact ⟨Nat.le_refl _, rfl, fun q => absurd q (by decide)⟩
  · have u1 : va_up R.1 r 3 k = R.1 k := by unfold va_up; rw [if_neg hkr]
    rw [u1, pk_un hkr, e4 k hkr]
    exact z
