/-! the bounds stay, call by call -/
section IW
variable {H : Nat → Nat} {n : Nat} {As : Nat → Nat → Nat} {I0 I1 : Option (Nat → Nat)} {t : Nat}
theorem iw_act {H2 : Nat → Nat} (hW : py_IW H n As I0 I1 t) (hst : py_st H H2) (hw2 : py_wf H2) : py_IW (py_act (n, As, H) H2).2.2 (py_act (n, As, H) H2).1 (py_act (n, As, H) H2).2.1 I0 I1 t := by
  obtain ⟨hw, hA, hJ⟩ := hW
  exact ⟨hw2, py_act_w (z := (n, As, H)) hw hA hst, hJ⟩
theorem iw_yz (hW : py_IW H n As I0 I1 t) : ∀ k, H 2 + k ≤ 999 → py_IW (py_yz k (n, As, H)).2.2 (py_yz k (n, As, H)).1 (py_yz k (n, As, H)).2.1 I0 I1 t
  | 0, _ => hW
  | k + 1, hk => by
    have ih := iw_yz hW k (by omega)
    have e : (py_yz k (n, As, H)).2.2 = py_age H k := py_yz_h (z := (n, As, H)) hW.1 k
    have hwk : py_wf (py_yz k (n, As, H)).2.2 := ih.1
    have hw2 : py_wf (py_age (py_yz k (n, As, H)).2.2 1) := by
      rw [e, py_age_age hW.1]
      exact py_age_wf hW.1 hk
    exact iw_act (H := (py_yz k (n, As, H)).2.2) (n := (py_yz k (n, As, H)).1) (As := (py_yz k (n, As, H)).2.1) ih (py_age1_st hwk 1) hw2
theorem iw_years (hW : py_IW H n As I0 I1 t) (x : Int32) : py_IW (nz_years (n, As, H) x).2.2 (nz_years (n, As, H) x).1 (nz_years (n, As, H) x).2.1 I0 I1 t := by
  by_cases h : py_yok H x
  · have e : nz_years (n, As, H) x = py_yz x.toNatClampNeg (n, As, H) := if_pos h
    rw [e]
    obtain ⟨v, rfl, h1, h2, h3, h4⟩ := py_rg_of (x := x) (a := 1) (b := 24) h.2.1
    refine iw_yz hW _ ?_
    have := h.2.2
    omega
  · have e : nz_years (n, As, H) x = (n, As, H) := if_neg h
    rw [e]
    exact hW
theorem py_st_c {H G : Nat → Nat} (hw : py_wf H) (h : ∀ j, (j = 0 ∨ j = 3 ∨ j = 12 ∨ (4 ≤ j ∧ j < 12) ∨ (13 ≤ j ∧ ((j - 13) % 4 = 0 ∨ (j - 13) % 4 = 1))) → G j = H j) : py_st H G := by
  have h3 := hw.2.2.2.1
  have e3 := h 3 (by omega)
  have e12 := h 12 (by omega)
  refine ⟨(h 0 (by omega)).symm, e3.symm, e12.symm, fun w hq => ?_, fun p hp => ?_⟩
  · rw [e3] at hq
    exact ⟨(h _ (by omega)).symm, (h _ (by omega)).symm⟩
  · exact ⟨(h _ (by omega)).symm, (h _ (by omega)).symm⟩
theorem iw_deed (hW : py_IW H n As I0 I1 t) (x y : Int32) : py_IW (nz_deed (n, As, H) x y).2.2 (nz_deed (n, As, H) x y).1 (nz_deed (n, As, H) x y).2.1 I0 I1 t := by
  by_cases h : py_dok H x y
  · have e : nz_deed (n, As, H) x y = py_act (n, As, H) (py_pc2 H x.toNatClampNeg (H (15 + 4 * x.toNatClampNeg) - y.toNatClampNeg)) := if_pos h
    rw [e]
    have hw := hW.1
    obtain ⟨p, rfl, hp, hpI, hpC⟩ := py_pi_of h.1.1
    rw [hpC]
    generalize y.toNatClampNeg = v
    have hq : ∀ j, j ≠ 15 + 4 * p → py_pc2 H p (H (15 + 4 * p) - v) j = H j := fun j hj => by unfold py_pc2; rw [if_neg hj]
    have hst : py_st H (py_pc2 H p (H (15 + 4 * p) - v)) := py_st_c hw (fun j hj => hq j (by omega))
    refine iw_act hW hst (py_wf_st hw hst ?_ ?_ (fun q hqq => ?_) (fun w hw2 => ?_))
    · rw [hq 1 (by omega)]; exact hw.2.1
    · rw [hq 2 (by omega)]; exact hw.2.2.1
    · have z := hw.2.2.2.2.2.2.2.2.1 q hqq
      rw [hq (16 + 4 * q) (by omega)]
      refine ⟨?_, z.2.2.2.2.2⟩
      by_cases e : q = p
      · subst e; unfold py_pc2; rw [if_pos rfl]; omega
      · rw [hq _ (by omega)]; exact z.2.2.2.2.1
    · have z := hw.2.2.2.2.2.2.2.2.2 w hw2
      rw [py_cn_cong (f := fun q => decide (py_pc2 H p (H (15 + 4 * p) - v) (16 + 4 * q) = w)) (g := fun q => decide (H (16 + 4 * q) = w)) (fun k _ => by rw [hq _ (by omega)])]
      exact z
  · have e : nz_deed (n, As, H) x y = (n, As, H) := if_neg h
    rw [e]
    exact hW
theorem iw_restore (hW : py_IW H n As I0 I1 t) (x y : Int32) : py_IW (nz_restore (n, As, H) x y).2.2 (nz_restore (n, As, H) x y).1 (nz_restore (n, As, H) x y).2.1 I0 I1 t := by
  by_cases h : py_rok2 H x y
  · have e : nz_restore (n, As, H) x y = py_act (n, As, H) (py_rs H x.toNatClampNeg (py_cm H x.toNatClampNeg y.toNatClampNeg)) := if_pos h
    rw [e]
    have hw := hW.1
    obtain ⟨p, rfl, hp, hpI, hpC⟩ := py_pi_of h.1.1
    rw [hpC]
    have hcm : py_cm H p y.toNatClampNeg ≤ 60 - H (15 + 4 * p) := by unfold py_cm; split <;> omega
    generalize py_cm H p y.toNatClampNeg = v at hcm ⊢
    have hq : ∀ j, j ≠ 15 + 4 * p → j ≠ 1 → py_rs H p v j = H j := fun j hj h1 => by unfold py_rs; rw [if_neg hj, if_neg h1]
    have hst : py_st H (py_rs H p v) := py_st_c hw (fun j hj => hq j (by omega) (by omega))
    refine iw_act hW hst (py_wf_st hw hst ?_ ?_ (fun q hqq => ?_) (fun w hw2 => ?_))
    · have z := hw.2.1
      unfold py_rs
      rw [if_neg (by omega), if_pos rfl]
      omega
    · rw [hq 2 (by omega) (by omega)]; exact hw.2.2.1
    · have z := hw.2.2.2.2.2.2.2.2.1 q hqq
      rw [hq (16 + 4 * q) (by omega) (by omega)]
      refine ⟨?_, z.2.2.2.2.2⟩
      by_cases e : q = p
      · subst e; unfold py_rs; rw [if_pos rfl]; omega
      · rw [hq _ (by omega) (by omega)]; exact z.2.2.2.2.1
    · have z := hw.2.2.2.2.2.2.2.2.2 w hw2
      rw [py_cn_cong (f := fun q => decide (py_rs H p v (16 + 4 * q) = w)) (g := fun q => decide (H (16 + 4 * q) = w)) (fun k _ => by rw [hq _ (by omega) (by omega)])]
      exact z
  · have e : nz_restore (n, As, H) x y = (n, As, H) := if_neg h
    rw [e]
    exact hW
theorem py_cn_imp {f g : Nat → Bool} : ∀ {k : Nat}, (∀ q, q < k → f q = true → g q = true) → py_cn f k ≤ py_cn g k
  | 0, _ => Nat.le_refl _
  | k + 1, h => by
    have ih := py_cn_imp (k := k) (fun q hq => h q (by omega))
    show py_cn f k + (if f k then 1 else 0) ≤ py_cn g k + (if g k then 1 else 0)
    by_cases hf : f k = true
    · rw [if_pos hf, if_pos (h k (by omega) hf)]; omega
    · rw [if_neg hf]; omega
theorem py_cn_one {f g : Nat → Bool} {p : Nat} : ∀ {k : Nat}, (∀ q, q < k → q ≠ p → f q = true → g q = true) → py_cn f k ≤ py_cn g k + (if p < k then 1 else 0)
  | 0, _ => by show 0 ≤ _; omega
  | k + 1, h => by
    have ih := py_cn_one (p := p) (k := k) (fun q hq => h q (by omega))
    show py_cn f k + (if f k then 1 else 0) ≤ py_cn g k + (if g k then 1 else 0) + _
    by_cases hk : k = p
    · subst hk
      rw [if_neg (by omega)] at ih
      rw [if_pos (show k < k + 1 by omega)]
      split <;> split <;> omega
    · have e : (if p < k + 1 then 1 else 0) = (if p < k then 1 else 0) := by
        by_cases hp : p < k
        · rw [if_pos hp, if_pos (by omega)]
        · rw [if_neg hp, if_neg (by omega)]
      rw [e]
      by_cases hf : f k = true
      · rw [if_pos hf, if_pos (h k (by omega) hk hf)]; omega
      · rw [if_neg hf]; omega
theorem iw_hang (hW : py_IW H n As I0 I1 t) (x y : Int32) : py_IW (nz_hang (n, As, H) x y).2.2 (nz_hang (n, As, H) x y).1 (nz_hang (n, As, H) x y).2.1 I0 I1 t := by
  by_cases h : py_gok H x y
  · have e : nz_hang (n, As, H) x y = py_act (n, As, H) (py_hg H x.toNatClampNeg y.toNatClampNeg) := if_pos h
    rw [e]
    have hw := hW.1
    have hct := h.2.2
    obtain ⟨p, rfl, hp, hpI, hpC⟩ := py_pi_of h.1.1
    obtain ⟨v, rfl, hv, hvI, hvC⟩ := py_pi_of h.1.2
    rw [hvC] at hct
    rw [hpC, hvC]
    have hq : ∀ j, j ≠ 16 + 4 * p → py_hg H p v j = H j := fun j hj => by unfold py_hg; rw [if_neg hj]
    have hst : py_st H (py_hg H p v) := py_st_c hw (fun j hj => hq j (by omega))
    refine iw_act hW hst (py_wf_st hw hst ?_ ?_ (fun q hqq => ?_) (fun w hw2 => ?_))
    · rw [hq 1 (by omega)]; exact hw.2.1
    · rw [hq 2 (by omega)]; exact hw.2.2.1
    · have z := hw.2.2.2.2.2.2.2.2.1 q hqq
      rw [hq (15 + 4 * q) (by omega)]
      refine ⟨z.2.2.2.2.1, ?_⟩
      by_cases e : q = p
      · subst e; unfold py_hg; rw [if_pos rfl]; exact hv
      · rw [hq _ (by omega)]; exact z.2.2.2.2.2
    · have z := hw.2.2.2.2.2.2.2.2.2 w hw2
      by_cases ewv : w = v
      · subst ewv
        have z2 := py_cn_one (p := p) (k := H 12) (f := fun q => decide (py_hg H p w (16 + 4 * q) = w)) (g := fun q => decide (H (16 + 4 * q) = w)) (fun q _ hne hf => by
          rw [hq _ (by omega)] at hf
          exact hf)
        rw [if_pos hp] at z2
        unfold py_ct at hct
        omega
      · refine Nat.le_trans (py_cn_imp (fun q _ hf => ?_)) z
        by_cases e2 : q = p
        · subst e2
          have hf2 := of_decide_eq_true hf
          unfold py_hg at hf2
          rw [if_pos rfl] at hf2
          exact absurd hf2.symm ewv
        · rw [hq _ (by omega)] at hf
          exact hf
  · have e : nz_hang (n, As, H) x y = (n, As, H) := if_neg h
    rw [e]
    exact hW
theorem py_st_2 {A G H : Nat → Nat} (h : py_st A H) (g : py_st G H) : py_st A G := by
  obtain ⟨a0, a3, a12, aw, ap⟩ := h
  obtain ⟨g0, g3, g12, gw, gp⟩ := g
  refine ⟨a0.trans g0.symm, a3.trans g3.symm, a12.trans g12.symm, fun w hw => ?_, fun p hp => ?_⟩
  · have x := aw w (by omega)
    have y := gw w (by omega)
    exact ⟨x.1.trans y.1.symm, x.2.trans y.2.symm⟩
  · have x := ap p (by omega)
    have y := gp p (by omega)
    exact ⟨x.1.trans y.1.symm, x.2.trans y.2.symm⟩
theorem iw_undo (hW : py_IW H n As I0 I1 t) : py_IW (nz_undo (n, As, H)).2.2 (nz_undo (n, As, H)).1 (nz_undo (n, As, H)).2.1 I0 I1 t := by
  by_cases h : n = 0
  · have e : nz_undo (n, As, H) = (n, As, H) := if_pos h
    rw [e]
    exact hW
  · have e : nz_undo (n, As, H) = (n - 1, As, As (n - 1)) := if_neg h
    rw [e]
    obtain ⟨hw, hA, hJ⟩ := hW
    have z := hA.2 (n - 1) (by omega)
    refine ⟨z.1, ⟨by show n - 1 ≤ 24; omega, fun i hi => ?_⟩, hJ⟩
    have hi2 : i < n - 1 := hi
    have y := hA.2 i (by omega)
    exact ⟨y.1, py_st_2 y.2 z.2⟩
theorem iw_house {B : Nat → Nat} {N : Nat} (hN : N ≤ 100) (hW : py_IW H n As I0 I1 t) : py_IW (nh_house H (py_read B N)) (na_house n (py_read B N)) As I0 I1 t := by
  cases h : py_read B N with
  | inl e => exact hW
  | inr q =>
    obtain ⟨a, G⟩ := q
    obtain ⟨hw, hA, hJ⟩ := hW
    exact ⟨(py_read_v hN h).1, ⟨Nat.zero_le _, fun i hi => absurd hi (Nat.not_lt_zero i)⟩, hJ⟩
theorem iw_image (hW : py_IW H n As I0 I1 t) (x : Int32) : py_IW H n As (ni_image H I0 0 x) (ni_image H I1 1 x) t := by
  obtain ⟨hw, hA, h0, h1, ht⟩ := hW
  refine ⟨hw, hA, fun J hJ => ?_, fun J hJ => ?_, ht⟩
  · unfold ni_image at hJ
    by_cases h : x.toInt = 0 ∧ 0 < H 0
    · rw [if_pos h] at hJ; cases hJ; exact ⟨hw, h.2⟩
    · rw [if_neg h] at hJ; exact h0 J hJ
  · unfold ni_image at hJ
    by_cases h : x.toInt = 1 ∧ 0 < H 0
    · rw [if_pos h] at hJ; cases hJ; exact ⟨hw, h.2⟩
    · rw [if_neg h] at hJ; exact h1 J hJ
theorem iw_recall (hW : py_IW H n As I0 I1 t) (x : Int32) : py_IW (nh_recall H I0 I1 x) (na_recall n I0 I1 x) As I0 I1 t := by
  unfold nh_recall na_recall
  by_cases h : 0 ≤ x.toInt ∧ x.toInt ≤ 1
  · rw [if_pos h, if_pos h]
    have hq : ∀ J, py_ix I0 I1 x = some J → py_wf J ∧ 0 < J 0 := fun J hJ => by
      unfold py_ix at hJ
      by_cases h2 : x.toInt = 0
      · rw [if_pos h2] at hJ; exact hW.2.2.1 J hJ
      · rw [if_neg h2] at hJ; exact hW.2.2.2.1 J hJ
    cases e : py_ix I0 I1 x with
    | none => exact hW
    | some J =>
      obtain ⟨hw, hA, hJ⟩ := hW
      exact ⟨(hq J e).1, ⟨Nat.zero_le _, fun i hi => absurd hi (Nat.not_lt_zero i)⟩, hJ⟩
  · rw [if_neg h, if_neg h]
    exact hW
theorem iw_ask (hW : py_IW H n As I0 I1 t) (x y : Int32) : py_IW H n As I0 I1 (nt_ask t H x y) := by
  obtain ⟨hw, hA, h0, h1, ht⟩ := hW
  refine ⟨hw, hA, h0, h1, ?_⟩
  unfold nt_ask
  split
  · unfold py_ak py_sz py_mr
    (repeat' split) <;> exact Nat.le_of_ble_eq_true rfl
  · exact ht
end IW
