/-! pure words: hanging: all words of walls in their order, and those with room alone -/
def py_room (H : Nat → Nat) (tw : Nat → Nat) : Bool := py_all (fun k => decide (py_cn (fun p => decide (tw p = k)) (H 12) ≤ H 0)) (H 3)
def py_hl (H : Nat → Nat) (d : Nat) (tw : Nat → Nat) (n : Nat) : Nat := py_cn (fun p => decide (0 < py_lw H d p (tw p))) n
def py_hk (H : Nat → Nat) (d : Nat) (tw : Nat → Nat) (n : Nat) : Nat := py_sm (fun p => py_lw H d p (tw p)) n
def py_leaf (H : Nat → Nat) (d : Nat) (tw : Nat → Nat) (B : py_B) : py_B := if py_room H tw = true then py_wg B (py_hl H d tw (H 12)) (py_hk H d tw (H 12)) tw else B
def py_hu (H : Nat → Nat) (d : Nat) : Nat → Nat → (Nat → Nat) → py_B → py_B
  | 0, _, tw, B => py_leaf H d tw B
  | r + 1, p, tw, B => py_lp (fun w B => py_hu H d r (p + 1) (va_up tw p w) B) (H 3) B
/-- the next word: the last figure first -/
def py_nx2 (W : Nat) : Nat → (Nat → Nat) → Option (Nat → Nat)
  | 0, _ => none
  | p + 1, tw => if tw p + 1 < W then some (va_up tw p (tw p + 1)) else py_nx2 W p (va_up tw p 0)
theorem py_vu_s (f : Nat → Nat) (i v : Nat) : va_up f i v i = v := by unfold va_up; rw [if_pos rfl]
theorem py_vu_o {f : Nat → Nat} {i v j : Nat} (h : j ≠ i) : va_up f i v j = f j := by unfold va_up; rw [if_neg h]
theorem py_vu_vu (f : Nat → Nat) (i v u : Nat) : va_up (va_up f i v) i u = va_up f i u := by
  funext j
  by_cases h : j = i
  · subst h; rw [py_vu_s, py_vu_s]
  · rw [py_vu_o h, py_vu_o h, py_vu_o h]
theorem py_vu_id {f : Nat → Nat} {i v : Nat} (h : f i = v) : va_up f i v = f := by
  funext j
  by_cases hj : j = i
  · subst hj; rw [py_vu_s, h]
  · rw [py_vu_o hj]
theorem py_lp_s (g : Nat → py_B → py_B) (n : Nat) (B : py_B) : py_lp g (n + 1) B = g n (py_lp g n B) := rfl
theorem py_lp_cong {g h : Nat → py_B → py_B} : ∀ {n : Nat} {B : py_B}, (∀ w, w < n → ∀ B, g w B = h w B) → py_lp g n B = py_lp h n B
  | 0, _, _ => rfl
  | n + 1, B, q => by
    rw [py_lp_s, py_lp_s, py_lp_cong (fun w hw B => q w (by omega) B), q n (by omega)]
theorem py_lp_id {g : Nat → py_B → py_B} {B : py_B} : ∀ {n : Nat}, (∀ w, w < n → g w B = B) → py_lp g n B = B
  | 0, _ => rfl
  | n + 1, q => by
    rw [py_lp_s, py_lp_id (fun w hw => q w (by omega)), q n (by omega)]
/-- from a word on, all words that begin as it does; then the next -/
theorem py_words {H : Nat → Nat} {d : Nat} {Q : (Nat → Nat) → py_B → Prop} {Qe : py_B → Prop} (hW : 0 < H 3)
    (step : ∀ tw B, (∀ q, q < H 12 → tw q < H 3) → (match py_nx2 (H 3) (H 12) tw with | none => Qe (py_leaf H d tw B) | some t => Q t (py_leaf H d tw B)) → Q tw B) :
    ∀ r p tw B, p + r = H 12 → (∀ q, q < H 12 → tw q < H 3) → (∀ q, p ≤ q → tw q = 0) → (match py_nx2 (H 3) p tw with | none => Qe (py_hu H d r p tw B) | some t => Q t (py_hu H d r p tw B)) → Q tw B
  | 0, p, tw, B, hp, hv, hz, h => by
    have e : p = H 12 := by omega
    subst e
    exact step tw B hv h
  | r + 1, p, tw, B, hp, hv, hz, h => by
    have key : ∀ w, w ≤ H 3 - 1 → Q (va_up tw p w) (py_lp (fun w B => py_hu H d r (p + 1) (va_up tw p w) B) w B) := by
      refine py_loop _ (H 3 - 1) (fun w hw ih => ?_)
      refine py_words hW step r (p + 1) (va_up tw p w) _ (by omega) (fun q hq => ?_) (fun q hq => ?_) ?_
      · by_cases e : q = p
        · subst e; rw [py_vu_s]; omega
        · rw [py_vu_o e]; exact hv q hq
      · rw [py_vu_o (by omega)]; exact hz q (by omega)
      · have es : py_hu H d r (p + 1) (va_up tw p w) (py_lp (fun w B => py_hu H d r (p + 1) (va_up tw p w) B) w B) = py_lp (fun w B => py_hu H d r (p + 1) (va_up tw p w) B) (w + 1) B := rfl
        rw [es]
        by_cases hl : w + 1 < H 3
        · have en : py_nx2 (H 3) (p + 1) (va_up tw p w) = some (va_up tw p (w + 1)) := by
            show (if va_up tw p w p + 1 < H 3 then some (va_up (va_up tw p w) p (va_up tw p w p + 1)) else _) = _
            rw [py_vu_s, if_pos hl, py_vu_vu]
          rw [en]
          exact ih (by omega)
        · have en : py_nx2 (H 3) (p + 1) (va_up tw p w) = py_nx2 (H 3) p tw := by
            show (if va_up tw p w p + 1 < H 3 then _ else py_nx2 (H 3) p (va_up (va_up tw p w) p 0)) = _
            rw [py_vu_s, if_neg hl, py_vu_vu, py_vu_id (hz p (Nat.le_refl _))]
          rw [en, show w + 1 = H 3 by omega]
          exact h
    have k0 := key 0 (Nat.zero_le _)
    rw [py_vu_id (hz p (Nat.le_refl _))] at k0
    exact k0
/-- no room: nothing comes of it -/
theorem py_hu_no {H : Nat → Nat} {d : Nat} {w : Nat} (hw : w < H 3) : ∀ r p tw B, p + r = H 12 → H 0 < py_cn (fun q => decide (tw q = w)) p → py_hu H d r p tw B = B
  | 0, p, tw, B, hp, h => by
    have e : p = H 12 := by omega
    subst e
    show (if py_room H tw = true then _ else B) = B
    rw [if_neg]
    intro z
    have y := (py_all_iff _ _).mp z w hw
    have x := of_decide_eq_true y
    omega
  | r + 1, p, tw, B, hp, h => by
    refine py_lp_id (fun v hv => ?_)
    refine py_hu_no hw r (p + 1) (va_up tw p v) B (by omega) ?_
    have e : py_cn (fun q => decide (va_up tw p v q = w)) p = py_cn (fun q => decide (tw q = w)) p := py_cn_cong (fun k hk => by rw [py_vu_o (by omega)])
    show H 0 < py_cn (fun q => decide (va_up tw p v q = w)) p + _
    rw [e]
    omega
theorem py_hf_hu {H : Nat → Nat} {d : Nat} : ∀ r p (cr tw : Nat → Nat) l c B, p + r = H 12 → (∀ w, w < H 3 → cr w = py_cn (fun q => decide (tw q = w)) p) → (∀ w, w < H 3 → cr w ≤ H 0) → l = py_hl H d tw p → c = py_hk H d tw p → py_hf H d r p cr tw l c B = py_hu H d r p tw B
  | 0, p, cr, tw, l, c, B, hp, hcr, hle, hl, hc => by
    have e : p = H 12 := by omega
    subst e
    show py_wg B l c tw = (if py_room H tw = true then _ else B)
    rw [if_pos, hl, hc]
    refine (py_all_iff _ _).mpr (fun k hk => decide_eq_true ?_)
    rw [← hcr k hk]
    exact hle k hk
  | r + 1, p, cr, tw, l, c, B, hp, hcr, hle, hl, hc => by
    refine py_lp_cong (fun w hw B => ?_)
    have ec : ∀ k, py_cn (fun q => decide (va_up tw p w q = k)) p = py_cn (fun q => decide (tw q = k)) p := fun k => py_cn_cong (fun j hj => by rw [py_vu_o (by omega)])
    have es : ∀ k, py_cn (fun q => decide (va_up tw p w q = k)) (p + 1) = py_cn (fun q => decide (tw q = k)) p + (if w = k then 1 else 0) := fun k => by
      show py_cn _ p + (if decide (va_up tw p w p = k) = true then 1 else 0) = _
      rw [ec, py_vu_s]
      congr 1
      by_cases h : w = k
      · rw [if_pos (decide_eq_true h), if_pos h]
      · rw [if_neg (by simpa using h), if_neg h]
    by_cases hr : cr w < H 0
    · rw [if_pos hr]
      refine py_hf_hu r (p + 1) _ _ _ _ B (by omega) (fun k hk => ?_) (fun k hk => ?_) ?_ ?_
      · rw [es]
        by_cases h : k = w
        · subst h; rw [py_vu_s, hcr k hk, if_pos rfl]
        · rw [py_vu_o h, hcr k hk, if_neg (fun z => h z.symm), Nat.add_zero]
      · by_cases h : k = w
        · subst h; rw [py_vu_s]; omega
        · rw [py_vu_o h]; exact hle k hk
      · show _ = py_cn (fun q => decide (0 < py_lw H d q (va_up tw p w q))) p + (if decide (0 < py_lw H d p (va_up tw p w p)) = true then 1 else 0)
        rw [py_cn_cong (f := fun q => decide (0 < py_lw H d q (va_up tw p w q))) (g := fun q => decide (0 < py_lw H d q (tw q))) (fun j hj => by rw [py_vu_o (by omega)]), py_vu_s, hl]
        unfold py_hl
        congr 1
        by_cases h : 0 < py_lw H d p w
        · rw [if_pos h, if_pos (decide_eq_true h)]
        · rw [if_neg h, if_neg (by simpa using h)]
      · show _ = py_sm (fun q => py_lw H d q (va_up tw p w q)) p + py_lw H d p (va_up tw p w p)
        rw [py_sm_cong (f := fun q => py_lw H d q (va_up tw p w q)) (g := fun q => py_lw H d q (tw q)) (fun j hj => by rw [py_vu_o (by omega)]), py_vu_s, hc]
        rfl
    · rw [if_neg hr]
      symm
      refine py_hu_no hw r (p + 1) _ B (by omega) ?_
      rw [es, if_pos rfl, ← hcr w hw]
      omega
theorem py_hz_hu {H : Nat → Nat} (d : Nat) : py_hz H d = py_hu H d (H 12) 0 (fun _ => 0) none :=
  py_hf_hu (H 12) 0 _ _ 0 0 none (by omega) (fun _ _ => rfl) (fun _ _ => Nat.zero_le _) rfl rfl
/-- the house hung so, as far as the first i pictures -/
def py_hw (H : Nat → Nat) (tw : Nat → Nat) (i : Nat) : Nat → Nat := fun j => if 16 ≤ j ∧ (j - 16) % 4 = 0 ∧ (j - 16) / 4 < i then tw ((j - 16) / 4) else H j
theorem py_hw_0 (H tw : Nat → Nat) : py_hw H tw 0 = H := by
  funext j
  unfold py_hw
  rw [if_neg (by omega)]
theorem py_hw_l {H tw : Nat → Nat} {i p : Nat} (hp : p < i) : py_hw H tw i (16 + 4 * p) = tw p := by
  unfold py_hw
  rw [if_pos ⟨by omega, by omega, by omega⟩, show (16 + 4 * p - 16) / 4 = p by omega]
theorem py_hw_o {H tw : Nat → Nat} {i j : Nat} (h : ∀ p, j ≠ 16 + 4 * p) : py_hw H tw i j = H j := by
  unfold py_hw
  rw [if_neg]
  rintro ⟨a, b, c⟩
  exact h ((j - 16) / 4) (by omega)
theorem py_hw_s (H tw : Nat → Nat) (i : Nat) : (fun j => if j = 16 + 4 * i then tw i else py_hw H tw i j) = py_hw H tw (i + 1) := by
  funext j
  by_cases hj : j = 16 + 4 * i
  · rw [if_pos hj, hj, py_hw_l (by omega)]
  · rw [if_neg hj]
    unfold py_hw
    by_cases h : 16 ≤ j ∧ (j - 16) % 4 = 0 ∧ (j - 16) / 4 < i
    · rw [if_pos h, if_pos ⟨h.1, h.2.1, by omega⟩]
    · rw [if_neg h, if_neg]
      rintro ⟨a, b, c⟩
      exact h ⟨a, b, by omega⟩
theorem py_hw_wm {H tw : Nat → Nat} (h : py_wm H) (hv : ∀ q, q < H 12 → tw q < H 3) : py_wm (py_hw H tw (H 12)) := by
  obtain ⟨w12, w3, w2, wW, wP⟩ := h
  have e12 : py_hw H tw (H 12) 12 = H 12 := py_hw_o (fun p => by omega)
  have e3 : py_hw H tw (H 12) 3 = H 3 := py_hw_o (fun p => by omega)
  have e2 : py_hw H tw (H 12) 2 = H 2 := py_hw_o (fun p => by omega)
  unfold py_wm
  rw [e12, e3, e2]
  refine ⟨w12, w3, w2, fun k hk => ?_, fun p hp => ?_⟩
  · rw [py_hw_o (j := 4 + 2 * k) (fun p => by omega), py_hw_o (j := 5 + 2 * k) (fun p => by omega)]
    exact wW k hk
  · have z := wP p hp
    rw [py_hw_o (j := 13 + 4 * p) (fun q => by omega), py_hw_o (j := 14 + 4 * p) (fun q => by omega), py_hw_o (j := 15 + 4 * p) (fun q => by omega), py_hw_l hp]
    exact ⟨z.1, z.2.1, z.2.2.1, z.2.2.2.1, hv p hp⟩
theorem py_hw_lw {H tw : Nat → Nat} (h : py_wm H) (hv : ∀ q, q < H 12 → tw q < H 3) {p : Nat} (hp : p < H 12) (d : Nat) : py_age (py_hw H tw (H 12)) d (15 + 4 * p) = py_lw H d p (tw p) := by
  have e12 : py_hw H tw (H 12) 12 = H 12 := py_hw_o (fun p => by omega)
  have h3 := h.2.1
  have z := hv p hp
  rw [py_age_l _ d (by rw [e12]; exact hp)]
  unfold py_fn py_lw
  rw [py_hw_l hp, py_hw_o (j := 13 + 4 * p) (fun q => by omega), py_hw_o (j := 14 + 4 * p) (fun q => by omega), py_hw_o (j := 15 + 4 * p) (fun q => by omega), py_hw_o (j := 4 + 2 * tw p) (fun q => by omega), py_hw_o (j := 5 + 2 * tw p) (fun q => by omega), py_hw_o (j := 2) (fun q => by omega)]
theorem py_hw_hl {H tw : Nat → Nat} (h : py_wm H) (hv : ∀ q, q < H 12 → tw q < H 3) (d : Nat) : py_pc (py_lvH (py_age (py_hw H tw (H 12)) d)) = py_hl H d tw (H 12) := by
  have e12 : py_hw H tw (H 12) 12 = H 12 := py_hw_o (fun p => by omega)
  unfold py_lvH
  rw [py_age_12, e12, py_pc_bs _ h.1]
  exact py_cn_cong (fun p hp => by rw [py_hw_lw h hv hp])
theorem py_hw_hk {H tw : Nat → Nat} (h : py_wm H) (hv : ∀ q, q < H 12 → tw q < H 3) (d : Nat) : py_sm (fun p => py_age (py_hw H tw (H 12)) d (15 + 4 * p)) (py_age (py_hw H tw (H 12)) d 12) = py_hk H d tw (H 12) := by
  have e12 : py_hw H tw (H 12) 12 = H 12 := py_hw_o (fun p => by omega)
  rw [py_age_12, e12]
  exact py_sm_cong (fun p hp => by rw [py_hw_lw h hv hp])
theorem py_hw_ct {H tw : Nat → Nat} (k : Nat) : py_cn (fun p => decide (py_hw H tw (H 12) (16 + 4 * p) = k)) (H 12) = py_cn (fun p => decide (tw p = k)) (H 12) := py_cn_cong (fun p hp => by rw [py_hw_l hp])
theorem py_hk_le {H : Nat → Nat} (hw : py_wf H) (d : Nat) (tw : Nat → Nat) : py_hk H d tw (H 12) ≤ 300 := by
  have h := py_sm_le (f := fun p => py_lw H d p (tw p)) (c := 60) (n := H 12) (fun p hp => py_lw_le hw hp)
  have h2 := hw.2.2.2.2.1
  unfold py_hk
  omega
theorem py_hl_le {H : Nat → Nat} (hw : py_wf H) (d : Nat) (tw : Nat → Nat) : py_hl H d tw (H 12) ≤ 5 := Nat.le_trans (py_cn_le _ _) hw.2.2.2.2.1
