/-! contracts: the reference's acts, asks -/
def py_sh (f : Nat → Int32) (i : Nat) : Nat → Int32 := fun j => if j < i then f (j + 33) else f j
theorem py_sh_0 (f : Nat → Int32) : py_sh f 0 = f := by funext j; unfold py_sh; rw [if_neg (by omega)]
theorem py_sh_s (f : Nat → Int32) (i : Nat) : upd (py_sh f i) i (py_sh f i (i + 33)) = py_sh f (i + 1) := by
  funext j
  by_cases h : j = i
  · subst h; rw [pk_us]; unfold py_sh; rw [if_neg (by omega), if_pos (by omega)]
  · rw [pk_un h]; unfold py_sh
    by_cases h2 : j < i
    · rw [if_pos h2, if_pos (by omega)]
    · rw [if_neg h2, if_neg (by omega)]
set_option maxHeartbeats 4000000 in
set_option maxRecDepth 100000 in
theorem ev_notes24 {X : py_X} {σ : py_H} (h6 : σ 47 17 = nI 24) : py_Ev X 1 yX8_notes cX8_notes 2 none [.ref 47] σ (py_vs none (fun s => s 47 17 = nI 24 ∧ (∀ i, i < 23 → ∀ x, x < 33 → s 56 (33 * i + x) = σ 56 (33 * (i + 1) + x)) ∧ (∀ x, x < 33 → s 56 (33 * 23 + x) = σ 53 x) ∧ py_fr [56] [(47, 17)] σ s)) := by
  refine py_ofV (own := RX8) YX8_notes.2.2.2.2 rfl rfl (Nat.le_of_ble_eq_true rfl)  ?_
  show py_Go X RX8 cX8_notes 2 1 0 [some (.ref 47), none] [] σ (py_vs none (fun s => s 47 17 = nI 24 ∧ (∀ i, i < 23 → ∀ x, x < 33 → s 56 (33 * i + x) = σ 56 (33 * (i + 1) + x)) ∧ (∀ x, x < 33 → s 56 (33 * 23 + x) = σ 53 x) ∧ py_fr [56] [(47, 17)] σ s))
  have loop : ∀ i, i ≤ 759 → py_Go X RX8 cX8_notes 2 1 11 [some (.ref 47), some (.int (nI i))] [] (py_row σ 56 (py_sh (σ 56) (i))) (py_vs none (fun s => s 47 17 = nI 24 ∧ (∀ i, i < 23 → ∀ x, x < 33 → s 56 (33 * i + x) = σ 56 (33 * (i + 1) + x)) ∧ (∀ x, x < 33 → s 56 (33 * 23 + x) = σ 53 x) ∧ py_fr [56] [(47, 17)] σ s)) := by
    refine py_loop _ 759 (fun i hi ih => ?_)
    refine go_iload_n (pc := 11) dX8_notes_11 rfl ?_
    refine go_sipush (v := nI 759) (pc := 12) dX8_notes_12 (by decide) ?_
    refine go_icmp_geN (tgt := 39) (pc := 15) dX8_notes_15 (by omega) (by omega) (by decide) (fun c_15 => ?_) (fun c_15 => ?_)
    · refine go_aload_n (pc := 39) dX8_notes_39 rfl ?_
      refine go_dup (pc := 40) dX8_notes_40 rfl ?_
      refine go_getI (x := (nI 24)) (pc := 41) dX8_notes_41 fX8_152 rfl rfl (by rw [py_row_ne _ _ (by decide)]; exact h6) ?_
      refine go_iconst (v := nI 1) (pc := 44) dX8_notes_44 (by decide) ?_
      refine go_isubN (pc := 45) dX8_notes_45 (by omega) ?_
      refine go_top (y := nI 23) (by decide) ?_
      refine go_putI (pc := 46) dX8_notes_46 fX8_152 rfl rfl ?_
      refine go_aload_n (pc := 49) dX8_notes_49 rfl ?_
      refine go_getR (pc := 50) dX8_notes_50 fX8_25 rfl rfl ?_
      refine go_iconst (v := nI 0) (pc := 53) dX8_notes_53 (by decide) ?_
      refine go_aload_n (pc := 54) dX8_notes_54 rfl ?_
      refine go_getR (pc := 55) dX8_notes_55 fX8_34 rfl rfl ?_
      refine go_bipush (v := nI 33) (pc := 58) dX8_notes_58 (by decide) ?_
      refine go_aload_n (pc := 60) dX8_notes_60 rfl ?_
      refine go_getI (x := (nI 23)) (pc := 61) dX8_notes_61 fX8_152 rfl rfl (py_up_s _ _ _ _) ?_
      refine go_imulN (pc := 64) dX8_notes_64  ?_
      refine go_cSv (pc := 65) dX8_notes_65 (ev_copies_53_56 (a := 23) (by decide)) lX8_148 YX8_copies SX8_copies rfl (by decide) rfl (Nat.le_of_ble_eq_true rfl) (fun s1 e1 => ?_)
      refine go_aload_n (pc := 68) dX8_notes_68 rfl ?_
      refine go_dup (pc := 69) dX8_notes_69 rfl ?_
      refine go_getI (x := (nI 23)) (pc := 70) dX8_notes_70 fX8_152 rfl rfl (by rw [e1, py_row_ne _ _ (by decide)]; exact py_up_s _ _ _ _) ?_
      refine go_iconst (v := nI 1) (pc := 73) dX8_notes_73 (by decide) ?_
      refine go_iaddN (pc := 74) dX8_notes_74  ?_
      refine go_putI (pc := 75) dX8_notes_75 fX8_152 rfl rfl ?_
      have hi9 : i = 759 := by omega
      subst hi9
      have hf : py_fr [56] [(47, 17)] σ (py_up s1 47 17 (nI (23 + 1))) := by rw [e1]; exact ((((py_fr.rf [56] [(47, 17)] σ).row (by decide) _).ut (by decide) _).row (by decide) _).ut (by decide) _
      refine go_retV (pc := 78) dX8_notes_78 ⟨py_up_s _ _ _ _, fun j hj => ?_, fun j hj => ?_, hf⟩
      · rw [py_up_k _ _ _ (by decide), e1, py_row_self]
        intro x hx
        rw [pk_cpy_out (by omega), py_up_k _ _ _ (by decide), py_row_self]
        unfold py_sh
        rw [if_pos (by omega), show 33 * j + x + 33 = 33 * (j + 1) + x by omega]
      · rw [py_up_k _ _ _ (by decide), e1, py_row_self, pk_cpy_in (by omega) (by omega), py_up_k _ _ _ (by decide), py_row_ne _ _ (by decide), show 0 + (33 * 23 + j - 33 * 23) = j by omega]
    · refine go_aload_n (pc := 18) dX8_notes_18 rfl ?_
      refine go_getR (pc := 19) dX8_notes_19 fX8_34 rfl rfl ?_
      refine go_iload_n (pc := 22) dX8_notes_22 rfl ?_
      refine go_aload_n (pc := 23) dX8_notes_23 rfl ?_
      refine go_getR (pc := 24) dX8_notes_24 fX8_34 rfl rfl ?_
      refine go_iload_n (pc := 27) dX8_notes_27 rfl ?_
      refine go_bipush (v := nI 33) (pc := 28) dX8_notes_28 (by decide) ?_
      refine go_iaddN (pc := 30) dX8_notes_30  ?_
      refine go_aldN (x := (py_sh (σ 56) i (i + 33))) (pc := 31) dX8_notes_31 rfl (by show i + 33 < 792; omega) (by rw [py_row_self]) ?_
      refine go_astN (pc := 32) dX8_notes_32 rfl (by show i < 792; omega) ?_
      refine go_iincN (c := 1) (pc := 33) dX8_notes_33 rfl (by decide) (by decide) rfl ?_
      refine go_goto (tgt := 11) (pc := 36) dX8_notes_36 (by decide) ?_
      rw [py_up_row, py_sh_s]
      exact ih (by omega)
  refine go_aload_n (pc := 0) dX8_notes_0 rfl ?_
  refine go_getI (x := (nI 24)) (pc := 1) dX8_notes_1 fX8_152 rfl rfl h6 ?_
  refine go_bipush (v := nI 24) (pc := 4) dX8_notes_4 (by decide) ?_
  refine go_icmp_neN (tgt := 49) (pc := 6) dX8_notes_6 (by omega) (by omega) (by decide) (fun c_6 => ?_) (fun c_6 => ?_)
  · exact absurd rfl c_6
  · refine go_iconst (v := nI 0) (pc := 9) dX8_notes_9 (by decide) ?_
    refine go_istore_n (pc := 10) dX8_notes_10 (by decide) rfl ?_
    have e8 := loop 0 (by omega)
    rw [py_sh_0, py_row_id] at e8
    exact e8
set_option maxHeartbeats 4000000 in
set_option maxRecDepth 100000 in
theorem ev_notesL {X : py_X} {σ : py_H} {n : Nat} (hn : n < 24) (h6 : σ 47 17 = nI n) : py_Ev X 1 yX8_notes cX8_notes 2 none [.ref 47] σ (py_vs none (fun s => s 47 17 = nI (n + 1) ∧ (∀ i, i < n → ∀ x, x < 33 → s 56 (33 * i + x) = σ 56 (33 * i + x)) ∧ (∀ x, x < 33 → s 56 (33 * n + x) = σ 53 x) ∧ py_fr [56] [(47, 17)] σ s)) := by
  refine py_ofV (own := RX8) YX8_notes.2.2.2.2 rfl rfl (Nat.le_of_ble_eq_true rfl)  ?_
  show py_Go X RX8 cX8_notes 2 1 0 [some (.ref 47), none] [] σ (py_vs none (fun s => s 47 17 = nI (n + 1) ∧ (∀ i, i < n → ∀ x, x < 33 → s 56 (33 * i + x) = σ 56 (33 * i + x)) ∧ (∀ x, x < 33 → s 56 (33 * n + x) = σ 53 x) ∧ py_fr [56] [(47, 17)] σ s))
  refine go_aload_n (pc := 0) dX8_notes_0 rfl ?_
  refine go_getI (x := (nI n)) (pc := 1) dX8_notes_1 fX8_152 rfl rfl h6 ?_
  refine go_bipush (v := nI 24) (pc := 4) dX8_notes_4 (by decide) ?_
  refine go_icmp_neN (tgt := 49) (pc := 6) dX8_notes_6 (by omega) (by omega) (by decide) (fun c_6 => ?_) (fun c_6 => ?_)
  · refine go_aload_n (pc := 49) dX8_notes_49 rfl ?_
    refine go_getR (pc := 50) dX8_notes_50 fX8_25 rfl rfl ?_
    refine go_iconst (v := nI 0) (pc := 53) dX8_notes_53 (by decide) ?_
    refine go_aload_n (pc := 54) dX8_notes_54 rfl ?_
    refine go_getR (pc := 55) dX8_notes_55 fX8_34 rfl rfl ?_
    refine go_bipush (v := nI 33) (pc := 58) dX8_notes_58 (by decide) ?_
    refine go_aload_n (pc := 60) dX8_notes_60 rfl ?_
    refine go_getI (x := (nI n)) (pc := 61) dX8_notes_61 fX8_152 rfl rfl h6 ?_
    refine go_imulN (pc := 64) dX8_notes_64  ?_
    refine go_cSv (pc := 65) dX8_notes_65 (ev_copies_53_56 (a := n) hn) lX8_148 YX8_copies SX8_copies rfl (by decide) rfl (Nat.le_of_ble_eq_true rfl) (fun s1 e1 => ?_)
    refine go_aload_n (pc := 68) dX8_notes_68 rfl ?_
    refine go_dup (pc := 69) dX8_notes_69 rfl ?_
    refine go_getI (x := (nI n)) (pc := 70) dX8_notes_70 fX8_152 rfl rfl (by rw [e1, py_row_ne _ _ (by decide)]; exact h6) ?_
    refine go_iconst (v := nI 1) (pc := 73) dX8_notes_73 (by decide) ?_
    refine go_iaddN (pc := 74) dX8_notes_74  ?_
    refine go_putI (pc := 75) dX8_notes_75 fX8_152 rfl rfl ?_
    have hf : py_fr [56] [(47, 17)] σ (py_up s1 47 17 (nI (n + 1))) := by rw [e1]; exact ((py_fr.rf [56] [(47, 17)] σ).row (by decide) _).ut (by decide) _
    refine go_retV (pc := 78) dX8_notes_78 ⟨py_up_s _ _ _ _, fun j hj => ?_, fun j hj => ?_, hf⟩
    · rw [py_up_k _ _ _ (by decide), e1, py_row_self]
      intro x hx
      rw [pk_cpy_out (by omega)]
    · rw [py_up_k _ _ _ (by decide), e1, py_row_self, pk_cpy_in (by omega) (by omega), show 0 + (33 * n + j - 33 * n) = j by omega]
  · exact absurd c_6 (by omega)
theorem ev_notes {X : py_X} {σ : py_H} {H : Nat → Nat} {n : Nat} {As : Nat → Nat → Nat} (h5 : py_hm (σ 53) 0 H) (hn : n ≤ 24) (h6 : σ 47 17 = nI n ∧ ∀ i, i < n → py_hm (σ 56) (33 * i) (As i)) : py_Ev X 1 yX8_notes cX8_notes 2 none [.ref 47] σ (py_vs none (fun s => s 47 17 = nI (if n + 1 < 24 then n + 1 else 24) ∧ (∀ i, i < (if n + 1 < 24 then n + 1 else 24) → py_hm (s 56) (33 * i) (py_pa n As H i)) ∧ py_fr [56] [(47, 17)] σ s)) := by
  have h50 : ∀ x, x < 33 → σ 53 x = nI (H x) := fun x hx => by
    have z := h5 x hx
    rw [Nat.zero_add] at z
    exact z
  by_cases hlt : n < 24
  · have en : (if n + 1 < 24 then n + 1 else 24) = n + 1 := by split <;> omega
    refine py_Ev.post (fun r s h => ?_) (ev_notesL hlt h6.1)
    obtain ⟨hr, h17, ho, hw, hf⟩ := h
    refine ⟨hr, ?_⟩
    rw [en]
    refine ⟨h17, fun i hi x hx => ?_, hf⟩
    unfold py_pa
    rw [if_pos hlt]
    by_cases hin : i = n
    · rw [if_pos hin, hin, hw x hx]; exact h50 x hx
    · rw [if_neg hin, ho i (by omega) x hx]; exact h6.2 i (by omega) x hx
  · have en : (if n + 1 < 24 then n + 1 else 24) = 24 := by split <;> omega
    have h24 : n = 24 := by omega
    refine py_Ev.post (fun r s h => ?_) (ev_notes24 (by rw [← h24]; exact h6.1))
    obtain ⟨hr, h17, ho, hw, hf⟩ := h
    refine ⟨hr, ?_⟩
    rw [en]
    refine ⟨h17, fun i hi x hx => ?_, hf⟩
    unfold py_pa
    rw [if_neg hlt]
    by_cases hin : i = 23
    · rw [if_pos hin, hin, hw x hx]; exact h50 x hx
    · rw [if_neg hin, ho i (by omega) x hx]; exact h6.2 (i + 1) (by omega) x hx
