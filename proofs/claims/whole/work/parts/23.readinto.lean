/-! contracts: a house read; hanging -/
theorem py_pws_v {B : Nat → Nat} {N : Nat} (hN : N ≤ 100) : ∀ (f w a0 : Nat) (H0 : Nat → Nat), py_rd H0 → H0 12 = 0 → H0 3 = w → a0 ≤ N → (0 < f ∨ 1 ≤ w) → ∀ {a : Nat} {H : Nat → Nat}, py_pws B N f w a0 H0 = .inr (a, H) → a ≤ N ∧ py_rd H ∧ 1 ≤ H 3 ∧ H 12 = 0
  | 0, w, a0, H0, hr, h12, h3, ha, hf, a, H, h => by
    have h2 : (.inr (a0, H0) : py_Re (Nat → Nat)) = .inr (a, H) := h
    injection h2 with h2
    injection h2 with e1 e2
    subst e1; subst e2
    exact ⟨ha, hr, by omega, h12⟩
  | f + 1, w, a0, H0, hr, h12, h3, ha, hf, a, H, h => by
    have h2 : (if w = 0 ∨ (a0 < N ∧ B a0 = 119) then py_bi (py_pwall B N a0 H0) (fun a H => py_pws B N f (w + 1) a H) else .inr (a0, H0)) = .inr (a, H) := h
    by_cases hc : w = 0 ∨ (a0 < N ∧ B a0 = 119)
    · rw [if_pos hc] at h2
      obtain ⟨a1, H1, h1, h2⟩ := py_bi_r h2
      have z := py_pwall_v hN hr h12 h1
      exact py_pws_v hN f (w + 1) a1 H1 z.2.1 z.2.2.2 (by omega) z.1 (Or.inr (by omega)) h2
    · rw [if_neg hc] at h2
      injection h2 with h2
      injection h2 with e1 e2
      subst e1; subst e2
      exact ⟨ha, hr, by omega, h12⟩
theorem py_pps_v {B : Nat → Nat} {N : Nat} (hN : N ≤ 100) : ∀ (f a0 : Nat) (H0 : Nat → Nat), py_rd H0 → 1 ≤ H0 3 → a0 ≤ N → ∀ {a : Nat} {H : Nat → Nat}, py_pps B N f a0 H0 = .inr (a, H) → a ≤ N ∧ py_rd H ∧ 1 ≤ H 3
  | 0, a0, H0, hr, h3, ha, a, H, h => by
    have h2 : (.inr (a0, H0) : py_Re (Nat → Nat)) = .inr (a, H) := h
    injection h2 with h2
    injection h2 with e1 e2
    subst e1; subst e2
    exact ⟨ha, hr, h3⟩
  | f + 1, a0, H0, hr, h3, ha, a, H, h => by
    have h2 : (if a0 < N then py_bi (py_ppic B N a0 H0) (fun a H => py_pps B N f a H) else .inr (a0, H0)) = .inr (a, H) := h
    by_cases hc : a0 < N
    · rw [if_pos hc] at h2
      obtain ⟨a1, H1, h1, h2⟩ := py_bi_r h2
      have z := py_ppic_v hN hr h3 h1
      exact py_pps_v hN f a1 H1 z.2.1 (by omega) z.1 h2
    · rw [if_neg hc] at h2
      injection h2 with h2
      injection h2 with e1 e2
      subst e1; subst e2
      exact ⟨ha, hr, h3⟩
theorem py_rd_wf {H : Nat → Nat} (hr : py_rd H) (h3 : 1 ≤ H 3) : py_wf H ∧ 0 < H 0 := by
  obtain ⟨r0, r0b, r1, r2, r3, r12, rw1, rp, rr⟩ := hr
  exact ⟨⟨r0b, r1, by omega, r3, r12, fun _ => h3, fun z => by omega, rw1, rp, rr⟩, r0⟩
theorem py_read_v {B : Nat → Nat} {N a : Nat} {H : Nat → Nat} (hN : N ≤ 100) (h : py_read B N = .inr (a, H)) : py_wf H ∧ 0 < H 0 := by
  unfold py_read at h
  obtain ⟨a1, H1, h1, h⟩ := py_bi_r h
  obtain ⟨a2, H2, h2, h⟩ := py_bi_r h
  have z1 := py_plaw_v hN h1
  have z2 := py_pws_v hN 5 0 a1 H1 z1.2.1 z1.2.2.2 z1.2.2.1 z1.1 (Or.inl (by decide)) h2
  have z3 := py_pps_v hN 6 a2 H2 z2.2.1 z2.2.2.1 z2.1 h
  exact py_rd_wf z3.2.1 z3.2.2
set_option maxHeartbeats 4000000 in
set_option maxRecDepth 100000 in
theorem ev_readInto {X : py_X} {σ : py_H} {B : Nat → Nat} {N : Nat} (ht : py_tc σ B N) : py_Ev X 6 yX6_readInto cX6_readInto 2 (some .boolean) [.ref 5, .ref 14] σ (py_vs (some (.int (py_b (py_isok (py_read B N) = true)))) (fun s => py_ps s (py_read B N) ∧ (∀ a9 H9, py_read B N = .inr (a9, H9) → py_hc s 14 H9) ∧ py_fr [14, 15, 16, 17, 18, 19, 20] [(5, 2), (5, 3), (5, 4)] σ s)) := by
  have hN := ht.2.1
  refine py_ofZ (own := RX6) YX6_readInto.2.2.2.2 rfl rfl (Nat.le_of_ble_eq_true rfl) py_b_ok ?_
  show py_Go X RX6 cX6_readInto 2 6 0 [some (.ref 5), some (.ref 14)] [] σ (py_vs (some (.int (py_b (py_isok (py_read B N) = true)))) (fun s => py_ps s (py_read B N) ∧ (∀ a9 H9, py_read B N = .inr (a9, H9) → py_hc s 14 H9) ∧ py_fr [14, 15, 16, 17, 18, 19, 20] [(5, 2), (5, 3), (5, 4)] σ s))
  refine go_aload_n (pc := 0) dX6_readInto_0 rfl ?_
  refine go_iconst (v := nI 0) (pc := 1) dX6_readInto_1 (by decide) ?_
  refine go_putI (pc := 2) dX6_readInto_2 fX6_19 rfl rfl ?_
  refine go_aload_n (pc := 5) dX6_readInto_5 rfl ?_
  have f0 := (py_fr.rf [14, 15, 16, 17, 18, 19, 20] [(5, 2), (5, 3), (5, 4)] σ).ut (k := 5) (j := 2) (by decide) (nI 0)
  refine go_cVv (pc := 6) dX6_readInto_6 ev_clear lX6_22 YX2_clear VX2_clear rfl rfl rfl (by decide) rfl (Nat.le_of_ble_eq_true rfl) (fun s1 e1 => ?_)
  have hs1 := f0.tr e1.2.2 (by decide) (by decide)
  have ht1 := py_tc_fr hs1 (by decide) (by decide) (by decide) (by decide) ht
  have hat1 : s1 5 2 = nI 0 := by rw [e1.2.2 5 2 (by decide) (by decide)]; exact py_up_s _ _ _ _
  refine go_aload_n (pc := 9) dX6_readInto_9 rfl ?_
  refine go_aload_n (pc := 10) dX6_readInto_10 rfl ?_
  refine go_cVi (pc := 11) dX6_readInto_11 (ev_readLaw ht1 hat1 e1.2.1) lX6_27 YX6_readLaw VX6_readLaw rfl rfl rfl (by decide) rfl (Nat.le_of_ble_eq_true rfl) (fun s2 e2 => ?_)
  have hs2 := hs1.tr e2.2.2 (by decide) (by decide)
  refine go_if_eqB (tgt := 33) (pc := 14) dX6_readInto_14 (by decide) (fun c_14 => ?_) (fun c_14 => ?_)
  · obtain ⟨p9, k9, hr2⟩ := py_ok_f c_14
    have hR : py_read B N = .inl (p9, k9) := by simp only [py_read, hr2, py_bi]
    have hp9 : s2 5 4 = nI p9 ∧ s2 5 3 = nI k9 := by have y := e2.1; rw [hr2] at y; exact y
    refine go_iconst (v := nI 0) (pc := 33) dX6_readInto_33 (by decide) ?_
    exact go_retI (pc := 34) dX6_readInto_34 (by rw [hR]; rfl) ⟨by rw [hR]; exact hp9, (fun a H q => by rw [hR] at q; cases q), hs2⟩
  · obtain ⟨a2, H2, hr2⟩ := py_ok_t c_14
    have z2 := py_plaw_v hN hr2
    have ht2 := py_tc_fr hs2 (by decide) (by decide) (by decide) (by decide) ht
    have hat2 : s2 5 2 = nI a2 := by have y := e2.1; rw [hr2] at y; exact y
    have hd2 := e2.2.1 a2 H2 hr2
    refine go_aload_n (pc := 17) dX6_readInto_17 rfl ?_
    refine go_aload_n (pc := 18) dX6_readInto_18 rfl ?_
    refine go_cVi (pc := 19) dX6_readInto_19 (ev_readWalls ht2 hat2 z2.1 hd2 z2.2.1 z2.2.2.1 z2.2.2.2) lX6_31 YX6_readWalls VX6_readWalls rfl rfl rfl (by decide) rfl (Nat.le_of_ble_eq_true rfl) (fun s3 e3 => ?_)
    have hs3 := hs2.tr e3.2.2 (by decide) (by decide)
    refine go_if_eqB (tgt := 33) (pc := 22) dX6_readInto_22 (by decide) (fun c_22 => ?_) (fun c_22 => ?_)
    · obtain ⟨p9, k9, hr3⟩ := py_ok_f c_22
      have hR : py_read B N = .inl (p9, k9) := by simp only [py_read, hr2, hr3, py_bi]
      have hp9 : s3 5 4 = nI p9 ∧ s3 5 3 = nI k9 := by have y := e3.1; rw [hr3] at y; exact y
      refine go_iconst (v := nI 0) (pc := 33) dX6_readInto_33 (by decide) ?_
      exact go_retI (pc := 34) dX6_readInto_34 (by rw [hR]; rfl) ⟨by rw [hR]; exact hp9, (fun a H q => by rw [hR] at q; cases q), hs3⟩
    · obtain ⟨a3, H3, hr3⟩ := py_ok_t c_22
      have z3 := py_pws_v hN 5 0 a2 H2 z2.2.1 z2.2.2.2 z2.2.2.1 z2.1 (Or.inl (by decide)) hr3
      have ht3 := py_tc_fr hs3 (by decide) (by decide) (by decide) (by decide) ht
      have hat3 : s3 5 2 = nI a3 := by have y := e3.1; rw [hr3] at y; exact y
      have hd3 := e3.2.1 a3 H3 hr3
      refine go_aload_n (pc := 25) dX6_readInto_25 rfl ?_
      refine go_aload_n (pc := 26) dX6_readInto_26 rfl ?_
      refine go_cVi (pc := 27) dX6_readInto_27 (ev_readPictures ht3 hat3 z3.1 hd3 z3.2.1 z3.2.2.1 z3.2.2.2) lX6_34 YX6_readPictures VX6_readPictures rfl rfl rfl (by decide) rfl (Nat.le_of_ble_eq_true rfl) (fun s4 e4 => ?_)
      have hs4 := hs3.tr e4.2.2 (by decide) (by decide)
      refine go_if_neB (tgt := 35) (pc := 30) dX6_readInto_30 (by decide) (fun c_30 => ?_) (fun c_30 => ?_)
      · obtain ⟨a4, H4, hr4⟩ := py_ok_t c_30
        have z4 := py_pps_v hN 6 a3 H3 z3.2.1 z3.2.2.1 z3.1 hr4
        have hat4 : s4 5 2 = nI a4 := by have y := e4.1; rw [hr4] at y; exact y
        have hd4 := e4.2.1 a4 H4 hr4
        refine go_aload_n (pc := 35) dX6_readInto_35 rfl ?_
        refine go_iconst (v := nI 1) (pc := 36) dX6_readInto_36 (by decide) ?_
        refine go_putZ (pc := 37) dX6_readInto_37 fX6_37 rfl rfl (Or.inr (by decide)) ?_
        refine go_iconst (v := nI 1) (pc := 40) dX6_readInto_40 (by decide) ?_
        have hR : py_read B N = .inr (a4, H4) := by simp only [py_read, hr2, hr3, hr4, py_bi]
        have hwf := py_rd_wf z4.2.1 z4.2.2
        refine go_retI (pc := 41) dX6_readInto_41 (by rw [hR]; rfl) ⟨by rw [hR]; show py_up s4 14 0 (nI 1) 5 2 = nI a4; rw [py_up_k _ _ _ (by decide)]; exact hat4, ?_, hs4.up (by decide) _⟩
        intro a9 H9 q
        rw [hR] at q
        injection q with q
        injection q with q1 q2
        subst q2
        refine ⟨by rw [py_up_s, py_b_t hwf.2], ?_⟩
        obtain ⟨c1, c2, c3, c4, c5, c6, c7⟩ := hd4
        refine ⟨?_, ?_, ?_, ?_, ?_, ?_, ?_⟩
        · rw [py_up_j _ _ _ (by decide)]; exact c1
        · rw [py_up_j _ _ _ (by decide)]; exact c2
        · rw [py_up_j _ _ _ (by decide)]; exact c3
        · rw [py_up_j _ _ _ (by decide)]; exact c4
        · rw [py_up_j _ _ _ (by decide)]; exact c5
        · rw [py_up_k _ _ _ (by decide), py_up_k _ _ _ (by decide)]; exact c6
        · rw [py_up_k _ _ _ (by decide), py_up_k _ _ _ (by decide), py_up_k _ _ _ (by decide), py_up_k _ _ _ (by decide)]; exact c7
      · obtain ⟨p9, k9, hr4⟩ := py_ok_f c_30
        have hR : py_read B N = .inl (p9, k9) := by simp only [py_read, hr2, hr3, hr4, py_bi]
        have hp9 : s4 5 4 = nI p9 ∧ s4 5 3 = nI k9 := by have y := e4.1; rw [hr4] at y; exact y
        refine go_iconst (v := nI 0) (pc := 33) dX6_readInto_33 (by decide) ?_
        exact go_retI (pc := 34) dX6_readInto_34 (by rw [hR]; rfl) ⟨by rw [hR]; exact hp9, (fun a H q => by rw [hR] at q; cases q), hs4⟩
set_option maxHeartbeats 4000000 in
set_option maxRecDepth 100000 in
theorem ev_add {X : py_X} {σ : py_H} {B : Nat → Nat} {N : Nat} (ht : py_tc σ B N) {c : Nat} : py_Ev X 0 yX6_add cX6_add 2 (some .boolean) [.ref 5, .int (nI c)] σ (py_vs (some (.int (py_b (N < 100)))) (fun s => (N < 100 → s = py_up (py_up σ 6 N (nI c)) 5 1 (nI (N + 1))) ∧ (¬ N < 100 → s = σ))) := by
  have hN := ht.2.1
  refine py_ofZ (own := RX6) YX6_add.2.2.2.2 rfl rfl (Nat.le_of_ble_eq_true rfl) py_b_ok ?_
  show py_Go X RX6 cX6_add 2 0 0 [some (.ref 5), some (.int (nI c))] [] σ (py_vs (some (.int (py_b (N < 100)))) (fun s => (N < 100 → s = py_up (py_up σ 6 N (nI c)) 5 1 (nI (N + 1))) ∧ (¬ N < 100 → s = σ)))
  refine go_aload_n (pc := 0) dX6_add_0 rfl ?_
  refine go_getI (x := (nI N)) (pc := 1) dX6_add_1 fX6_15 rfl rfl ht.1 ?_
  refine go_bipush (v := nI 100) (pc := 4) dX6_add_4 (by decide) ?_
  refine go_icmp_ltN (tgt := 11) (pc := 6) dX6_add_6 (by omega) (by omega) (by decide) (fun c_6 => ?_) (fun c_6 => ?_)
  · refine go_aload_n (pc := 11) dX6_add_11 rfl ?_
    refine go_getR (pc := 12) dX6_add_12 fX6_11 rfl rfl ?_
    refine go_aload_n (pc := 15) dX6_add_15 rfl ?_
    refine go_getI (x := (nI N)) (pc := 16) dX6_add_16 fX6_15 rfl rfl ht.1 ?_
    refine go_iload_n (pc := 19) dX6_add_19 rfl ?_
    refine go_astN (pc := 20) dX6_add_20 rfl (by show N < 100; omega) ?_
    refine go_aload_n (pc := 21) dX6_add_21 rfl ?_
    refine go_dup (pc := 22) dX6_add_22 rfl ?_
    refine go_getI (x := (nI N)) (pc := 23) dX6_add_23 fX6_15 rfl rfl (by rw [py_up_k _ _ _ (by decide)]; exact ht.1) ?_
    refine go_iconst (v := nI 1) (pc := 26) dX6_add_26 (by decide) ?_
    refine go_iaddN (pc := 27) dX6_add_27  ?_
    refine go_putI (pc := 28) dX6_add_28 fX6_15 rfl rfl ?_
    refine go_iconst (v := nI 1) (pc := 31) dX6_add_31 (by decide) ?_
    exact go_retI (pc := 32) dX6_add_32 (py_b_t (by omega)).symm ⟨fun _ => rfl, fun z => absurd z (by omega)⟩
  · refine go_iconst (v := nI 0) (pc := 9) dX6_add_9 (by decide) ?_
    exact go_retI (pc := 10) dX6_add_10 (py_b_f (by omega)).symm ⟨fun z => absurd z (by omega), fun _ => rfl⟩
set_option maxHeartbeats 4000000 in
set_option maxRecDepth 100000 in
theorem ev_clearT {X : py_X} {σ : py_H} : py_Ev X 0 yX6_clear cX6_clear 1 none [.ref 5] σ (py_vs none (fun s => s = (py_up σ 5 1 (nI 0)))) := by
  refine py_ofV (own := RX6) YX6_clear.2.2.2.2 rfl rfl (Nat.le_of_ble_eq_true rfl)  ?_
  show py_Go X RX6 cX6_clear 1 0 0 [some (.ref 5)] [] σ (py_vs none (fun s => s = (py_up σ 5 1 (nI 0))))
  refine go_aload_n (pc := 0) dX6_clear_0 rfl ?_
  refine go_iconst (v := nI 0) (pc := 1) dX6_clear_1 (by decide) ?_
  refine go_putI (pc := 2) dX6_clear_2 fX6_15 rfl rfl ?_
  exact go_retV (pc := 5) dX6_clear_5 rfl
