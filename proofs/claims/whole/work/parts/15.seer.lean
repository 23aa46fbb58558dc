/-! contracts: what is foretold -/
set_option maxHeartbeats 4000000 in
set_option maxRecDepth 100000 in
theorem ev_fadesNow {X : py_X} {σ : py_H} {H : Nat → Nat} (hc : py_hd σ 7 H) (hw : py_wf H) {x : Nat} (hx : x < H 12) : py_Ev X 4 yX5_fadesNow cX5_fadesNow 3 (some .int) [.ref 37, .ref 7, .int (nI x)] σ (py_vs (some (.int (nI (py_f1 H x)))) (fun s => py_fr [38] [] σ s)) := by
  refine py_ofI (own := RX5) YX5_fadesNow.2.2.2.2 rfl rfl (Nat.le_of_ble_eq_true rfl)  ?_
  show py_Go X RX5 cX5_fadesNow 3 4 0 [some (.ref 37), some (.ref 7), some (.int (nI x))] [] σ (py_vs (some (.int (nI (py_f1 H x)))) (fun s => py_fr [38] [] σ s))
  refine go_aload_n (pc := 0) dX5_fadesNow_0 rfl ?_
  refine go_getR (pc := 1) dX5_fadesNow_1 fX5_12 rfl rfl ?_
  refine go_aload_n (pc := 4) dX5_fadesNow_4 rfl ?_
  refine go_iload_n (pc := 5) dX5_fadesNow_5 rfl ?_
  refine go_cVv (pc := 6) dX5_fadesNow_6 (ev_takeFrom hc hw hx) lX5_53 YX3_takeFrom VX3_takeFrom rfl rfl rfl (by decide) rfl (Nat.le_of_ble_eq_true rfl) (fun s1 e1 => ?_)
  obtain ⟨e2, e3⟩ := e1
  have hq := hw.2.2.2.2.2.2.2.2.1 _ hx
  refine go_aload_n (pc := 9) dX5_fadesNow_9 rfl ?_
  refine go_getR (pc := 10) dX5_fadesNow_10 fX5_12 rfl rfl ?_
  refine go_iconst (v := nI 1) (pc := 13) dX5_fadesNow_13 (by decide) ?_
  refine go_cV (pc := 14) dX5_fadesNow_14 (ev_fadesIn (n := 1) e2 (py_bd_of hw hx) (by decide) hq.2.1) lX5_57 YX3_fadesIn VX3_fadesIn rfl rfl rfl (by decide) rfl (Nat.le_of_ble_eq_true rfl) ?_
  exact go_retI (pc := 17) dX5_fadesNow_17 (by rw [← py_fn_1 hw hx]; rfl) e3
set_option maxHeartbeats 4000000 in
set_option maxRecDepth 100000 in
theorem ev_cellsB {X : py_X} {σ : py_H} {H : Nat → Nat} (hc : py_hd σ 7 H) (hw : py_wf H) {x : Nat} (hx : x < H 12) {n : Nat} (hn : n ≤ 200) : py_Ev X 4 yX5_cellsBehind cX5_cellsBehind 4 (some .int) [.ref 37, .ref 7, .int (nI x), .int (nI n)] σ (py_vs (some (.int (nI (py_lf H x n)))) (fun s => py_fr [38] [] σ s)) := by
  refine py_ofI (own := RX5) YX5_cellsBehind.2.2.2.2 rfl rfl (Nat.le_of_ble_eq_true rfl)  ?_
  show py_Go X RX5 cX5_cellsBehind 4 4 0 [some (.ref 37), some (.ref 7), some (.int (nI x)), some (.int (nI n))] [] σ (py_vs (some (.int (nI (py_lf H x n)))) (fun s => py_fr [38] [] σ s))
  refine go_aload_n (pc := 0) dX5_cellsBehind_0 rfl ?_
  refine go_getR (pc := 1) dX5_cellsBehind_1 fX5_12 rfl rfl ?_
  refine go_aload_n (pc := 4) dX5_cellsBehind_4 rfl ?_
  refine go_iload_n (pc := 5) dX5_cellsBehind_5 rfl ?_
  refine go_cVv (pc := 6) dX5_cellsBehind_6 (ev_takeFrom hc hw hx) lX5_53 YX3_takeFrom VX3_takeFrom rfl rfl rfl (by decide) rfl (Nat.le_of_ble_eq_true rfl) (fun s1 e1 => ?_)
  obtain ⟨e2, e3⟩ := e1
  have hq := hw.2.2.2.2.2.2.2.2.1 _ hx
  refine go_aload_n (pc := 9) dX5_cellsBehind_9 rfl ?_
  refine go_getR (pc := 10) dX5_cellsBehind_10 fX5_12 rfl rfl ?_
  refine go_iload_n (pc := 13) dX5_cellsBehind_13 rfl ?_
  refine go_cV (pc := 14) dX5_cellsBehind_14 (ev_cellsBehind e2 (py_bd_of hw hx) hn hq.2.1 hq.2.2.2.2.1) lX5_61 YX3_cellsBehind VX3_cellsBehind rfl rfl rfl (by decide) rfl (Nat.le_of_ble_eq_true rfl) ?_
  exact go_retI (pc := 17) dX5_cellsBehind_17 rfl e3
set_option maxHeartbeats 4000000 in
set_option maxRecDepth 100000 in
theorem ev_livingB {X : py_X} {σ : py_H} {H : Nat → Nat} (hc : py_hd σ 7 H) (hw : py_wf H) {n : Nat} (hn : n ≤ 200) : py_Ev X 5 yX5_livingBehind cX5_livingBehind 5 (some .int) [.ref 37, .ref 7, .int (nI n)] σ (py_vs (some (.int (nI (py_bs (fun p => decide (0 < py_lf H p n)) (H 12))))) (fun s => py_fr [38] [] σ s)) := by
  obtain ⟨w0, w1, w2, w3, w12, w03, w00, wW, wP, wR⟩ := id hw
  refine py_ofI (own := RX5) YX5_livingBehind.2.2.2.2 rfl rfl (Nat.le_of_ble_eq_true rfl)  ?_
  show py_Go X RX5 cX5_livingBehind 5 5 0 [some (.ref 37), some (.ref 7), some (.int (nI n)), none, none] [] σ (py_vs (some (.int (nI (py_bs (fun p => decide (0 < py_lf H p n)) (H 12))))) (fun s => py_fr [38] [] σ s))
  have loop : ∀ i, i ≤ H 12 → ∀ s, py_fr [38] [] σ s → py_Go X RX5 cX5_livingBehind 5 5 5 [some (.ref 37), some (.ref 7), some (.int (nI n)), some (.int (nI (py_bs (fun p => decide (0 < py_lf H p n)) i))), some (.int (nI i))] [] s (py_vs (some (.int (nI (py_bs (fun p => decide (0 < py_lf H p n)) (H 12))))) (fun s => py_fr [38] [] σ s)) := by
    refine py_loop _ (H 12) (fun i hi ih s hs => ?_)
    have hcs := py_hd_fr hs (by decide) (by decide) hc
    refine go_iload (pc := 5) dX5_livingBehind_5 rfl ?_
    refine go_aload_n (pc := 7) dX5_livingBehind_7 rfl ?_
    refine go_getI (x := (nI (H 12))) (pc := 8) dX5_livingBehind_8 fX5_37 rfl rfl hcs.2.2.2.2.1 ?_
    refine go_icmp_geN (tgt := 38) (pc := 11) dX5_livingBehind_11 (by omega) (by omega) (by decide) (fun c_11 => ?_) (fun c_11 => ?_)
    · refine go_iload_n (pc := 38) dX5_livingBehind_38 rfl ?_
      exact go_retI (pc := 39) dX5_livingBehind_39 (by rw [show i = H 12 by omega]) hs
    · refine go_aload_n (pc := 14) dX5_livingBehind_14 rfl ?_
      refine go_aload_n (pc := 15) dX5_livingBehind_15 rfl ?_
      refine go_iload (pc := 16) dX5_livingBehind_16 rfl ?_
      refine go_iload_n (pc := 18) dX5_livingBehind_18 rfl ?_
      refine go_cVi (pc := 19) dX5_livingBehind_19 (ev_cellsB hcs hw c_11 hn) lX5_46 YX5_cellsBehind VX5_cellsBehind rfl rfl rfl (by decide) rfl (Nat.le_of_ble_eq_true rfl) (fun s1 e1 => ?_)
      have hs1 := hs.tr e1 (by decide) (by decide)
      have hlf : py_lf H i n ≤ 60 := Nat.le_trans (Nat.sub_le _ _) (wP i c_11).2.2.2.2.1
      refine go_if_leN (tgt := 32) (pc := 22) dX5_livingBehind_22 (by omega) (by decide) (fun c_22 => ?_) (fun c_22 => ?_)
      · refine go_iincN (c := 1) (pc := 32) dX5_livingBehind_32 rfl (by decide) (by decide) rfl ?_
        refine go_goto (tgt := 5) (pc := 35) dX5_livingBehind_35 (by decide) ?_
        have e8 := ih c_11 s1 hs1
        rw [← py_bs_f (f := (fun p => decide (0 < py_lf H p n))) (p := i) (decide_eq_false (by omega))] at e8
        exact e8
      · refine go_iload_n (pc := 25) dX5_livingBehind_25 rfl ?_
        refine go_iconst (v := nI 1) (pc := 26) dX5_livingBehind_26 (by decide) ?_
        refine go_iload (pc := 27) dX5_livingBehind_27 rfl ?_
        refine go_ishl (pc := 29) dX5_livingBehind_29 ?_
        refine go_ior (pc := 30) dX5_livingBehind_30 ?_
        refine go_istore_n (pc := 31) dX5_livingBehind_31 (by decide) rfl ?_
        refine go_iincN (c := 1) (pc := 32) dX5_livingBehind_32 rfl (by decide) (by decide) rfl ?_
        refine go_goto (tgt := 5) (pc := 35) dX5_livingBehind_35 (by decide) ?_
        have e8 := ih c_11 s1 hs1
        rw [py_or_add (py_bs_lt _ i) (by omega), py_bs_t (f := (fun p => decide (0 < py_lf H p n))) (p := i) (decide_eq_true (by omega))]
        exact e8
  refine go_iconst (v := nI 0) (pc := 0) dX5_livingBehind_0 (by decide) ?_
  refine go_istore_n (pc := 1) dX5_livingBehind_1 (by decide) rfl ?_
  refine go_iconst (v := nI 0) (pc := 2) dX5_livingBehind_2 (by decide) ?_
  refine go_istore (pc := 3) dX5_livingBehind_3 (by decide) rfl ?_
  exact loop 0 (Nat.zero_le _) σ (py_fr.rf _ _ σ)
theorem py_hd_put {s : py_H} {H : Nat → Nat} (hc : py_hd s 7 H) (h3 : H 3 ≤ 4) {i : Nat} (hi : i < H 12) {v : Nat} {H2 : Nat → Nat} (h1 : ∀ j, j ≠ 15 + 4 * i → H2 j = H j) (h2 : H2 (15 + 4 * i) = v) : py_hd (py_up s 12 i (nI v)) 7 H2 := by
  obtain ⟨c1, c2, c3, c4, c5, c6, c7⟩ := hc
  have e : ∀ j, j < 15 → H2 j = H j := fun j hj => h1 j (by omega)
  unfold py_hd
  rw [e 0 (by decide), e 1 (by decide), e 2 (by decide), e 3 (by decide), e 12 (by decide)]
  refine ⟨?_, ?_, ?_, ?_, ?_, fun w hw => ?_, fun p hp => ?_⟩
  · rw [py_up_k _ _ _ (by decide)]; exact c1
  · rw [py_up_k _ _ _ (by decide)]; exact c2
  · rw [py_up_k _ _ _ (by decide)]; exact c3
  · rw [py_up_k _ _ _ (by decide)]; exact c4
  · rw [py_up_k _ _ _ (by decide)]; exact c5
  · rw [py_up_k _ _ _ (by decide), py_up_k _ _ _ (by decide), h1 _ (by omega), h1 _ (by omega)]; exact c6 w hw
  · have z := c7 p hp
    rw [py_up_k _ _ _ (show 7 + 3 ≠ 12 by decide), py_up_k _ _ _ (show 7 + 4 ≠ 12 by decide), py_up_k _ _ _ (show 7 + 6 ≠ 12 by decide), h1 (13 + 4 * p) (by omega), h1 (14 + 4 * p) (by omega), h1 (16 + 4 * p) (by omega)]
    refine ⟨z.1, z.2.1, ?_, z.2.2.2⟩
    by_cases hpi : p = i
    · subst hpi; rw [show (7 + 5 : Nat) = 12 from rfl, py_up_s, h2]
    · rw [show (7 + 5 : Nat) = 12 from rfl, py_up_j _ _ _ hpi, h1 _ (by omega)]; exact z.2.2.1
theorem py_hd_year {s : py_H} {H : Nat → Nat} (hc : py_hd s 7 H) {v : Nat} {H2 : Nat → Nat} (h1 : ∀ j, j ≠ 2 → H2 j = H j) (h2 : H2 2 = v) : py_hd (py_up s 7 3 (nI v)) 7 H2 := by
  obtain ⟨c1, c2, c3, c4, c5, c6, c7⟩ := hc
  unfold py_hd
  rw [h1 0 (by decide), h1 1 (by decide), h2, h1 3 (by decide), h1 12 (by decide)]
  refine ⟨?_, ?_, ?_, ?_, ?_, fun w hw => ?_, fun p hp => ?_⟩
  · rw [py_up_j _ _ _ (by decide)]; exact c1
  · rw [py_up_j _ _ _ (by decide)]; exact c2
  · rw [py_up_s]
  · rw [py_up_j _ _ _ (by decide)]; exact c4
  · rw [py_up_j _ _ _ (by decide)]; exact c5
  · rw [py_up_k _ _ _ (by omega), py_up_k _ _ _ (by omega), h1 _ (by omega), h1 _ (by omega)]; exact c6 w hw
  · rw [py_up_k _ _ _ (by omega), py_up_k _ _ _ (by omega), py_up_k _ _ _ (by omega), py_up_k _ _ _ (by omega), h1 _ (by omega), h1 _ (by omega), h1 _ (by omega), h1 _ (by omega)]; exact c7 p hp
set_option maxHeartbeats 4000000 in
set_option maxRecDepth 100000 in
theorem ev_pass {X : py_X} {σ : py_H} {H : Nat → Nat} (hc : py_hd σ 7 H) (hw : py_wf H) : py_Ev X 5 yX5_pass cX5_pass 3 none [.ref 37, .ref 7] σ (py_vs none (fun s => py_hd s 7 (py_age H 1) ∧ py_fr [12, 38] [(7, 3)] σ s)) := by
  obtain ⟨w0, w1, w2, w3, w12, w03, w00, wW, wP, wR⟩ := id hw
  refine py_ofV (own := RX5) YX5_pass.2.2.2.2 rfl rfl (Nat.le_of_ble_eq_true rfl)  ?_
  show py_Go X RX5 cX5_pass 3 5 0 [some (.ref 37), some (.ref 7), none] [] σ (py_vs none (fun s => py_hd s 7 (py_age H 1) ∧ py_fr [12, 38] [(7, 3)] σ s))
  have loop : ∀ i, i ≤ H 12 → ∀ s, py_hd s 7 (py_pp H i) → py_fr [12, 38] [(7, 3)] σ s → py_Go X RX5 cX5_pass 3 5 2 [some (.ref 37), some (.ref 7), some (.int (nI i))] [] s (py_vs none (fun s => py_hd s 7 (py_age H 1) ∧ py_fr [12, 38] [(7, 3)] σ s)) := by
    refine py_loop _ (H 12) (fun i hi ih s hcs hs => ?_)
    have hws := py_pp_wf hw i
    have e12 : py_pp H i 12 = H 12 := py_pp_o (fun p => by omega)
    have e02 : py_pp H i 2 = H 2 := py_pp_o (fun p => by omega)
    refine go_iload_n (pc := 2) dX5_pass_2 rfl ?_
    refine go_aload_n (pc := 3) dX5_pass_3 rfl ?_
    refine go_getI (x := (nI (H 12))) (pc := 4) dX5_pass_4 fX5_37 rfl rfl (by rw [← e12]; exact hcs.2.2.2.2.1) ?_
    refine go_icmp_geN (tgt := 29) (pc := 7) dX5_pass_7 (by omega) (by omega) (by decide) (fun c_7 => ?_) (fun c_7 => ?_)
    · refine go_aload_n (pc := 29) dX5_pass_29 rfl ?_
      refine go_dup (pc := 30) dX5_pass_30 rfl ?_
      refine go_getI (x := (nI (H 2))) (pc := 31) dX5_pass_31 fX5_50 rfl rfl (by rw [← e02]; exact hcs.2.2.1) ?_
      refine go_iconst (v := nI 1) (pc := 34) dX5_pass_34 (by decide) ?_
      refine go_iaddN (pc := 35) dX5_pass_35  ?_
      refine go_putI (pc := 36) dX5_pass_36 fX5_50 rfl rfl ?_
      refine go_retV (pc := 39) dX5_pass_39 ?_
      refine ⟨py_hd_year hcs ?_ ?_, hs.ut (by decide) _⟩
      · intro j hj
        rw [py_age_pp hw, if_neg hj, show i = H 12 by omega]
      · rw [py_age_2]
    · refine go_aload_n (pc := 10) dX5_pass_10 rfl ?_
      refine go_getR (pc := 11) dX5_pass_11 fX5_43 rfl rfl ?_
      refine go_iload_n (pc := 14) dX5_pass_14 rfl ?_
      refine go_aload_n (pc := 15) dX5_pass_15 rfl ?_
      refine go_aload_n (pc := 16) dX5_pass_16 rfl ?_
      refine go_iload_n (pc := 17) dX5_pass_17 rfl ?_
      refine go_iconst (v := nI 1) (pc := 18) dX5_pass_18 (by decide) ?_
      refine go_cVi (pc := 19) dX5_pass_19 (ev_cellsB (x := i) (n := 1) hcs hws (by rw [e12]; exact c_7) (by decide)) lX5_46 YX5_cellsBehind VX5_cellsBehind rfl rfl rfl (by decide) rfl (Nat.le_of_ble_eq_true rfl) (fun s1 e1 => ?_)
      have hs1 := hs.tr e1 (by decide) (by decide)
      have hcs1 := py_hd_fr e1 (by decide) (by decide) hcs
      have elf : py_lf (py_pp H i) i 1 = H (15 + 4 * i) - py_f1 H i := by
        unfold py_lf
        rw [py_pp_fn hw i c_7, py_fn_1 hw c_7, py_pp_g (Nat.le_refl i)]
      refine go_astN (pc := 22) dX5_pass_22 rfl (by show i < 5; omega) ?_
      refine go_iincN (c := 1) (pc := 23) dX5_pass_23 rfl (by decide) (by decide) rfl ?_
      refine go_goto (tgt := 2) (pc := 26) dX5_pass_26 (by decide) ?_
      refine ih c_7 _ (py_hd_put hcs1 hws.2.2.2.1 (by rw [e12]; exact c_7) ?_ ?_) (hs1.up (by decide) _)
      · intro j hj
        unfold py_pp
        by_cases hq : 15 ≤ j ∧ (j - 15) % 4 = 0 ∧ (j - 15) / 4 < i
        · rw [if_pos hq, if_pos ⟨hq.1, hq.2.1, by omega⟩]
        · rw [if_neg hq, if_neg (fun z => hq ⟨z.1, z.2.1, by omega⟩)]
      · rw [elf, py_pp_l (Nat.lt_succ_self i)]
  refine go_iconst (v := nI 0) (pc := 0) dX5_pass_0 (by decide) ?_
  refine go_istore_n (pc := 1) dX5_pass_1 (by decide) rfl ?_
  exact loop 0 (Nat.zero_le _) σ (by rw [py_pp_0]; exact hc) (py_fr.rf _ _ σ)
set_option maxHeartbeats 4000000 in
set_option maxRecDepth 100000 in
theorem ev_death {X : py_X} {σ : py_H} {H : Nat → Nat} (hc : py_hd σ 7 H) (hw : py_wf H) {x : Nat} (hx : x < H 12) : py_Ev X 4 yX5_death cX5_death 4 (some .int) [.ref 37, .ref 7, .int (nI x)] σ (py_vs (some (.int (py_dyI H x))) (fun s => py_fr [38] [] σ s)) := by
  refine py_ofI (own := RX5) YX5_death.2.2.2.2 rfl rfl (Nat.le_of_ble_eq_true rfl)  ?_
  show py_Go X RX5 cX5_death 4 4 0 [some (.ref 37), some (.ref 7), some (.int (nI x)), none] [] σ (py_vs (some (.int (py_dyI H x))) (fun s => py_fr [38] [] σ s))
  refine go_aload_n (pc := 0) dX5_death_0 rfl ?_
  refine go_getR (pc := 1) dX5_death_1 fX5_12 rfl rfl ?_
  refine go_aload_n (pc := 4) dX5_death_4 rfl ?_
  refine go_iload_n (pc := 5) dX5_death_5 rfl ?_
  refine go_cVv (pc := 6) dX5_death_6 (ev_takeFrom hc hw hx) lX5_53 YX3_takeFrom VX3_takeFrom rfl rfl rfl (by decide) rfl (Nat.le_of_ble_eq_true rfl) (fun s1 e1 => ?_)
  obtain ⟨e2, e3⟩ := e1
  have hq := hw.2.2.2.2.2.2.2.2.1 _ hx
  have loop : ∀ i, i ≤ 100 → py_find (fun d => decide (py_lf H x d = 0)) 100 0 = py_find (fun d => decide (py_lf H x d = 0)) (100 - i) i → py_Go X RX5 cX5_death 4 4 11 [some (.ref 37), some (.ref 7), some (.int (nI x)), some (.int (nI i))] [] s1 (py_vs (some (.int (py_dyI H x))) (fun s => py_fr [38] [] σ s)) := by
    refine py_loop _ 100 (fun i hi ih hf => ?_)
    refine go_iload_n (pc := 11) dX5_death_11 rfl ?_
    refine go_bipush (v := nI 99) (pc := 12) dX5_death_12 (by decide) ?_
    refine go_icmp_gtN (tgt := 36) (pc := 14) dX5_death_14 (by omega) (by omega) (by decide) (fun c_14 => ?_) (fun c_14 => ?_)
    · refine go_ldc (pc := 36) dX5_death_36 kX5_63 ?_
      refine go_retI (pc := 38) dX5_death_38 ?_ e3
      have e9 : 100 - i = 0 := by omega
      rw [e9] at hf
      have e7 : py_find (fun d => decide (py_lf H x d = 0)) 100 0 = i := hf
      unfold py_dyI py_dy
      rw [e7, if_neg (by omega)]
    · refine go_aload_n (pc := 17) dX5_death_17 rfl ?_
      refine go_getR (pc := 18) dX5_death_18 fX5_12 rfl rfl ?_
      refine go_iload_n (pc := 21) dX5_death_21 rfl ?_
      refine go_cV (pc := 22) dX5_death_22 (ev_cellsBehind (n := i) e2 (py_bd_of hw hx) (by omega) hq.2.1 hq.2.2.2.2.1) lX5_61 YX3_cellsBehind VX3_cellsBehind rfl rfl rfl (by decide) rfl (Nat.le_of_ble_eq_true rfl) ?_
      have hlf : py_lf H x i ≤ 60 := Nat.le_trans (Nat.sub_le _ _) hq.2.2.2.2.1
      refine go_if_neN (tgt := 30) (pc := 25) dX5_death_25 (by omega) (by decide) (fun c_25 => ?_) (fun c_25 => ?_)
      · refine go_iincN (c := 1) (pc := 30) dX5_death_30 rfl (by decide) (by decide) rfl ?_
        refine go_goto (tgt := 11) (pc := 33) dX5_death_33 (by decide) ?_
        refine ih (by omega) ?_
        rw [hf]
        have e9 : 100 - i = (100 - (i + 1)) + 1 := by omega
        have c9 : ¬ py_lf H x i = 0 := fun z => absurd (show py_lf H x i = 0 from z) (Nat.ne_of_gt c_25)
        rw [e9, py_find_f (f := (fun d => decide (py_lf H x d = 0))) (n := 100 - (i + 1)) (k := i) (decide_eq_false c9)]
      · refine go_iload_n (pc := 28) dX5_death_28 rfl ?_
        refine go_retI (pc := 29) dX5_death_29 ?_ e3
        have e9 : 100 - i = (100 - (i + 1)) + 1 := by omega
        have c9 : py_lf H x i = 0 := c_25
        rw [e9, py_find_t (f := (fun d => decide (py_lf H x d = 0))) (n := 100 - (i + 1)) (k := i) (decide_eq_true c9)] at hf
        unfold py_dyI py_dy
        rw [hf, if_pos (by omega)]
  refine go_iconst (v := nI 0) (pc := 9) dX5_death_9 (by decide) ?_
  refine go_istore_n (pc := 10) dX5_death_10 (by decide) rfl ?_
  exact loop 0 (Nat.zero_le _) rfl
