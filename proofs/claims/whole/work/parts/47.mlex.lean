/-! contracts: the reference's tokens -/
set_option maxHeartbeats 4000000 in
set_option maxRecDepth 100000 in
theorem ev_byteAt {X : py_X} {σ : py_H} {B : Nat → Nat} {N : Nat} (ht : py_tm σ B N) {a : Nat} (ha : a ≤ 100) : py_Ev X 0 yX8_byteAt cX8_byteAt 2 (some .int) [.ref 47, .int (nI a)] σ (py_ret (.int (py_nx B N a)) σ) := by
  refine py_ofI (own := RX8) YX8_byteAt.2.2.2.2 rfl rfl (Nat.le_of_ble_eq_true rfl)  ?_
  show py_Go X RX8 cX8_byteAt 2 0 0 [some (.ref 47), some (.int (nI a))] [] σ (py_ret (.int (py_nx B N a)) σ)
  by_cases hlt : a < N
  · have hN := ht.2.1
    refine go_iload_n (pc := 0) dX8_byteAt_0 rfl ?_
    refine go_aload_n (pc := 1) dX8_byteAt_1 rfl ?_
    refine go_getI (x := (nI N)) (pc := 2) dX8_byteAt_2 fX8_85 rfl rfl ht.1 ?_
    refine go_icmp_geN (tgt := 17) (pc := 5) dX8_byteAt_5 (by omega) (by omega) (by decide) (fun c_5 => ?_) (fun c_5 => ?_)
    · omega
    · refine go_aload_n (pc := 8) dX8_byteAt_8 rfl ?_
      refine go_getR (pc := 9) dX8_byteAt_9 fX8_22 rfl rfl ?_
      refine go_iload_n (pc := 12) dX8_byteAt_12 rfl ?_
      refine go_aldN (x := (nI (B a))) (pc := 13) dX8_byteAt_13 rfl (by show a < 100; omega) (ht.2.2 a hlt).1 ?_
      refine go_goto (tgt := 18) (pc := 14) dX8_byteAt_14 (by decide) ?_
      exact go_retI (pc := 18) dX8_byteAt_18 (by unfold py_nx; rw [if_pos hlt]) rfl
  · have hN := ht.2.1
    refine go_iload_n (pc := 0) dX8_byteAt_0 rfl ?_
    refine go_aload_n (pc := 1) dX8_byteAt_1 rfl ?_
    refine go_getI (x := (nI N)) (pc := 2) dX8_byteAt_2 fX8_85 rfl rfl ht.1 ?_
    refine go_icmp_geN (tgt := 17) (pc := 5) dX8_byteAt_5 (by omega) (by omega) (by decide) (fun c_5 => ?_) (fun c_5 => ?_)
    · refine go_iconst (v := -1) (pc := 17) dX8_byteAt_17 (by decide) ?_
      exact go_retI (pc := 18) dX8_byteAt_18 (by unfold py_nx; rw [if_neg hlt]) rfl
    · omega
theorem py_nx_lt {B : Nat → Nat} {N a : Nat} (h : a < N) : py_nx B N a = nI (B a) := by unfold py_nx; rw [if_pos h]
theorem py_nx_ge {B : Nat → Nat} {N a : Nat} (h : ¬ a < N) : py_nx B N a = -1 := by unfold py_nx; rw [if_neg h]
/-- the number that the first i figures from a on tell, of the first two -/
def py_vi (B : Nat → Nat) (a i : Nat) : Nat := if i = 0 then 0 else if i = 1 then B a - 48 else (B a - 48) * 10 + (B (a + 1) - 48)
theorem py_vi_s {B : Nat → Nat} {a i : Nat} (hi : i < 2) (h : 48 ≤ B (a + i)) (h0 : i = 1 → 48 ≤ B a) : py_vi B a (i + 1) = 10 * py_vi B a i + B (a + i) - 48 := by
  unfold py_vi
  rcases (show i = 0 ∨ i = 1 by omega) with e | e
  · subst e; rw [if_neg (by omega), if_pos rfl, if_pos rfl, Nat.add_zero]; omega
  · subst e
    have := h0 rfl
    rw [if_neg (by omega), if_neg (by omega), if_neg (by omega), if_pos rfl]; omega
theorem py_vi_g {B : Nat → Nat} {a i : Nat} (hi : 2 ≤ i) : py_vi B a (i + 1) = py_vi B a i := by
  unfold py_vi
  rw [if_neg (by omega), if_neg (by omega), if_neg (by omega), if_neg (by omega)]
theorem py_vi_le {B : Nat → Nat} {N a i : Nat} (h : ∀ j, j < i → py_isd B N (a + j) = true) : py_vi B a i ≤ 99 := by
  unfold py_vi
  by_cases h0 : i = 0
  · rw [if_pos h0]; omega
  · rw [if_neg h0]
    have z := (py_isd_iff B N (a + 0)).mp (h 0 (by omega))
    rw [Nat.add_zero] at z
    by_cases h1 : i = 1
    · rw [if_pos h1]; omega
    · rw [if_neg h1]
      have y := (py_isd_iff B N (a + 1)).mp (h 1 (by omega))
      omega
theorem py_tm_u {σ : py_H} {B : Nat → Nat} {N j : Nat} {v : Int32} (hj : j ≠ 6) (h : py_tm σ B N) : py_tm (py_up σ 47 j v) B N := by
  exact ⟨by rw [py_up_j _ _ _ (show 6 ≠ j from fun e => hj e.symm)]; exact h.1, h.2.1, fun i hi => by rw [py_up_k _ _ _ (by decide)]; exact h.2.2 i hi⟩
set_option maxHeartbeats 4000000 in
set_option maxRecDepth 100000 in
theorem ev_advances {X : py_X} {σ : py_H} {B : Nat → Nat} {N : Nat} (ht : py_tm σ B N) {a : Nat} (ha : σ 47 9 = nI a) (haN : a ≤ N) : py_Ev X 1 yX8_advances cX8_advances 2 none [.ref 47] σ (py_vs none (fun s => py_lx s B N a ∧ py_fr [] [(47, 9), (47, 10), (47, 11), (47, 12)] σ s)) := by
  refine py_ofV (own := RX8) YX8_advances.2.2.2.2 rfl rfl (Nat.le_of_ble_eq_true rfl)  ?_
  show py_Go X RX8 cX8_advances 2 1 0 [some (.ref 47), none] [] σ (py_vs none (fun s => py_lx s B N a ∧ py_fr [] [(47, 9), (47, 10), (47, 11), (47, 12)] σ s))
  have hN := ht.2.1
  have loop : 0 < py_run B N a → ∀ i, i ≤ py_run B N a → ∀ s, s 47 9 = nI (a + i) → s 47 10 = nI a → s 47 12 = nI (py_vi B a i) → py_fr [] [(47, 9), (47, 10), (47, 11), (47, 12)] σ s → py_tm s B N → (∀ j, j < i → py_isd B N (a + j) = true) → py_Go X RX8 cX8_advances 2 1 38 [some (.ref 47), none] [] s (py_vs none (fun s => py_lx s B N a ∧ py_fr [] [(47, 9), (47, 10), (47, 11), (47, 12)] σ s)) := by
    intro hrp
    have hrl := py_run_le B N a
    refine py_loop _ (py_run B N a) (fun i hi ih s h9 h10 h12 hs hts hd => ?_)
    have hvi := py_vi_le hd
    refine go_aload_n (pc := 38) dX8_advances_38 rfl ?_
    refine go_aload_n (pc := 39) dX8_advances_39 rfl ?_
    refine go_getI (x := (nI (a + i))) (pc := 40) dX8_advances_40 fX8_89 rfl rfl h9 ?_
    refine go_cV (pc := 43) dX8_advances_43 (ev_byteAt hts (by omega)) lX8_95 YX8_byteAt VX8_byteAt rfl rfl rfl (by decide) rfl (Nat.le_of_ble_eq_true rfl) ?_
    refine go_bipush (v := nI 48) (pc := 46) dX8_advances_46 (by decide) ?_
    refine go_bipush (v := nI 57) (pc := 48) dX8_advances_48 (by decide) ?_
    refine go_cS (pc := 50) dX8_advances_50 ev_inN lX8_59 YX8_in SX8_in rfl (by decide) rfl (Nat.le_of_ble_eq_true rfl) ?_
    refine go_if_eqB (tgt := 112) (pc := 53) dX8_advances_53 (by decide) (fun c_53 => ?_) (fun c_53 => ?_)
    · have hisd : ¬ py_isd B N (a + i) = true := fun z => c_53 ((py_nx_fig (fun i hi => (ht.2.2 i hi).2)).mpr z)
      have hri : py_run B N a = i := by rw [py_run_k hN hd, py_run_f hisd]; rfl
      refine go_aload_n (pc := 112) dX8_advances_112 rfl ?_
      refine go_aload_n (pc := 113) dX8_advances_113 rfl ?_
      refine go_getI (x := (nI (a + i))) (pc := 114) dX8_advances_114 fX8_89 rfl rfl h9 ?_
      refine go_aload_n (pc := 117) dX8_advances_117 rfl ?_
      refine go_getI (x := (nI a)) (pc := 118) dX8_advances_118 fX8_92 rfl rfl h10 ?_
      refine go_isubN (pc := 121) dX8_advances_121 (by omega) ?_
      refine go_iconst (v := nI 3) (pc := 122) dX8_advances_122 (by decide) ?_
      refine go_icmp_geN (tgt := 130) (pc := 123) dX8_advances_123 (by omega) (by omega) (by decide) (fun c_123 => ?_) (fun c_123 => ?_)
      · refine go_iconst (v := nI 5) (pc := 130) dX8_advances_130 (by decide) ?_
        refine go_putI (pc := 131) dX8_advances_131 fX8_101 rfl rfl ?_
        have hr0 : 0 < py_run B N a := by rw [hri]; omega
        refine go_retV (pc := 134) dX8_advances_134 ⟨⟨?_, ?_, ?_, ?_⟩, hs.ut (by decide) _⟩
        · rw [py_up_j _ _ _ (by decide)]; exact h10
        · rw [py_up_j _ _ _ (by decide), h9]; unfold py_en; rw [if_pos hr0, hri]
        · rw [py_up_s]; unfold py_tk; rw [if_pos hr0, hri, if_neg (by omega)]
        · rw [py_up_j _ _ _ (by decide), h12]; unfold py_vl py_nv py_vi; rw [if_pos hr0, hri, if_neg (by omega)]
          (repeat' split) <;> first | rfl | omega
      · refine go_iconst (v := nI 2) (pc := 126) dX8_advances_126 (by decide) ?_
        refine go_goto (tgt := 131) (pc := 127) dX8_advances_127 (by decide) ?_
        refine go_putI (pc := 131) dX8_advances_131 fX8_101 rfl rfl ?_
        have hr0 : 0 < py_run B N a := by rw [hri]; omega
        refine go_retV (pc := 134) dX8_advances_134 ⟨⟨?_, ?_, ?_, ?_⟩, hs.ut (by decide) _⟩
        · rw [py_up_j _ _ _ (by decide)]; exact h10
        · rw [py_up_j _ _ _ (by decide), h9]; unfold py_en; rw [if_pos hr0, hri]
        · rw [py_up_s]; unfold py_tk; rw [if_pos hr0, hri, if_pos (by omega)]
        · rw [py_up_j _ _ _ (by decide), h12]; unfold py_vl py_nv py_vi; rw [if_pos hr0, hri, if_neg (by omega)]
          (repeat' split) <;> first | rfl | omega
    · have hisd := (py_nx_fig (fun i hi => (ht.2.2 i hi).2)).mp c_53
      have hd2 := (py_isd_iff B N (a + i)).mp hisd
      refine go_aload_n (pc := 56) dX8_advances_56 rfl ?_
      refine go_aload_n (pc := 57) dX8_advances_57 rfl ?_
      refine go_getI (x := (nI (a + i))) (pc := 58) dX8_advances_58 fX8_89 rfl rfl h9 ?_
      refine go_aload_n (pc := 61) dX8_advances_61 rfl ?_
      refine go_getI (x := (nI a)) (pc := 62) dX8_advances_62 fX8_92 rfl rfl h10 ?_
      refine go_isubN (pc := 65) dX8_advances_65 (by omega) ?_
      refine go_iconst (v := nI 2) (pc := 66) dX8_advances_66 (by decide) ?_
      refine go_icmp_geN (tgt := 92) (pc := 67) dX8_advances_67 (by omega) (by omega) (by decide) (fun c_67 => ?_) (fun c_67 => ?_)
      · refine go_aload_n (pc := 92) dX8_advances_92 rfl ?_
        refine go_getI (x := (nI (py_vi B a i))) (pc := 93) dX8_advances_93 fX8_98 rfl rfl h12 ?_
        refine go_putI (pc := 96) dX8_advances_96 fX8_98 rfl rfl ?_
        refine go_aload_n (pc := 99) dX8_advances_99 rfl ?_
        refine go_dup (pc := 100) dX8_advances_100 rfl ?_
        refine go_getI (x := (nI (a + i))) (pc := 101) dX8_advances_101 fX8_89 rfl rfl (by rw [py_up_j _ _ _ (by decide)]; exact h9) ?_
        refine go_iconst (v := nI 1) (pc := 104) dX8_advances_104 (by decide) ?_
        refine go_iaddN (pc := 105) dX8_advances_105  ?_
        refine go_putI (pc := 106) dX8_advances_106 fX8_89 rfl rfl ?_
        refine go_goto (tgt := 38) (pc := 109) dX8_advances_109 (by decide) ?_
        have hlt2 : i < py_run B N a := by
          have z := py_run_k (k := i + 1) (B := B) (N := N) (a := a) hN (fun j hj => by
            by_cases e : j = i
            · rw [e]; exact hisd
            · exact hd j (by omega))
          omega
        have e7 : py_vi B a (i + 1) = py_vi B a i := py_vi_g (by omega)
        refine ih hlt2 _ ?_ ?_ ?_ ?_ ?_ ?_
        · rw [py_up_s, Nat.add_assoc]
        · rw [py_up_j _ _ _ (by decide), py_up_j _ _ _ (by decide)]; exact h10
        · rw [py_up_j _ _ _ (by decide), py_up_s, e7]
        · exact (hs.ut (by decide) _).ut (by decide) _
        · exact py_tm_u (by decide) (py_tm_u (by decide) hts)
        · intro j hj
          by_cases e : j = i
          · rw [e]; exact hisd
          · exact hd j (by omega)
      · refine go_bipush (v := nI 10) (pc := 70) dX8_advances_70 (by decide) ?_
        refine go_aload_n (pc := 72) dX8_advances_72 rfl ?_
        refine go_getI (x := (nI (py_vi B a i))) (pc := 73) dX8_advances_73 fX8_98 rfl rfl h12 ?_
        refine go_imulN (pc := 76) dX8_advances_76  ?_
        refine go_aload_n (pc := 77) dX8_advances_77 rfl ?_
        refine go_aload_n (pc := 78) dX8_advances_78 rfl ?_
        refine go_getI (x := (nI (a + i))) (pc := 79) dX8_advances_79 fX8_89 rfl rfl h9 ?_
        refine go_cV (pc := 82) dX8_advances_82 (ev_byteAt hts (by omega)) lX8_95 YX8_byteAt VX8_byteAt rfl rfl rfl (by decide) rfl (Nat.le_of_ble_eq_true rfl) ?_
        refine go_top (y := nI (B (a + i))) (py_nx_lt (by omega)) ?_
        refine go_iaddN (pc := 85) dX8_advances_85  ?_
        refine go_bipush (v := nI 48) (pc := 86) dX8_advances_86 (by decide) ?_
        refine go_isubN (pc := 88) dX8_advances_88 (by omega) ?_
        refine go_goto (tgt := 96) (pc := 89) dX8_advances_89 (by decide) ?_
        refine go_putI (pc := 96) dX8_advances_96 fX8_98 rfl rfl ?_
        refine go_aload_n (pc := 99) dX8_advances_99 rfl ?_
        refine go_dup (pc := 100) dX8_advances_100 rfl ?_
        refine go_getI (x := (nI (a + i))) (pc := 101) dX8_advances_101 fX8_89 rfl rfl (by rw [py_up_j _ _ _ (by decide)]; exact h9) ?_
        refine go_iconst (v := nI 1) (pc := 104) dX8_advances_104 (by decide) ?_
        refine go_iaddN (pc := 105) dX8_advances_105  ?_
        refine go_putI (pc := 106) dX8_advances_106 fX8_89 rfl rfl ?_
        refine go_goto (tgt := 38) (pc := 109) dX8_advances_109 (by decide) ?_
        have hlt2 : i < py_run B N a := by
          have z := py_run_k (k := i + 1) (B := B) (N := N) (a := a) hN (fun j hj => by
            by_cases e : j = i
            · rw [e]; exact hisd
            · exact hd j (by omega))
          omega
        have e7 : py_vi B a (i + 1) = 10 * py_vi B a i + B (a + i) - 48 := py_vi_s (by omega) hd2.2.1 (fun e => by have z := (py_isd_iff B N (a + 0)).mp (hd 0 (by omega)); rw [Nat.add_zero] at z; exact z.2.1)
        refine ih hlt2 _ ?_ ?_ ?_ ?_ ?_ ?_
        · rw [py_up_s, Nat.add_assoc]
        · rw [py_up_j _ _ _ (by decide), py_up_j _ _ _ (by decide)]; exact h10
        · rw [py_up_j _ _ _ (by decide), py_up_s, e7]
        · exact (hs.ut (by decide) _).ut (by decide) _
        · exact py_tm_u (by decide) (py_tm_u (by decide) hts)
        · intro j hj
          by_cases e : j = i
          · rw [e]; exact hisd
          · exact hd j (by omega)
  by_cases hlt : a < N
  · have hB := (ht.2.2 a hlt).2
    have hBI : (nI (B a)).toInt = (B a : Int) := nI_toInt (by omega)
    by_cases hdg : py_isd B N a = true
    · have hd2 := (py_isd_iff B N a).mp hdg
      refine go_aload_n (pc := 0) dX8_advances_0 rfl ?_
      refine go_aload_n (pc := 1) dX8_advances_1 rfl ?_
      refine go_getI (x := (nI a)) (pc := 2) dX8_advances_2 fX8_89 rfl rfl ha ?_
      refine go_putI (pc := 5) dX8_advances_5 fX8_92 rfl rfl ?_
      refine go_aload_n (pc := 8) dX8_advances_8 rfl ?_
      refine go_aload_n (pc := 9) dX8_advances_9 rfl ?_
      refine go_getI (x := (nI a)) (pc := 10) dX8_advances_10 fX8_89 rfl rfl (by rw [py_up_j _ _ _ (by decide)]; exact ha) ?_
      refine go_cV (pc := 13) dX8_advances_13 (ev_byteAt (py_tm_u (by decide) ht) (by omega)) lX8_95 YX8_byteAt VX8_byteAt rfl rfl rfl (by decide) rfl (Nat.le_of_ble_eq_true rfl) ?_
      refine go_top (y := (nI (B a))) (py_nx_lt hlt) ?_
      refine go_istore_n (pc := 16) dX8_advances_16 (by decide) rfl ?_
      refine go_aload_n (pc := 17) dX8_advances_17 rfl ?_
      refine go_iload_n (pc := 18) dX8_advances_18 rfl ?_
      refine go_putI (pc := 19) dX8_advances_19 fX8_98 rfl rfl ?_
      refine go_iload_n (pc := 22) dX8_advances_22 rfl ?_
      refine go_bipush (v := nI 48) (pc := 23) dX8_advances_23 (by decide) ?_
      refine go_bipush (v := nI 57) (pc := 25) dX8_advances_25 (by decide) ?_
      refine go_cS (pc := 27) dX8_advances_27 ev_inN lX8_59 YX8_in SX8_in rfl (by decide) rfl (Nat.le_of_ble_eq_true rfl) ?_
      refine go_if_eqB (tgt := 135) (pc := 30) dX8_advances_30 (by decide) (fun c_30 => ?_) (fun c_30 => ?_)
      · omega
      · refine go_aload_n (pc := 33) dX8_advances_33 rfl ?_
        refine go_iconst (v := nI 0) (pc := 34) dX8_advances_34 (by decide) ?_
        refine go_putI (pc := 35) dX8_advances_35 fX8_98 rfl rfl ?_
        refine go_mask [true, false] rfl (loop ((py_run0 hN).mpr hdg) 0 (Nat.zero_le _) _ ?_ ?_ (py_up_s _ _ _ _) ((((py_fr.rf [] [(47, 9), (47, 10), (47, 11), (47, 12)] σ).ut (by decide) _).ut (by decide) _).ut (by decide) _) (py_tm_u (by decide) (py_tm_u (by decide) (py_tm_u (by decide) ht))) (fun j hj => absurd hj (Nat.not_lt_zero j)))
        · rw [py_up_j _ _ _ (by decide), py_up_j _ _ _ (by decide), py_up_j _ _ _ (by decide), Nat.add_zero]; exact ha
        · rw [py_up_j _ _ _ (by decide), py_up_j _ _ _ (by decide), py_up_s]
    · have hr0 : ¬ 0 < py_run B N a := fun z => hdg ((py_run0 hN).mp z)
      refine go_aload_n (pc := 0) dX8_advances_0 rfl ?_
      refine go_aload_n (pc := 1) dX8_advances_1 rfl ?_
      refine go_getI (x := (nI a)) (pc := 2) dX8_advances_2 fX8_89 rfl rfl ha ?_
      refine go_putI (pc := 5) dX8_advances_5 fX8_92 rfl rfl ?_
      refine go_aload_n (pc := 8) dX8_advances_8 rfl ?_
      refine go_aload_n (pc := 9) dX8_advances_9 rfl ?_
      refine go_getI (x := (nI a)) (pc := 10) dX8_advances_10 fX8_89 rfl rfl (by rw [py_up_j _ _ _ (by decide)]; exact ha) ?_
      refine go_cV (pc := 13) dX8_advances_13 (ev_byteAt (py_tm_u (by decide) ht) (by omega)) lX8_95 YX8_byteAt VX8_byteAt rfl rfl rfl (by decide) rfl (Nat.le_of_ble_eq_true rfl) ?_
      refine go_top (y := (nI (B a))) (py_nx_lt hlt) ?_
      refine go_istore_n (pc := 16) dX8_advances_16 (by decide) rfl ?_
      refine go_aload_n (pc := 17) dX8_advances_17 rfl ?_
      refine go_iload_n (pc := 18) dX8_advances_18 rfl ?_
      refine go_putI (pc := 19) dX8_advances_19 fX8_98 rfl rfl ?_
      refine go_iload_n (pc := 22) dX8_advances_22 rfl ?_
      refine go_bipush (v := nI 48) (pc := 23) dX8_advances_23 (by decide) ?_
      refine go_bipush (v := nI 57) (pc := 25) dX8_advances_25 (by decide) ?_
      refine go_cS (pc := 27) dX8_advances_27 ev_inN lX8_59 YX8_in SX8_in rfl (by decide) rfl (Nat.le_of_ble_eq_true rfl) ?_
      refine go_if_eqB (tgt := 135) (pc := 30) dX8_advances_30 (by decide) (fun c_30 => ?_) (fun c_30 => ?_)
      · refine go_aload_n (pc := 135) dX8_advances_135 rfl ?_
        refine go_iload_n (pc := 136) dX8_advances_136 rfl ?_
        refine go_if_geN (tgt := 144) (pc := 137) dX8_advances_137 (by omega) (by decide) ?_
        refine go_iload_n (pc := 144) dX8_advances_144 rfl ?_
        refine go_bipush (v := nI 97) (pc := 145) dX8_advances_145 (by decide) ?_
        refine go_bipush (v := nI 122) (pc := 147) dX8_advances_147 (by decide) ?_
        refine go_cS (pc := 149) dX8_advances_149 ev_inN lX8_59 YX8_in SX8_in rfl (by decide) rfl (Nat.le_of_ble_eq_true rfl) ?_
        refine go_if_eqB (tgt := 159) (pc := 152) dX8_advances_152 (by decide) (fun c_152 => ?_) (fun c_152 => ?_)
        · refine go_iload_n (pc := 159) dX8_advances_159 rfl ?_
          refine go_bipush (v := nI 44) (pc := 160) dX8_advances_160 (by decide) ?_
          refine go_icmp_neN (tgt := 169) (pc := 162) dX8_advances_162 (by omega) (by omega) (by decide) (fun c_162 => ?_) (fun c_162 => ?_)
          · refine go_iload_n (pc := 169) dX8_advances_169 rfl ?_
            refine go_bipush (v := nI 59) (pc := 170) dX8_advances_170 (by decide) ?_
            refine go_icmp_neN (tgt := 179) (pc := 172) dX8_advances_172 (by omega) (by omega) (by decide) (fun c_172 => ?_) (fun c_172 => ?_)
            · refine go_iconst (v := nI 5) (pc := 179) dX8_advances_179 (by decide) ?_
              refine go_putI (pc := 180) dX8_advances_180 fX8_101 rfl rfl ?_
              refine go_aload_n (pc := 183) dX8_advances_183 rfl ?_
              refine go_dup (pc := 184) dX8_advances_184 rfl ?_
              refine go_getI (x := (nI a)) (pc := 185) dX8_advances_185 fX8_89 rfl rfl (by rw [py_up_j _ _ _ (by decide), py_up_j _ _ _ (by decide), py_up_j _ _ _ (by decide)]; exact ha) ?_
              refine go_aload_n (pc := 188) dX8_advances_188 rfl ?_
              refine go_getI (x := (nI 5)) (pc := 189) dX8_advances_189 fX8_101 rfl rfl (py_up_s _ _ _ _) ?_
              refine go_if_neN (tgt := 199) (pc := 192) dX8_advances_192 (by omega) (by decide) (fun c_192 => ?_) (fun c_192 => ?_)
              · refine go_iconst (v := nI 1) (pc := 199) dX8_advances_199 (by decide) ?_
                refine go_iaddN (pc := 200) dX8_advances_200  ?_
                refine go_putI (pc := 201) dX8_advances_201 fX8_89 rfl rfl ?_
                have etk : py_tk B N a = 5 := by unfold py_tk; rw [if_neg hr0, if_pos hlt]; (repeat' split) <;> omega
                have een : py_en B N a = a + 1 := by unfold py_en; rw [if_neg hr0, if_pos hlt]
                have evl : py_vl B N a = nI (B a) := by unfold py_vl; rw [if_neg hr0]; exact py_nx_lt hlt
                refine go_retV (pc := 204) dX8_advances_204 ⟨⟨by simp [py_up_ap], by rw [een]; simp [py_up_ap], by rw [etk]; simp [py_up_ap], by rw [evl]; simp [py_up_ap]⟩, (((((py_fr.rf [] [(47, 9), (47, 10), (47, 11), (47, 12)] σ).ut (by decide) _).ut (by decide) _).ut (by decide) _).ut (by decide) _)⟩
              · omega
            · refine go_iconst (v := nI 4) (pc := 175) dX8_advances_175 (by decide) ?_
              refine go_goto (tgt := 180) (pc := 176) dX8_advances_176 (by decide) ?_
              refine go_putI (pc := 180) dX8_advances_180 fX8_101 rfl rfl ?_
              refine go_aload_n (pc := 183) dX8_advances_183 rfl ?_
              refine go_dup (pc := 184) dX8_advances_184 rfl ?_
              refine go_getI (x := (nI a)) (pc := 185) dX8_advances_185 fX8_89 rfl rfl (by rw [py_up_j _ _ _ (by decide), py_up_j _ _ _ (by decide), py_up_j _ _ _ (by decide)]; exact ha) ?_
              refine go_aload_n (pc := 188) dX8_advances_188 rfl ?_
              refine go_getI (x := (nI 4)) (pc := 189) dX8_advances_189 fX8_101 rfl rfl (py_up_s _ _ _ _) ?_
              refine go_if_neN (tgt := 199) (pc := 192) dX8_advances_192 (by omega) (by decide) (fun c_192 => ?_) (fun c_192 => ?_)
              · refine go_iconst (v := nI 1) (pc := 199) dX8_advances_199 (by decide) ?_
                refine go_iaddN (pc := 200) dX8_advances_200  ?_
                refine go_putI (pc := 201) dX8_advances_201 fX8_89 rfl rfl ?_
                have etk : py_tk B N a = 4 := by unfold py_tk; rw [if_neg hr0, if_pos hlt]; (repeat' split) <;> omega
                have een : py_en B N a = a + 1 := by unfold py_en; rw [if_neg hr0, if_pos hlt]
                have evl : py_vl B N a = nI (B a) := by unfold py_vl; rw [if_neg hr0]; exact py_nx_lt hlt
                refine go_retV (pc := 204) dX8_advances_204 ⟨⟨by simp [py_up_ap], by rw [een]; simp [py_up_ap], by rw [etk]; simp [py_up_ap], by rw [evl]; simp [py_up_ap]⟩, (((((py_fr.rf [] [(47, 9), (47, 10), (47, 11), (47, 12)] σ).ut (by decide) _).ut (by decide) _).ut (by decide) _).ut (by decide) _)⟩
              · omega
          · refine go_iconst (v := nI 3) (pc := 165) dX8_advances_165 (by decide) ?_
            refine go_goto (tgt := 180) (pc := 166) dX8_advances_166 (by decide) ?_
            refine go_putI (pc := 180) dX8_advances_180 fX8_101 rfl rfl ?_
            refine go_aload_n (pc := 183) dX8_advances_183 rfl ?_
            refine go_dup (pc := 184) dX8_advances_184 rfl ?_
            refine go_getI (x := (nI a)) (pc := 185) dX8_advances_185 fX8_89 rfl rfl (by rw [py_up_j _ _ _ (by decide), py_up_j _ _ _ (by decide), py_up_j _ _ _ (by decide)]; exact ha) ?_
            refine go_aload_n (pc := 188) dX8_advances_188 rfl ?_
            refine go_getI (x := (nI 3)) (pc := 189) dX8_advances_189 fX8_101 rfl rfl (py_up_s _ _ _ _) ?_
            refine go_if_neN (tgt := 199) (pc := 192) dX8_advances_192 (by omega) (by decide) (fun c_192 => ?_) (fun c_192 => ?_)
            · refine go_iconst (v := nI 1) (pc := 199) dX8_advances_199 (by decide) ?_
              refine go_iaddN (pc := 200) dX8_advances_200  ?_
              refine go_putI (pc := 201) dX8_advances_201 fX8_89 rfl rfl ?_
              have etk : py_tk B N a = 3 := by unfold py_tk; rw [if_neg hr0, if_pos hlt]; (repeat' split) <;> omega
              have een : py_en B N a = a + 1 := by unfold py_en; rw [if_neg hr0, if_pos hlt]
              have evl : py_vl B N a = nI (B a) := by unfold py_vl; rw [if_neg hr0]; exact py_nx_lt hlt
              refine go_retV (pc := 204) dX8_advances_204 ⟨⟨by simp [py_up_ap], by rw [een]; simp [py_up_ap], by rw [etk]; simp [py_up_ap], by rw [evl]; simp [py_up_ap]⟩, (((((py_fr.rf [] [(47, 9), (47, 10), (47, 11), (47, 12)] σ).ut (by decide) _).ut (by decide) _).ut (by decide) _).ut (by decide) _)⟩
            · omega
        · refine go_iconst (v := nI 1) (pc := 155) dX8_advances_155 (by decide) ?_
          refine go_goto (tgt := 180) (pc := 156) dX8_advances_156 (by decide) ?_
          refine go_putI (pc := 180) dX8_advances_180 fX8_101 rfl rfl ?_
          refine go_aload_n (pc := 183) dX8_advances_183 rfl ?_
          refine go_dup (pc := 184) dX8_advances_184 rfl ?_
          refine go_getI (x := (nI a)) (pc := 185) dX8_advances_185 fX8_89 rfl rfl (by rw [py_up_j _ _ _ (by decide), py_up_j _ _ _ (by decide), py_up_j _ _ _ (by decide)]; exact ha) ?_
          refine go_aload_n (pc := 188) dX8_advances_188 rfl ?_
          refine go_getI (x := (nI 1)) (pc := 189) dX8_advances_189 fX8_101 rfl rfl (py_up_s _ _ _ _) ?_
          refine go_if_neN (tgt := 199) (pc := 192) dX8_advances_192 (by omega) (by decide) (fun c_192 => ?_) (fun c_192 => ?_)
          · refine go_iconst (v := nI 1) (pc := 199) dX8_advances_199 (by decide) ?_
            refine go_iaddN (pc := 200) dX8_advances_200  ?_
            refine go_putI (pc := 201) dX8_advances_201 fX8_89 rfl rfl ?_
            have etk : py_tk B N a = 1 := by unfold py_tk; rw [if_neg hr0, if_pos hlt]; (repeat' split) <;> omega
            have een : py_en B N a = a + 1 := by unfold py_en; rw [if_neg hr0, if_pos hlt]
            have evl : py_vl B N a = nI (B a) := by unfold py_vl; rw [if_neg hr0]; exact py_nx_lt hlt
            refine go_retV (pc := 204) dX8_advances_204 ⟨⟨by simp [py_up_ap], by rw [een]; simp [py_up_ap], by rw [etk]; simp [py_up_ap], by rw [evl]; simp [py_up_ap]⟩, (((((py_fr.rf [] [(47, 9), (47, 10), (47, 11), (47, 12)] σ).ut (by decide) _).ut (by decide) _).ut (by decide) _).ut (by decide) _)⟩
          · omega
      · exact absurd ((py_isd_iff B N a).mpr ⟨hlt, by omega, by omega⟩) hdg
  · have hr0 : ¬ 0 < py_run B N a := by have z := py_run_le B N a; omega
    refine go_aload_n (pc := 0) dX8_advances_0 rfl ?_
    refine go_aload_n (pc := 1) dX8_advances_1 rfl ?_
    refine go_getI (x := (nI a)) (pc := 2) dX8_advances_2 fX8_89 rfl rfl ha ?_
    refine go_putI (pc := 5) dX8_advances_5 fX8_92 rfl rfl ?_
    refine go_aload_n (pc := 8) dX8_advances_8 rfl ?_
    refine go_aload_n (pc := 9) dX8_advances_9 rfl ?_
    refine go_getI (x := (nI a)) (pc := 10) dX8_advances_10 fX8_89 rfl rfl (by rw [py_up_j _ _ _ (by decide)]; exact ha) ?_
    refine go_cV (pc := 13) dX8_advances_13 (ev_byteAt (py_tm_u (by decide) ht) (by omega)) lX8_95 YX8_byteAt VX8_byteAt rfl rfl rfl (by decide) rfl (Nat.le_of_ble_eq_true rfl) ?_
    refine go_top (y := (-1)) (py_nx_ge hlt) ?_
    refine go_istore_n (pc := 16) dX8_advances_16 (by decide) rfl ?_
    refine go_aload_n (pc := 17) dX8_advances_17 rfl ?_
    refine go_iload_n (pc := 18) dX8_advances_18 rfl ?_
    refine go_putI (pc := 19) dX8_advances_19 fX8_98 rfl rfl ?_
    refine go_iload_n (pc := 22) dX8_advances_22 rfl ?_
    refine go_bipush (v := nI 48) (pc := 23) dX8_advances_23 (by decide) ?_
    refine go_bipush (v := nI 57) (pc := 25) dX8_advances_25 (by decide) ?_
    refine go_cS (pc := 27) dX8_advances_27 ev_inN lX8_59 YX8_in SX8_in rfl (by decide) rfl (Nat.le_of_ble_eq_true rfl) ?_
    refine go_if_eqB (tgt := 135) (pc := 30) dX8_advances_30 (by decide) (fun c_30 => ?_) (fun c_30 => ?_)
    · refine go_aload_n (pc := 135) dX8_advances_135 rfl ?_
      refine go_iload_n (pc := 136) dX8_advances_136 rfl ?_
      refine go_if_geJ (tgt := 144) (pc := 137) dX8_advances_137 (by decide) (fun c_137 => ?_) (fun c_137 => ?_)
      · exact absurd c_137 (by decide)
      · refine go_iconst (v := nI 0) (pc := 140) dX8_advances_140 (by decide) ?_
        refine go_goto (tgt := 180) (pc := 141) dX8_advances_141 (by decide) ?_
        refine go_putI (pc := 180) dX8_advances_180 fX8_101 rfl rfl ?_
        refine go_aload_n (pc := 183) dX8_advances_183 rfl ?_
        refine go_dup (pc := 184) dX8_advances_184 rfl ?_
        refine go_getI (x := (nI a)) (pc := 185) dX8_advances_185 fX8_89 rfl rfl (by rw [py_up_j _ _ _ (by decide), py_up_j _ _ _ (by decide), py_up_j _ _ _ (by decide)]; exact ha) ?_
        refine go_aload_n (pc := 188) dX8_advances_188 rfl ?_
        refine go_getI (x := (nI 0)) (pc := 189) dX8_advances_189 fX8_101 rfl rfl (py_up_s _ _ _ _) ?_
        refine go_if_neN (tgt := 199) (pc := 192) dX8_advances_192 (by omega) (by decide) (fun c_192 => ?_) (fun c_192 => ?_)
        · omega
        · refine go_iconst (v := nI 0) (pc := 195) dX8_advances_195 (by decide) ?_
          refine go_goto (tgt := 200) (pc := 196) dX8_advances_196 (by decide) ?_
          refine go_iaddN (pc := 200) dX8_advances_200  ?_
          refine go_putI (pc := 201) dX8_advances_201 fX8_89 rfl rfl ?_
          have etk : py_tk B N a = 0 := py_tk_0.mpr hlt
          have een : py_en B N a = a := by unfold py_en; rw [if_neg hr0, if_neg hlt]
          have evl : py_vl B N a = -1 := by unfold py_vl; rw [if_neg hr0]; exact py_nx_ge hlt
          refine go_retV (pc := 204) dX8_advances_204 ⟨⟨by simp [py_up_ap], by rw [een]; simp [py_up_ap], by rw [etk]; simp [py_up_ap], by rw [evl]; simp [py_up_ap]⟩, (((((py_fr.rf [] [(47, 9), (47, 10), (47, 11), (47, 12)] σ).ut (by decide) _).ut (by decide) _).ut (by decide) _).ut (by decide) _)⟩
    · exact absurd c_30 (by decide)
set_option maxHeartbeats 4000000 in
set_option maxRecDepth 100000 in
theorem ev_isWell {X : py_X} {σ : py_H} {α : Type} {B : Nat → Nat} {N : Nat} {ft : Int32} {r : py_Re α} (hN : N ≤ 100) (h : py_lr σ B N ft r) : py_Ev X 0 yX8_isWell cX8_isWell 1 (some .boolean) [.ref 47] σ (py_ret (.int (py_b (py_isok r = true))) σ) := by
  refine py_ofZ (own := RX8) YX8_isWell.2.2.2.2 rfl rfl (Nat.le_of_ble_eq_true rfl) py_b_ok ?_
  show py_Go X RX8 cX8_isWell 1 0 0 [some (.ref 47)] [] σ (py_ret (.int (py_b (py_isok r = true))) σ)
  match r, h with
  | .inl e, h =>
    have hp3 := h.2.2
    refine go_aload_n (pc := 0) dX8_isWell_0 rfl ?_
    refine go_getI (x := (nI (e.1))) (pc := 1) dX8_isWell_1 fX8_104 rfl rfl h.1 ?_
    refine go_if_geN (tgt := 11) (pc := 4) dX8_isWell_4 (by omega) (by decide) ?_
    refine go_iconst (v := nI 0) (pc := 11) dX8_isWell_11 (by decide) ?_
    exact go_retI (pc := 12) dX8_isWell_12 (py_b_f (show ¬ py_isok (Sum.inl e : py_Re α) = true from Bool.false_ne_true)).symm rfl
  | .inr q, h =>
    refine go_aload_n (pc := 0) dX8_isWell_0 rfl ?_
    refine go_getI (x := (-1)) (pc := 1) dX8_isWell_1 fX8_104 rfl rfl h.1 ?_
    refine go_if_geJ (tgt := 11) (pc := 4) dX8_isWell_4 (by decide) (fun c_4 => ?_) (fun c_4 => ?_)
    · exact absurd c_4 (by decide)
    · refine go_iconst (v := nI 1) (pc := 7) dX8_isWell_7 (by decide) ?_
      refine go_goto (tgt := 12) (pc := 8) dX8_isWell_8 (by decide) ?_
      exact go_retI (pc := 12) dX8_isWell_12 (py_b_t (show py_isok (Sum.inr q : py_Re α) = true from rfl)).symm rfl
set_option maxHeartbeats 4000000 in
set_option maxRecDepth 100000 in
theorem ev_takes {X : py_X} {σ : py_H} {α : Type} {B : Nat → Nat} {N : Nat} {ft : Int32} {r : py_Re α} (ht : py_tm σ B N) (h : py_lr σ B N ft r) {b : Prop} [Decidable b] {k : Nat} : py_Ev X 2 yX8_takes cX8_takes 4 (some .int) [.ref 47, .int (py_b (b)), .int (nI k)] σ (py_vs (some (.int (py_iv (py_tks B N r b k)))) (fun s => py_lr s B N ft (py_tks B N r b k) ∧ py_fr [] py_T6 σ s)) := by
  refine py_ofI (own := RX8) YX8_takes.2.2.2.2 rfl rfl (Nat.le_of_ble_eq_true rfl)  ?_
  show py_Go X RX8 cX8_takes 4 2 0 [some (.ref 47), some (.int (py_b (b))), some (.int (nI k)), none] [] σ (py_vs (some (.int (py_iv (py_tks B N r b k)))) (fun s => py_lr s B N ft (py_tks B N r b k) ∧ py_fr [] py_T6 σ s))
  have hN := ht.2.1
  match r, h with
  | .inl e, h =>
    refine go_aload_n (pc := 0) dX8_takes_0 rfl ?_
    refine go_cV (pc := 1) dX8_takes_1 (ev_isWell hN h) lX8_107 YX8_isWell VX8_isWell rfl rfl rfl (by decide) rfl (Nat.le_of_ble_eq_true rfl) ?_
    refine go_if_neB (tgt := 9) (pc := 4) dX8_takes_4 (by decide) (fun c_4 => ?_) (fun c_4 => ?_)
    · exact absurd c_4 Bool.false_ne_true
    · refine go_iconst (v := nI 0) (pc := 7) dX8_takes_7 (by decide) ?_
      exact go_retI (pc := 8) dX8_takes_8 rfl ⟨h, py_fr.rf _ _ σ⟩
  | .inr q, h =>
    refine go_aload_n (pc := 0) dX8_takes_0 rfl ?_
    refine go_cV (pc := 1) dX8_takes_1 (ev_isWell hN h) lX8_107 YX8_isWell VX8_isWell rfl rfl rfl (by decide) rfl (Nat.le_of_ble_eq_true rfl) ?_
    refine go_if_neB (tgt := 9) (pc := 4) dX8_takes_4 (by decide) (fun c_4 => ?_) (fun c_4 => ?_)
    · refine go_iload_n (pc := 9) dX8_takes_9 rfl ?_
      refine go_if_neB (tgt := 28) (pc := 10) dX8_takes_10 (by decide) (fun c_10 => ?_) (fun c_10 => ?_)
      · refine go_aload_n (pc := 28) dX8_takes_28 rfl ?_
        refine go_getI (x := (py_vl B N q.1)) (pc := 29) dX8_takes_29 fX8_98 rfl rfl h.2.1.2.2.2 ?_
        refine go_istore_n (pc := 32) dX8_takes_32 (by decide) rfl ?_
        refine go_aload_n (pc := 33) dX8_takes_33 rfl ?_
        refine go_cVv (pc := 34) dX8_takes_34 (ev_advances ht h.2.1.2.1 (py_en_le h.2.2.2)) lX8_114 YX8_advances VX8_advances rfl rfl rfl (by decide) rfl (Nat.le_of_ble_eq_true rfl) (fun s1 hs1 => ?_)
        obtain ⟨hx, hf⟩ := hs1
        refine go_iload_n (pc := 37) dX8_takes_37 rfl ?_
        have er : py_tks B N (Sum.inr q : py_Re α) b k = .inr (py_en B N q.1, py_vl B N q.1) := if_pos c_10
        rw [er]
        exact go_retI (pc := 38) dX8_takes_38 rfl ⟨⟨by rw [hf 47 8 (by decide) (by decide)]; exact h.1, hx, by rw [hf 47 7 (by decide) (by decide)]; exact h.2.2.1, py_en_le h.2.2.2⟩, hf.wd (by decide) (by decide)⟩
      · refine go_aload_n (pc := 13) dX8_takes_13 rfl ?_
        refine go_aload_n (pc := 14) dX8_takes_14 rfl ?_
        refine go_getI (x := (nI (q.1))) (pc := 15) dX8_takes_15 fX8_92 rfl rfl h.2.1.1 ?_
        refine go_putI (pc := 18) dX8_takes_18 fX8_104 rfl rfl ?_
        refine go_aload_n (pc := 21) dX8_takes_21 rfl ?_
        refine go_iload_n (pc := 22) dX8_takes_22 rfl ?_
        refine go_putI (pc := 23) dX8_takes_23 fX8_111 rfl rfl ?_
        refine go_iconst (v := nI 0) (pc := 26) dX8_takes_26 (by decide) ?_
        have er : py_tks B N (Sum.inr q : py_Re α) b k = .inl (q.1, k) := if_neg c_10
        rw [er]
        exact go_retI (pc := 27) dX8_takes_27 rfl ⟨⟨by simp [py_up_ap], py_up_s _ _ _ _, h.2.2.2⟩, ((py_fr.rf [] py_T6 σ).ut (by decide) _).ut (by decide) _⟩
    · exact absurd rfl c_4
set_option maxHeartbeats 4000000 in
set_option maxRecDepth 100000 in
theorem ev_kindOf {X : py_X} {σ : py_H} {x : Int32} : py_Ev X 0 yX8_kindOf cX8_kindOf 1 (some .int) [.int (x)] σ (py_ret (.int (nI (py_kdI x))) σ) := by
  refine py_ofI (own := RX8) YX8_kindOf.2.2.2.2 rfl rfl (Nat.le_of_ble_eq_true rfl)  ?_
  show py_Go X RX8 cX8_kindOf 1 0 0 [some (.int (x))] [] σ (py_ret (.int (nI (py_kdI x))) σ)
  refine go_iload_n (pc := 0) dX8_kindOf_0 rfl ?_
  refine go_bipush (v := nI 111) (pc := 1) dX8_kindOf_1 (by decide) ?_
  refine go_icmp_ne (tgt := 10) (pc := 3) dX8_kindOf_3 (by decide) (fun c_3 => ?_) (fun c_3 => ?_)
  · have e_3 : x.toInt ≠ 111 := fun z => c_3 (Int32.toInt_inj.mp (by rw [z]; decide))
    refine go_iload_n (pc := 10) dX8_kindOf_10 rfl ?_
    refine go_bipush (v := nI 99) (pc := 11) dX8_kindOf_11 (by decide) ?_
    refine go_icmp_ne (tgt := 20) (pc := 13) dX8_kindOf_13 (by decide) (fun c_13 => ?_) (fun c_13 => ?_)
    · have e_13 : x.toInt ≠ 99 := fun z => c_13 (Int32.toInt_inj.mp (by rw [z]; decide))
      refine go_iload_n (pc := 20) dX8_kindOf_20 rfl ?_
      refine go_bipush (v := nI 117) (pc := 21) dX8_kindOf_21 (by decide) ?_
      refine go_icmp_ne (tgt := 30) (pc := 23) dX8_kindOf_23 (by decide) (fun c_23 => ?_) (fun c_23 => ?_)
      · have e_23 : x.toInt ≠ 117 := fun z => c_23 (Int32.toInt_inj.mp (by rw [z]; decide))
        refine go_iload_n (pc := 30) dX8_kindOf_30 rfl ?_
        refine go_bipush (v := nI 112) (pc := 31) dX8_kindOf_31 (by decide) ?_
        refine go_icmp_ne (tgt := 40) (pc := 33) dX8_kindOf_33 (by decide) (fun c_33 => ?_) (fun c_33 => ?_)
        · have e_33 : x.toInt ≠ 112 := fun z => c_33 (Int32.toInt_inj.mp (by rw [z]; decide))
          refine go_iload_n (pc := 40) dX8_kindOf_40 rfl ?_
          refine go_bipush (v := nI 115) (pc := 41) dX8_kindOf_41 (by decide) ?_
          refine go_icmp_ne (tgt := 50) (pc := 43) dX8_kindOf_43 (by decide) (fun c_43 => ?_) (fun c_43 => ?_)
          · have e_43 : x.toInt ≠ 115 := fun z => c_43 (Int32.toInt_inj.mp (by rw [z]; decide))
            refine go_iconst (v := nI 0) (pc := 50) dX8_kindOf_50 (by decide) ?_
            exact go_retI (pc := 51) dX8_kindOf_51 (by unfold py_kdI; (repeat' split) <;> first | rfl | (exfalso; omega)) rfl
          · have e_43 : x.toInt = 115 := by rw [c_43]; decide
            refine go_iconst (v := nI 5) (pc := 46) dX8_kindOf_46 (by decide) ?_
            refine go_goto (tgt := 51) (pc := 47) dX8_kindOf_47 (by decide) ?_
            exact go_retI (pc := 51) dX8_kindOf_51 (by unfold py_kdI; (repeat' split) <;> first | rfl | (exfalso; omega)) rfl
        · have e_33 : x.toInt = 112 := by rw [c_33]; decide
          refine go_iconst (v := nI 4) (pc := 36) dX8_kindOf_36 (by decide) ?_
          refine go_goto (tgt := 51) (pc := 37) dX8_kindOf_37 (by decide) ?_
          exact go_retI (pc := 51) dX8_kindOf_51 (by unfold py_kdI; (repeat' split) <;> first | rfl | (exfalso; omega)) rfl
      · have e_23 : x.toInt = 117 := by rw [c_23]; decide
        refine go_iconst (v := nI 3) (pc := 26) dX8_kindOf_26 (by decide) ?_
        refine go_goto (tgt := 51) (pc := 27) dX8_kindOf_27 (by decide) ?_
        exact go_retI (pc := 51) dX8_kindOf_51 (by unfold py_kdI; (repeat' split) <;> first | rfl | (exfalso; omega)) rfl
    · have e_13 : x.toInt = 99 := by rw [c_13]; decide
      refine go_iconst (v := nI 2) (pc := 16) dX8_kindOf_16 (by decide) ?_
      refine go_goto (tgt := 51) (pc := 17) dX8_kindOf_17 (by decide) ?_
      exact go_retI (pc := 51) dX8_kindOf_51 (by unfold py_kdI; (repeat' split) <;> first | rfl | (exfalso; omega)) rfl
  · have e_3 : x.toInt = 111 := by rw [c_3]; decide
    refine go_iconst (v := nI 1) (pc := 6) dX8_kindOf_6 (by decide) ?_
    refine go_goto (tgt := 51) (pc := 7) dX8_kindOf_7 (by decide) ?_
    exact go_retI (pc := 51) dX8_kindOf_51 (by unfold py_kdI; (repeat' split) <;> first | rfl | (exfalso; omega)) rfl
theorem py_tks_f {α : Type} {B : Nat → Nat} {N : Nat} {q : Nat × α} {b : Prop} [Decidable b] {k : Nat} (h : ¬ b) : py_tks B N (Sum.inr q : py_Re α) b k = .inl (q.1, k) := if_neg h
theorem py_tks_t {α : Type} {B : Nat → Nat} {N : Nat} {q : Nat × α} {b : Prop} [Decidable b] {k : Nat} (h : b) : py_tks B N (Sum.inr q : py_Re α) b k = .inr (py_en B N q.1, py_vl B N q.1) := if_pos h
theorem py_fals : py_b False = nI 0 := rfl
theorem py_num_1 {B : Nat → Nat} {N a lo hi : Nat} (h : py_tk B N a ≠ 2) : py_num B N a lo hi = .inl (a, 1) := by
  unfold py_num
  rw [if_neg (fun z => h (py_tk_2.mpr z))]
theorem py_num_t {B : Nat → Nat} {N a lo hi : Nat} (h : py_tk B N a = 2) : py_num B N a lo hi = (if lo ≤ py_nv B N a ∧ py_nv B N a ≤ hi then .inr (a + py_run B N a, py_nv B N a) else .inl (a, 2)) ∧ py_en B N a = a + py_run B N a ∧ py_vl B N a = nI (py_nv B N a) := by
  have z := py_tk_2.mp h
  refine ⟨?_, ?_, ?_⟩
  · unfold py_num; rw [if_pos z]
  · unfold py_en; rw [if_pos (by omega)]
  · unfold py_vl; rw [if_pos (by omega)]
set_option maxHeartbeats 4000000 in
set_option maxRecDepth 100000 in
theorem ev_figure {X : py_X} {σ : py_H} {α : Type} {B : Nat → Nat} {N : Nat} {ft : Int32} {r : py_Re α} (ht : py_tm σ B N) (h : py_lr σ B N ft r) {lo hi : Nat} (hlo : lo < 2 ^ 31) (hhi : hi < 2 ^ 31) : py_Ev X 3 yX8_figure cX8_figure 3 (some .int) [.ref 47, .int (nI lo), .int (nI hi)] σ (py_vs (some (.int (py_rv0 (py_bi r (fun a _ => py_num B N a lo hi))))) (fun s => py_lr s B N ft (py_bi r (fun a _ => py_num B N a lo hi)) ∧ py_fr [] py_T6 σ s)) := by
  refine py_ofI (own := RX8) YX8_figure.2.2.2.2 rfl rfl (Nat.le_of_ble_eq_true rfl)  ?_
  show py_Go X RX8 cX8_figure 3 3 0 [some (.ref 47), some (.int (nI lo)), some (.int (nI hi))] [] σ (py_vs (some (.int (py_rv0 (py_bi r (fun a _ => py_num B N a lo hi))))) (fun s => py_lr s B N ft (py_bi r (fun a _ => py_num B N a lo hi)) ∧ py_fr [] py_T6 σ s))
  have hN := ht.2.1
  match r, h with
  | .inl e, h =>
    refine go_aload_n (pc := 0) dX8_figure_0 rfl ?_
    refine go_cV (pc := 1) dX8_figure_1 (ev_isWell hN h) lX8_107 YX8_isWell VX8_isWell rfl rfl rfl (by decide) rfl (Nat.le_of_ble_eq_true rfl) ?_
    refine go_if_eqB (tgt := 22) (pc := 4) dX8_figure_4 (by decide) (fun c_4 => ?_) (fun c_4 => ?_)
    · refine go_aload_n (pc := 22) dX8_figure_22 rfl ?_
      refine go_aload_n (pc := 23) dX8_figure_23 rfl ?_
      refine go_getI (x := (σ 47 12)) (pc := 24) dX8_figure_24 fX8_98 rfl rfl rfl ?_
      refine go_iload_n (pc := 27) dX8_figure_27 rfl ?_
      refine go_iload_n (pc := 28) dX8_figure_28 rfl ?_
      refine go_cS (pc := 29) dX8_figure_29 (ev_inN (ha := hlo) (hb := hhi)) lX8_59 YX8_in SX8_in rfl (by decide) rfl (Nat.le_of_ble_eq_true rfl) ?_
      refine go_iconst (v := nI 2) (pc := 32) dX8_figure_32 (by decide) ?_
      refine go_cVi (pc := 33) dX8_figure_33 (ev_takes ht h) lX8_117 YX8_takes VX8_takes rfl rfl rfl (by decide) rfl (Nat.le_of_ble_eq_true rfl) (fun s1 hs1 => ?_)
      exact go_retI (pc := 36) dX8_figure_36 rfl hs1
    · exact absurd c_4 Bool.false_ne_true
  | .inr q, h =>
    refine go_aload_n (pc := 0) dX8_figure_0 rfl ?_
    refine go_cV (pc := 1) dX8_figure_1 (ev_isWell hN h) lX8_107 YX8_isWell VX8_isWell rfl rfl rfl (by decide) rfl (Nat.le_of_ble_eq_true rfl) ?_
    refine go_if_eqB (tgt := 22) (pc := 4) dX8_figure_4 (by decide) (fun c_4 => ?_) (fun c_4 => ?_)
    · exact absurd rfl c_4
    · refine go_aload_n (pc := 7) dX8_figure_7 rfl ?_
      refine go_getI (x := (nI (py_tk B N q.1))) (pc := 8) dX8_figure_8 fX8_101 rfl rfl h.2.1.2.2.1 ?_
      refine go_iconst (v := nI 2) (pc := 11) dX8_figure_11 (by decide) ?_
      have htk5 := py_tk_5 B N q.1
      refine go_icmp_eqN (tgt := 22) (pc := 12) dX8_figure_12 (by omega) (by omega) (by decide) (fun c_12 => ?_) (fun c_12 => ?_)
      · have hnt := py_num_t (lo := lo) (hi := hi) c_12
        have hnv := py_nv_le (B := B) hN (show 0 < py_run B N q.1 by have z := py_tk_2.mp c_12; omega)
        have hnvI : (nI (py_nv B N q.1)).toInt = (py_nv B N q.1 : Int) := nI_toInt (by omega)
        refine go_aload_n (pc := 22) dX8_figure_22 rfl ?_
        refine go_aload_n (pc := 23) dX8_figure_23 rfl ?_
        refine go_getI (x := (nI (py_nv B N q.1))) (pc := 24) dX8_figure_24 fX8_98 rfl rfl (by rw [h.2.1.2.2.2, hnt.2.2]) ?_
        refine go_iload_n (pc := 27) dX8_figure_27 rfl ?_
        refine go_iload_n (pc := 28) dX8_figure_28 rfl ?_
        refine go_cS (pc := 29) dX8_figure_29 (ev_inN (ha := hlo) (hb := hhi)) lX8_59 YX8_in SX8_in rfl (by decide) rfl (Nat.le_of_ble_eq_true rfl) ?_
        refine go_iconst (v := nI 2) (pc := 32) dX8_figure_32 (by decide) ?_
        refine go_cVi (pc := 33) dX8_figure_33 (ev_takes (b := ((lo : Nat) : Int) ≤ (nI (py_nv B N q.1)).toInt ∧ (nI (py_nv B N q.1)).toInt ≤ ((hi : Nat) : Int)) (k := 2) ht h) lX8_117 YX8_takes VX8_takes rfl rfl rfl (by decide) rfl (Nat.le_of_ble_eq_true rfl) (fun s1 hs1 => ?_)
        by_cases hb : ((lo : Nat) : Int) ≤ (nI (py_nv B N q.1)).toInt ∧ (nI (py_nv B N q.1)).toInt ≤ ((hi : Nat) : Int)
        · have er : py_bi (Sum.inr q : py_Re α) (fun a _ => py_num B N a lo hi) = .inr (q.1 + py_run B N q.1, py_nv B N q.1) := hnt.1.trans (if_pos (by omega))
          rw [er]
          rw [py_tks_t hb] at hs1 ⊢
          rw [hnt.2.1, hnt.2.2] at hs1 ⊢
          exact go_retI (pc := 36) dX8_figure_36 rfl hs1
        · have er : py_bi (Sum.inr q : py_Re α) (fun a _ => py_num B N a lo hi) = .inl (q.1, 2) := hnt.1.trans (if_neg (by omega))
          rw [er]
          rw [py_tks_f hb] at hs1 ⊢
          exact go_retI (pc := 36) dX8_figure_36 rfl hs1
      · refine go_aload_n (pc := 15) dX8_figure_15 rfl ?_
        refine go_iconst (v := nI 0) (pc := 16) dX8_figure_16 (by decide) ?_
        refine go_iconst (v := nI 1) (pc := 17) dX8_figure_17 (by decide) ?_
        refine go_cVi (pc := 18) dX8_figure_18 (ev_takes (b := False) (k := 1) ht h) lX8_117 YX8_takes VX8_takes rfl rfl rfl (by decide) rfl (Nat.le_of_ble_eq_true rfl) (fun s1 hs1 => ?_)
        have er : py_bi (Sum.inr q : py_Re α) (fun a _ => py_num B N a lo hi) = .inl (q.1, 1) := py_num_1 c_12
        rw [er]
        rw [py_tks_f (fun z => z)] at hs1
        exact go_retI (pc := 21) dX8_figure_21 rfl hs1
set_option maxHeartbeats 4000000 in
set_option maxRecDepth 100000 in
theorem ev_next2 {X : py_X} {σ : py_H} {α : Type} {B : Nat → Nat} {N : Nat} {ft : Int32} {r : py_Re α} (ht : py_tm σ B N) (h : py_lr σ B N ft r) {lo hi : Nat} (hlo : lo < 2 ^ 31) (hhi : hi < 2 ^ 31) : py_Ev X 4 yX8_next cX8_next 3 (some .int) [.ref 47, .int (nI lo), .int (nI hi)] σ (py_vs (some (.int (py_rv0 (py_bi r (fun a _ => py_bi (py_chr B N a 44) (fun a _ => py_num B N a lo hi)))))) (fun s => py_lr s B N ft (py_bi r (fun a _ => py_bi (py_chr B N a 44) (fun a _ => py_num B N a lo hi))) ∧ py_fr [] py_T6 σ s)) := by
  refine py_ofI (own := RX8) YX8_next.2.2.2.2 rfl rfl (Nat.le_of_ble_eq_true rfl)  ?_
  show py_Go X RX8 cX8_next 3 4 0 [some (.ref 47), some (.int (nI lo)), some (.int (nI hi))] [] σ (py_vs (some (.int (py_rv0 (py_bi r (fun a _ => py_bi (py_chr B N a 44) (fun a _ => py_num B N a lo hi)))))) (fun s => py_lr s B N ft (py_bi r (fun a _ => py_bi (py_chr B N a 44) (fun a _ => py_num B N a lo hi))) ∧ py_fr [] py_T6 σ s))
  have hN := ht.2.1
  refine go_aload_n (pc := 0) dX8_next_0 rfl ?_
  refine go_aload_n (pc := 1) dX8_next_1 rfl ?_
  refine go_getI (x := (σ 47 11)) (pc := 2) dX8_next_2 fX8_101 rfl rfl rfl ?_
  refine go_iconst (v := nI 3) (pc := 5) dX8_next_5 (by decide) ?_
  suffices K6 : py_Go X RX8 cX8_next 3 4 14 [some (.ref 47), some (.int (nI lo)), some (.int (nI hi))] [.int (py_b ((σ 47 11) = (nI 3))), .ref 47] σ (py_vs (some (.int (py_rv0 (py_bi r (fun a _ => py_bi (py_chr B N a 44) (fun a _ => py_num B N a lo hi)))))) (fun s => py_lr s B N ft (py_bi r (fun a _ => py_bi (py_chr B N a 44) (fun a _ => py_num B N a lo hi))) ∧ py_fr [] py_T6 σ s)) by
    refine go_icmp_ne (tgt := 13) (pc := 6) dX8_next_6 (by decide) (fun c_6 => ?_) (fun c_6 => ?_)
    · refine go_iconst (v := nI 0) (pc := 13) dX8_next_13 (by decide) ?_
      have e9 := K6
      rw [py_b_f c_6] at e9
      exact e9
    · refine go_iconst (v := nI 1) (pc := 9) dX8_next_9 (by decide) ?_
      refine go_goto (tgt := 14) (pc := 10) dX8_next_10 (by decide) ?_
      have e9 := K6
      rw [py_b_t c_6] at e9
      exact e9
  refine go_iconst (v := nI 1) (pc := 14) dX8_next_14 (by decide) ?_
  refine go_cVi (pc := 15) dX8_next_15 (ev_takes (b := σ 47 11 = nI 3) (k := 1) ht h) lX8_117 YX8_takes VX8_takes rfl rfl rfl (by decide) rfl (Nat.le_of_ble_eq_true rfl) (fun s1 hs1 => ?_)
  obtain ⟨h1, hf1⟩ := hs1
  have h1c := py_lr_sp (py_tks_c (c := 44) hN (Or.inl ⟨rfl, rfl⟩) h) h1
  refine go_pop (pc := 18) dX8_next_18 rfl ?_
  refine go_aload_n (pc := 19) dX8_next_19 rfl ?_
  refine go_iload_n (pc := 20) dX8_next_20 rfl ?_
  refine go_iload_n (pc := 21) dX8_next_21 rfl ?_
  refine go_cVi (pc := 22) dX8_next_22 (ev_figure (py_tm_6 hf1 (by decide) ht) h1c hlo hhi) lX8_121 YX8_figure VX8_figure rfl rfl rfl (by decide) rfl (Nat.le_of_ble_eq_true rfl) (fun s2 hs2 => ?_)
  exact go_retI (pc := 25) dX8_next_25 (by rw [py_bi_a]) ⟨by rw [← py_bi_a]; exact hs2.1, hf1.tr hs2.2 (by decide) (by decide)⟩
