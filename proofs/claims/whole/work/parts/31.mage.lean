/-! contracts: the reference's years -/
theorem py_wm_c {G G2 : Nat → Nat} (h : py_wm G) (e : ∀ j, j ≠ 2 → (∀ p, j ≠ 15 + 4 * p) → G2 j = G j) (hy : G2 2 ≤ 5000) (hc : ∀ p, p < G 12 → G2 (15 + 4 * p) ≤ 60) : py_wm G2 := by
  obtain ⟨w12, w3, w2, wW, wP⟩ := h
  have e12 := e 12 (by decide) (fun p => by omega)
  have e3 := e 3 (by decide) (fun p => by omega)
  unfold py_wm
  rw [e12, e3]
  refine ⟨w12, w3, hy, fun w hw => ?_, fun p hp => ?_⟩
  · rw [e (4 + 2 * w) (by omega) (fun p => by omega), e (5 + 2 * w) (by omega) (fun p => by omega)]
    exact wW w hw
  · have z := wP p hp
    rw [e (13 + 4 * p) (by omega) (fun q => by omega), e (14 + 4 * p) (by omega) (fun q => by omega), e (16 + 4 * p) (by omega) (fun q => by omega)]
    exact ⟨z.1, z.2.1, z.2.2.1, hc p hp, z.2.2.2.2⟩
theorem py_age_wm {G : Nat → Nat} (h : py_wm G) {d : Nat} (hd : G 2 + d ≤ 5000) : py_wm (py_age G d) := by
  refine py_wm_c h (fun j h2 hj => py_age_n G d h2 hj) (by rw [py_age_2]; exact hd) (fun p hp => ?_)
  rw [py_age_l G d hp]
  have z := (h.2.2.2.2 p hp).2.2.2.1
  omega
theorem py_pp_wm {G : Nat → Nat} (h : py_wm G) (i : Nat) : py_wm (py_pp G i) := by
  refine py_wm_c h (fun j _ hj => py_pp_o hj) (by rw [py_pp_o (fun p => by omega)]; exact h.2.2.1) (fun p hp => ?_)
  have z := (h.2.2.2.2 p hp).2.2.2.1
  by_cases hi : p < i
  · rw [py_pp_l hi]; omega
  · rw [py_pp_g (by omega)]; exact z
theorem py_pp_f1 {G : Nat → Nat} (h : py_wm G) (i : Nat) {p : Nat} (hp : p < G 12) : py_f1 (py_pp G i) p = py_f1 G p := by
  have z := (h.2.2.2.2 p hp).2.2.2.2
  have h3 := h.2.1
  unfold py_f1
  rw [py_pp_o (j := 13 + 4 * p) (fun q => by omega), py_pp_o (j := 14 + 4 * p) (fun q => by omega), py_pp_o (j := 16 + 4 * p) (fun q => by omega), py_pp_o (j := 4 + 2 * G (16 + 4 * p)) (fun q => by omega), py_pp_o (j := 5 + 2 * G (16 + 4 * p)) (fun q => by omega), py_pp_o (j := 2) (fun q => by omega)]
theorem py_pp_s {G : Nat → Nat} (i : Nat) : py_pc2 (py_pp G i) i (G (15 + 4 * i) - py_f1 G i) = py_pp G (i + 1) := by
  funext j
  unfold py_pc2
  by_cases hj : j = 15 + 4 * i
  · rw [if_pos hj, hj, py_pp_l (by omega)]
  · rw [if_neg hj]
    unfold py_pp
    by_cases hc : 15 ≤ j ∧ (j - 15) % 4 = 0 ∧ (j - 15) / 4 < i
    · rw [if_pos hc, if_pos ⟨hc.1, hc.2.1, by omega⟩]
    · rw [if_neg hc, if_neg]
      rintro ⟨h1, h2, h3⟩
      exact hc ⟨h1, h2, by omega⟩
theorem py_pp_age {G : Nat → Nat} (h : py_wm G) : (fun j => if j = 2 then G 2 + 1 else py_pp G (G 12) j) = py_age G 1 := by
  funext j
  by_cases h2 : j = 2
  · subst h2; rw [py_age_2]; rfl
  · rw [if_neg h2]
    by_cases hl : ∃ p, p < G 12 ∧ j = 15 + 4 * p
    · obtain ⟨p, hp, rfl⟩ := hl
      rw [py_pp_l hp, py_age_l G 1 hp]
      unfold py_fn py_f1
      rw [py_fs_1 (h.2.2.2.2 p hp).2.1]
    · rw [py_age_o G 1 h2 (fun p hp e => hl ⟨p, hp, e⟩)]
      unfold py_pp
      rw [if_neg]
      rintro ⟨a, b, c⟩
      exact hl ⟨(j - 15) / 4, c, by omega⟩
theorem py_age_ag {G : Nat → Nat} (h : py_wm G) (d : Nat) : py_age (py_age G d) 1 = py_age G (d + 1) := by
  funext j
  have e12 := py_age_12 G d
  by_cases h2 : j = 2
  · subst h2; rw [py_age_2, py_age_2, py_age_2]; omega
  by_cases hl : ∃ p, p < G 12 ∧ j = 15 + 4 * p
  · obtain ⟨p, hp, rfl⟩ := hl
    have y := h.2.2.2.2 p hp
    have h3 := h.2.1
    rw [py_age_l _ 1 (by rw [e12]; exact hp), py_age_l G d hp, py_age_l G (d + 1) hp]
    have e1 : py_fn (py_age G d) p 1 = py_fd (G (13 + 4 * p)) (G (14 + 4 * p)) (G (4 + 2 * G (16 + 4 * p))) (G (5 + 2 * G (16 + 4 * p))) (G 2 + d) := by
      rw [← py_age_f1 G d p (by omega)]
      unfold py_fn py_f1
      rw [py_fs_1]
      rw [py_age_n G d (j := 14 + 4 * p) (by omega) (fun q => by omega)]
      exact y.2.1
    have e2 : py_fn G p (d + 1) = py_fn G p d + py_fd (G (13 + 4 * p)) (G (14 + 4 * p)) (G (4 + 2 * G (16 + 4 * p))) (G (5 + 2 * G (16 + 4 * p))) (G 2 + d) := py_fs_s y.2.1
    rw [e1, e2]
    omega
  · rw [py_age_o _ 1 h2 (fun p hp e => hl ⟨p, by rw [← e12]; exact hp, e⟩), py_age_o G d h2 (fun p hp e => hl ⟨p, hp, e⟩), py_age_o G (d + 1) h2 (fun p hp e => hl ⟨p, hp, e⟩)]
/-- a number of the house is put in the row -/
theorem py_hm_up {σ : py_H} {k : Nat} {G : Nat → Nat} {i v : Nat} (h : py_hm (σ k) 0 G) {i2 : Nat} (e : i2 = i) : py_hm (py_up σ k i2 (nI v) k) 0 (fun j => if j = i then v else G j) := fun j hj => by
  subst e
  have z := h j hj
  rw [Nat.zero_add] at z ⊢
  dsimp only
  rw [py_up_jj]
  by_cases hq : j = i2
  · rw [if_pos hq, if_pos hq]
  · rw [if_neg hq, if_neg hq]; exact z
set_option maxHeartbeats 4000000 in
set_option maxRecDepth 100000 in
theorem ev_fades_53 {X : py_X} {σ : py_H} {G : Nat → Nat} (hG : py_hm (σ 53) 0 G) (hw : py_wm G) {p : Nat} (hp : p < G 12) : py_Ev X 0 yX8_fades cX8_fades 6 (some .int) [.ref 53, .int (nI p)] σ (py_ret (.int (nI (py_f1 G p))) σ) := by
  obtain ⟨w12, w3, w2, wW, wP⟩ := id hw
  refine py_ofI (own := RX8) YX8_fades.2.2.2.2 rfl rfl (Nat.le_of_ble_eq_true rfl)  ?_
  show py_Go X RX8 cX8_fades 6 0 0 [some (.ref 53), some (.int (nI p)), none, none, none, none] [] σ (py_ret (.int (nI (py_f1 G p))) σ)
  have hP := wP p hp
  have hL := wW _ hP.2.2.2.2
  refine go_bipush (v := nI 13) (pc := 0) dX8_fades_0 (by decide) ?_
  refine go_iconst (v := nI 4) (pc := 2) dX8_fades_2 (by decide) ?_
  refine go_iload_n (pc := 3) dX8_fades_3 rfl ?_
  refine go_imulN (pc := 4) dX8_fades_4  ?_
  refine go_iaddN (pc := 5) dX8_fades_5  ?_
  refine go_istore_n (pc := 6) dX8_fades_6 (by decide) rfl ?_
  refine go_aload_n (pc := 7) dX8_fades_7 rfl ?_
  refine go_iconst (v := nI 4) (pc := 8) dX8_fades_8 (by decide) ?_
  refine go_iconst (v := nI 2) (pc := 9) dX8_fades_9 (by decide) ?_
  refine go_aload_n (pc := 10) dX8_fades_10 rfl ?_
  refine go_iload_n (pc := 11) dX8_fades_11 rfl ?_
  refine go_iconst (v := nI 3) (pc := 12) dX8_fades_12 (by decide) ?_
  refine go_iaddN (pc := 13) dX8_fades_13  ?_
  refine go_aldN (x := (nI (G (16 + 4 * p)))) (pc := 14) dX8_fades_14 rfl (by show (13 + (4 * p)) + 3 < 33; omega) (py_hm_at hG (show (13 + (4 * p)) + 3 = 16 + 4 * p by omega) (by omega)) ?_
  refine go_imulN (pc := 15) dX8_fades_15  ?_
  refine go_iaddN (pc := 16) dX8_fades_16  ?_
  refine go_aldN (x := (nI (G (4 + 2 * G (16 + 4 * p))))) (pc := 17) dX8_fades_17 rfl (by show 4 + (2 * (G (16 + 4 * p))) < 33; omega) (py_hm_at hG (show 4 + (2 * (G (16 + 4 * p))) = 4 + 2 * G (16 + 4 * p) by omega) (by omega)) ?_
  refine go_istore_n (pc := 18) dX8_fades_18 (by decide) rfl ?_
  refine go_aload_n (pc := 19) dX8_fades_19 rfl ?_
  refine go_iconst (v := nI 4) (pc := 20) dX8_fades_20 (by decide) ?_
  refine go_iconst (v := nI 2) (pc := 21) dX8_fades_21 (by decide) ?_
  refine go_aload_n (pc := 22) dX8_fades_22 rfl ?_
  refine go_iload_n (pc := 23) dX8_fades_23 rfl ?_
  refine go_iconst (v := nI 3) (pc := 24) dX8_fades_24 (by decide) ?_
  refine go_iaddN (pc := 25) dX8_fades_25  ?_
  refine go_aldN (x := (nI (G (16 + 4 * p)))) (pc := 26) dX8_fades_26 rfl (by show (13 + (4 * p)) + 3 < 33; omega) (py_hm_at hG (show (13 + (4 * p)) + 3 = 16 + 4 * p by omega) (by omega)) ?_
  refine go_imulN (pc := 27) dX8_fades_27  ?_
  refine go_iaddN (pc := 28) dX8_fades_28  ?_
  refine go_iconst (v := nI 1) (pc := 29) dX8_fades_29 (by decide) ?_
  refine go_iaddN (pc := 30) dX8_fades_30  ?_
  refine go_aldN (x := (nI (G (5 + 2 * G (16 + 4 * p))))) (pc := 31) dX8_fades_31 rfl (by show (4 + (2 * (G (16 + 4 * p)))) + 1 < 33; omega) (py_hm_at hG (show (4 + (2 * (G (16 + 4 * p)))) + 1 = 5 + 2 * G (16 + 4 * p) by omega) (by omega)) ?_
  refine go_istore (pc := 32) dX8_fades_32 (by decide) rfl ?_
  refine go_iconst (v := nI 1) (pc := 34) dX8_fades_34 (by decide) ?_
  refine go_iload_n (pc := 35) dX8_fades_35 rfl ?_
  refine go_aload_n (pc := 36) dX8_fades_36 rfl ?_
  refine go_iload_n (pc := 37) dX8_fades_37 rfl ?_
  refine go_iconst (v := nI 1) (pc := 38) dX8_fades_38 (by decide) ?_
  refine go_iaddN (pc := 39) dX8_fades_39  ?_
  refine go_aldN (x := (nI (G (14 + 4 * p)))) (pc := 40) dX8_fades_40 rfl (by show (13 + (4 * p)) + 1 < 33; omega) (py_hm_at hG (show (13 + (4 * p)) + 1 = 14 + 4 * p by omega) (by omega)) ?_
  refine go_idivN (pc := 41) dX8_fades_41 (by omega) (by omega) (by omega) ?_
  refine go_iaddN (pc := 42) dX8_fades_42  ?_
  refine go_istore (pc := 43) dX8_fades_43 (by decide) rfl ?_
  refine go_aload_n (pc := 45) dX8_fades_45 rfl ?_
  refine go_iload_n (pc := 46) dX8_fades_46 rfl ?_
  refine go_aldN (x := (nI (G (13 + 4 * p)))) (pc := 47) dX8_fades_47 rfl (by show 13 + (4 * p) < 33; omega) (py_hm_at hG (show 13 + (4 * p) = 13 + 4 * p by omega) (by omega)) ?_
  rcases (show G (13 + 4 * p) = 1 ∨ G (13 + 4 * p) = 2 ∨ G (13 + 4 * p) = 3 ∨ G (13 + 4 * p) = 4 ∨ (G (13 + 4 * p) ≠ 1 ∧ G (13 + 4 * p) ≠ 2 ∧ G (13 + 4 * p) ≠ 3 ∧ G (13 + 4 * p) ≠ 4) by omega) with hk | hk | hk | hk | hk
  · refine go_swIn (off := 32) (pc := 48) (tgt := 80) dX8_fades_48 (by rw [hk]; decide) (by rw [hk]; decide) (by rw [hk]; decide) (by decide) ?_
    refine go_iload (pc := 80) dX8_fades_80 rfl ?_
    exact go_retI (pc := 82) dX8_fades_82 (by unfold py_f1 py_fd; rw [hk]; simp only [if_pos, if_neg (show ¬ (2 : Nat) = 1 by decide), if_neg (show ¬ (3 : Nat) = 1 by decide), if_neg (show ¬ (3 : Nat) = 2 by decide), if_neg (show ¬ (4 : Nat) = 1 by decide), if_neg (show ¬ (4 : Nat) = 2 by decide), if_neg (show ¬ (4 : Nat) = 3 by decide)] <;> (repeat' split) <;> first | rfl | omega) rfl
  · refine go_swIn (off := 35) (pc := 48) (tgt := 83) dX8_fades_48 (by rw [hk]; decide) (by rw [hk]; decide) (by rw [hk]; decide) (by decide) ?_
    refine go_iconst (v := nI 2) (pc := 83) dX8_fades_83 (by decide) ?_
    refine go_iload (pc := 84) dX8_fades_84 rfl ?_
    refine go_imulN (pc := 86) dX8_fades_86  ?_
    exact go_retI (pc := 87) dX8_fades_87 (by unfold py_f1 py_fd; rw [hk]; simp only [if_pos, if_neg (show ¬ (2 : Nat) = 1 by decide), if_neg (show ¬ (3 : Nat) = 1 by decide), if_neg (show ¬ (3 : Nat) = 2 by decide), if_neg (show ¬ (4 : Nat) = 1 by decide), if_neg (show ¬ (4 : Nat) = 2 by decide), if_neg (show ¬ (4 : Nat) = 3 by decide)] <;> (repeat' split) <;> first | rfl | omega) rfl
  · refine go_swIn (off := 40) (pc := 48) (tgt := 88) dX8_fades_48 (by rw [hk]; decide) (by rw [hk]; decide) (by rw [hk]; decide) (by decide) ?_
    refine go_aload_n (pc := 88) dX8_fades_88 rfl ?_
    refine go_iconst (v := nI 2) (pc := 89) dX8_fades_89 (by decide) ?_
    refine go_aldN (x := (nI (G 2))) (pc := 90) dX8_fades_90 rfl (by show 2 < 33; omega) (py_hm_at hG (show 2 = 2 by omega) (by omega)) ?_
    refine go_aload_n (pc := 91) dX8_fades_91 rfl ?_
    refine go_iload_n (pc := 92) dX8_fades_92 rfl ?_
    refine go_iconst (v := nI 1) (pc := 93) dX8_fades_93 (by decide) ?_
    refine go_iaddN (pc := 94) dX8_fades_94  ?_
    refine go_aldN (x := (nI (G (14 + 4 * p)))) (pc := 95) dX8_fades_95 rfl (by show (13 + (4 * p)) + 1 < 33; omega) (py_hm_at hG (show (13 + (4 * p)) + 1 = 14 + 4 * p by omega) (by omega)) ?_
    refine go_iremN (pc := 96) dX8_fades_96 (by omega) (by omega) (by omega) ?_
    have hm : G 2 % G (14 + 4 * p) ≤ G 2 := Nat.mod_le _ _
    refine go_if_neN (tgt := 105) (pc := 97) dX8_fades_97 (by omega) (by decide) (fun c_97 => ?_) (fun c_97 => ?_)
    · refine go_iconst (v := nI 0) (pc := 105) dX8_fades_105 (by decide) ?_
      exact go_retI (pc := 106) dX8_fades_106 (by unfold py_f1 py_fd; rw [hk]; simp only [if_pos, if_neg (show ¬ (2 : Nat) = 1 by decide), if_neg (show ¬ (3 : Nat) = 1 by decide), if_neg (show ¬ (3 : Nat) = 2 by decide), if_neg (show ¬ (4 : Nat) = 1 by decide), if_neg (show ¬ (4 : Nat) = 2 by decide), if_neg (show ¬ (4 : Nat) = 3 by decide)] <;> (repeat' split) <;> first | rfl | omega) rfl
    · refine go_iload (pc := 100) dX8_fades_100 rfl ?_
      refine go_goto (tgt := 106) (pc := 102) dX8_fades_102 (by decide) ?_
      exact go_retI (pc := 106) dX8_fades_106 (by unfold py_f1 py_fd; rw [hk]; simp only [if_pos, if_neg (show ¬ (2 : Nat) = 1 by decide), if_neg (show ¬ (3 : Nat) = 1 by decide), if_neg (show ¬ (3 : Nat) = 2 by decide), if_neg (show ¬ (4 : Nat) = 1 by decide), if_neg (show ¬ (4 : Nat) = 2 by decide), if_neg (show ¬ (4 : Nat) = 3 by decide)] <;> (repeat' split) <;> first | rfl | omega) rfl
  · refine go_swIn (off := 59) (pc := 48) (tgt := 107) dX8_fades_48 (by rw [hk]; decide) (by rw [hk]; decide) (by rw [hk]; decide) (by decide) ?_
    refine go_iload (pc := 107) dX8_fades_107 rfl ?_
    refine go_iconst (v := nI 2) (pc := 109) dX8_fades_109 (by decide) ?_
    refine go_idivN (pc := 110) dX8_fades_110 (by omega) (by omega) (by omega) ?_
    exact go_retI (pc := 111) dX8_fades_111 (by unfold py_f1 py_fd; rw [hk]; simp only [if_pos, if_neg (show ¬ (2 : Nat) = 1 by decide), if_neg (show ¬ (3 : Nat) = 1 by decide), if_neg (show ¬ (3 : Nat) = 2 by decide), if_neg (show ¬ (4 : Nat) = 1 by decide), if_neg (show ¬ (4 : Nat) = 2 by decide), if_neg (show ¬ (4 : Nat) = 3 by decide)] <;> (repeat' split) <;> first | rfl | omega) rfl
  · refine go_swOut (pc := 48) (tgt := 112) dX8_fades_48 (by rw [nI_toInt (by omega)]; omega) (by decide) ?_
    refine go_iconst (v := nI 0) (pc := 112) dX8_fades_112 (by decide) ?_
    exact go_retI (pc := 113) dX8_fades_113 (by unfold py_f1 py_fd; rw [if_neg hk.1, if_neg hk.2.1, if_neg hk.2.2.1, if_neg hk.2.2.2]) rfl
set_option maxHeartbeats 4000000 in
set_option maxRecDepth 100000 in
theorem ev_fades_55 {X : py_X} {σ : py_H} {G : Nat → Nat} (hG : py_hm (σ 55) 0 G) (hw : py_wm G) {p : Nat} (hp : p < G 12) : py_Ev X 0 yX8_fades cX8_fades 6 (some .int) [.ref 55, .int (nI p)] σ (py_ret (.int (nI (py_f1 G p))) σ) := by
  obtain ⟨w12, w3, w2, wW, wP⟩ := id hw
  refine py_ofI (own := RX8) YX8_fades.2.2.2.2 rfl rfl (Nat.le_of_ble_eq_true rfl)  ?_
  show py_Go X RX8 cX8_fades 6 0 0 [some (.ref 55), some (.int (nI p)), none, none, none, none] [] σ (py_ret (.int (nI (py_f1 G p))) σ)
  have hP := wP p hp
  have hL := wW _ hP.2.2.2.2
  refine go_bipush (v := nI 13) (pc := 0) dX8_fades_0 (by decide) ?_
  refine go_iconst (v := nI 4) (pc := 2) dX8_fades_2 (by decide) ?_
  refine go_iload_n (pc := 3) dX8_fades_3 rfl ?_
  refine go_imulN (pc := 4) dX8_fades_4  ?_
  refine go_iaddN (pc := 5) dX8_fades_5  ?_
  refine go_istore_n (pc := 6) dX8_fades_6 (by decide) rfl ?_
  refine go_aload_n (pc := 7) dX8_fades_7 rfl ?_
  refine go_iconst (v := nI 4) (pc := 8) dX8_fades_8 (by decide) ?_
  refine go_iconst (v := nI 2) (pc := 9) dX8_fades_9 (by decide) ?_
  refine go_aload_n (pc := 10) dX8_fades_10 rfl ?_
  refine go_iload_n (pc := 11) dX8_fades_11 rfl ?_
  refine go_iconst (v := nI 3) (pc := 12) dX8_fades_12 (by decide) ?_
  refine go_iaddN (pc := 13) dX8_fades_13  ?_
  refine go_aldN (x := (nI (G (16 + 4 * p)))) (pc := 14) dX8_fades_14 rfl (by show (13 + (4 * p)) + 3 < 33; omega) (py_hm_at hG (show (13 + (4 * p)) + 3 = 16 + 4 * p by omega) (by omega)) ?_
  refine go_imulN (pc := 15) dX8_fades_15  ?_
  refine go_iaddN (pc := 16) dX8_fades_16  ?_
  refine go_aldN (x := (nI (G (4 + 2 * G (16 + 4 * p))))) (pc := 17) dX8_fades_17 rfl (by show 4 + (2 * (G (16 + 4 * p))) < 33; omega) (py_hm_at hG (show 4 + (2 * (G (16 + 4 * p))) = 4 + 2 * G (16 + 4 * p) by omega) (by omega)) ?_
  refine go_istore_n (pc := 18) dX8_fades_18 (by decide) rfl ?_
  refine go_aload_n (pc := 19) dX8_fades_19 rfl ?_
  refine go_iconst (v := nI 4) (pc := 20) dX8_fades_20 (by decide) ?_
  refine go_iconst (v := nI 2) (pc := 21) dX8_fades_21 (by decide) ?_
  refine go_aload_n (pc := 22) dX8_fades_22 rfl ?_
  refine go_iload_n (pc := 23) dX8_fades_23 rfl ?_
  refine go_iconst (v := nI 3) (pc := 24) dX8_fades_24 (by decide) ?_
  refine go_iaddN (pc := 25) dX8_fades_25  ?_
  refine go_aldN (x := (nI (G (16 + 4 * p)))) (pc := 26) dX8_fades_26 rfl (by show (13 + (4 * p)) + 3 < 33; omega) (py_hm_at hG (show (13 + (4 * p)) + 3 = 16 + 4 * p by omega) (by omega)) ?_
  refine go_imulN (pc := 27) dX8_fades_27  ?_
  refine go_iaddN (pc := 28) dX8_fades_28  ?_
  refine go_iconst (v := nI 1) (pc := 29) dX8_fades_29 (by decide) ?_
  refine go_iaddN (pc := 30) dX8_fades_30  ?_
  refine go_aldN (x := (nI (G (5 + 2 * G (16 + 4 * p))))) (pc := 31) dX8_fades_31 rfl (by show (4 + (2 * (G (16 + 4 * p)))) + 1 < 33; omega) (py_hm_at hG (show (4 + (2 * (G (16 + 4 * p)))) + 1 = 5 + 2 * G (16 + 4 * p) by omega) (by omega)) ?_
  refine go_istore (pc := 32) dX8_fades_32 (by decide) rfl ?_
  refine go_iconst (v := nI 1) (pc := 34) dX8_fades_34 (by decide) ?_
  refine go_iload_n (pc := 35) dX8_fades_35 rfl ?_
  refine go_aload_n (pc := 36) dX8_fades_36 rfl ?_
  refine go_iload_n (pc := 37) dX8_fades_37 rfl ?_
  refine go_iconst (v := nI 1) (pc := 38) dX8_fades_38 (by decide) ?_
  refine go_iaddN (pc := 39) dX8_fades_39  ?_
  refine go_aldN (x := (nI (G (14 + 4 * p)))) (pc := 40) dX8_fades_40 rfl (by show (13 + (4 * p)) + 1 < 33; omega) (py_hm_at hG (show (13 + (4 * p)) + 1 = 14 + 4 * p by omega) (by omega)) ?_
  refine go_idivN (pc := 41) dX8_fades_41 (by omega) (by omega) (by omega) ?_
  refine go_iaddN (pc := 42) dX8_fades_42  ?_
  refine go_istore (pc := 43) dX8_fades_43 (by decide) rfl ?_
  refine go_aload_n (pc := 45) dX8_fades_45 rfl ?_
  refine go_iload_n (pc := 46) dX8_fades_46 rfl ?_
  refine go_aldN (x := (nI (G (13 + 4 * p)))) (pc := 47) dX8_fades_47 rfl (by show 13 + (4 * p) < 33; omega) (py_hm_at hG (show 13 + (4 * p) = 13 + 4 * p by omega) (by omega)) ?_
  rcases (show G (13 + 4 * p) = 1 ∨ G (13 + 4 * p) = 2 ∨ G (13 + 4 * p) = 3 ∨ G (13 + 4 * p) = 4 ∨ (G (13 + 4 * p) ≠ 1 ∧ G (13 + 4 * p) ≠ 2 ∧ G (13 + 4 * p) ≠ 3 ∧ G (13 + 4 * p) ≠ 4) by omega) with hk | hk | hk | hk | hk
  · refine go_swIn (off := 32) (pc := 48) (tgt := 80) dX8_fades_48 (by rw [hk]; decide) (by rw [hk]; decide) (by rw [hk]; decide) (by decide) ?_
    refine go_iload (pc := 80) dX8_fades_80 rfl ?_
    exact go_retI (pc := 82) dX8_fades_82 (by unfold py_f1 py_fd; rw [hk]; simp only [if_pos, if_neg (show ¬ (2 : Nat) = 1 by decide), if_neg (show ¬ (3 : Nat) = 1 by decide), if_neg (show ¬ (3 : Nat) = 2 by decide), if_neg (show ¬ (4 : Nat) = 1 by decide), if_neg (show ¬ (4 : Nat) = 2 by decide), if_neg (show ¬ (4 : Nat) = 3 by decide)] <;> (repeat' split) <;> first | rfl | omega) rfl
  · refine go_swIn (off := 35) (pc := 48) (tgt := 83) dX8_fades_48 (by rw [hk]; decide) (by rw [hk]; decide) (by rw [hk]; decide) (by decide) ?_
    refine go_iconst (v := nI 2) (pc := 83) dX8_fades_83 (by decide) ?_
    refine go_iload (pc := 84) dX8_fades_84 rfl ?_
    refine go_imulN (pc := 86) dX8_fades_86  ?_
    exact go_retI (pc := 87) dX8_fades_87 (by unfold py_f1 py_fd; rw [hk]; simp only [if_pos, if_neg (show ¬ (2 : Nat) = 1 by decide), if_neg (show ¬ (3 : Nat) = 1 by decide), if_neg (show ¬ (3 : Nat) = 2 by decide), if_neg (show ¬ (4 : Nat) = 1 by decide), if_neg (show ¬ (4 : Nat) = 2 by decide), if_neg (show ¬ (4 : Nat) = 3 by decide)] <;> (repeat' split) <;> first | rfl | omega) rfl
  · refine go_swIn (off := 40) (pc := 48) (tgt := 88) dX8_fades_48 (by rw [hk]; decide) (by rw [hk]; decide) (by rw [hk]; decide) (by decide) ?_
    refine go_aload_n (pc := 88) dX8_fades_88 rfl ?_
    refine go_iconst (v := nI 2) (pc := 89) dX8_fades_89 (by decide) ?_
    refine go_aldN (x := (nI (G 2))) (pc := 90) dX8_fades_90 rfl (by show 2 < 33; omega) (py_hm_at hG (show 2 = 2 by omega) (by omega)) ?_
    refine go_aload_n (pc := 91) dX8_fades_91 rfl ?_
    refine go_iload_n (pc := 92) dX8_fades_92 rfl ?_
    refine go_iconst (v := nI 1) (pc := 93) dX8_fades_93 (by decide) ?_
    refine go_iaddN (pc := 94) dX8_fades_94  ?_
    refine go_aldN (x := (nI (G (14 + 4 * p)))) (pc := 95) dX8_fades_95 rfl (by show (13 + (4 * p)) + 1 < 33; omega) (py_hm_at hG (show (13 + (4 * p)) + 1 = 14 + 4 * p by omega) (by omega)) ?_
    refine go_iremN (pc := 96) dX8_fades_96 (by omega) (by omega) (by omega) ?_
    have hm : G 2 % G (14 + 4 * p) ≤ G 2 := Nat.mod_le _ _
    refine go_if_neN (tgt := 105) (pc := 97) dX8_fades_97 (by omega) (by decide) (fun c_97 => ?_) (fun c_97 => ?_)
    · refine go_iconst (v := nI 0) (pc := 105) dX8_fades_105 (by decide) ?_
      exact go_retI (pc := 106) dX8_fades_106 (by unfold py_f1 py_fd; rw [hk]; simp only [if_pos, if_neg (show ¬ (2 : Nat) = 1 by decide), if_neg (show ¬ (3 : Nat) = 1 by decide), if_neg (show ¬ (3 : Nat) = 2 by decide), if_neg (show ¬ (4 : Nat) = 1 by decide), if_neg (show ¬ (4 : Nat) = 2 by decide), if_neg (show ¬ (4 : Nat) = 3 by decide)] <;> (repeat' split) <;> first | rfl | omega) rfl
    · refine go_iload (pc := 100) dX8_fades_100 rfl ?_
      refine go_goto (tgt := 106) (pc := 102) dX8_fades_102 (by decide) ?_
      exact go_retI (pc := 106) dX8_fades_106 (by unfold py_f1 py_fd; rw [hk]; simp only [if_pos, if_neg (show ¬ (2 : Nat) = 1 by decide), if_neg (show ¬ (3 : Nat) = 1 by decide), if_neg (show ¬ (3 : Nat) = 2 by decide), if_neg (show ¬ (4 : Nat) = 1 by decide), if_neg (show ¬ (4 : Nat) = 2 by decide), if_neg (show ¬ (4 : Nat) = 3 by decide)] <;> (repeat' split) <;> first | rfl | omega) rfl
  · refine go_swIn (off := 59) (pc := 48) (tgt := 107) dX8_fades_48 (by rw [hk]; decide) (by rw [hk]; decide) (by rw [hk]; decide) (by decide) ?_
    refine go_iload (pc := 107) dX8_fades_107 rfl ?_
    refine go_iconst (v := nI 2) (pc := 109) dX8_fades_109 (by decide) ?_
    refine go_idivN (pc := 110) dX8_fades_110 (by omega) (by omega) (by omega) ?_
    exact go_retI (pc := 111) dX8_fades_111 (by unfold py_f1 py_fd; rw [hk]; simp only [if_pos, if_neg (show ¬ (2 : Nat) = 1 by decide), if_neg (show ¬ (3 : Nat) = 1 by decide), if_neg (show ¬ (3 : Nat) = 2 by decide), if_neg (show ¬ (4 : Nat) = 1 by decide), if_neg (show ¬ (4 : Nat) = 2 by decide), if_neg (show ¬ (4 : Nat) = 3 by decide)] <;> (repeat' split) <;> first | rfl | omega) rfl
  · refine go_swOut (pc := 48) (tgt := 112) dX8_fades_48 (by rw [nI_toInt (by omega)]; omega) (by decide) ?_
    refine go_iconst (v := nI 0) (pc := 112) dX8_fades_112 (by decide) ?_
    exact go_retI (pc := 113) dX8_fades_113 (by unfold py_f1 py_fd; rw [if_neg hk.1, if_neg hk.2.1, if_neg hk.2.2.1, if_neg hk.2.2.2]) rfl
theorem py_off {a b : Nat} (ha : a < 2 ^ 30) (hb : b < 2 ^ 30) : ((nI a - nI b).toInt < 0 → a - b = 0) ∧ (0 ≤ (nI a - nI b).toInt → nI a - nI b = nI (a - b)) := by
  rw [py_sub_toInt ha hb]
  exact ⟨fun h => by omega, fun h => pk_sub (by omega)⟩
set_option maxHeartbeats 4000000 in
set_option maxRecDepth 100000 in
theorem ev_takesOff_53 {X : py_X} {σ : py_H} {G : Nat → Nat} (hG : py_hm (σ 53) 0 G) {p v : Nat} (hp : p < 5) (hc : G (15 + 4 * p) ≤ 60) (hv : v ≤ 1000) : py_Ev X 0 yX8_takesOff cX8_takesOff 4 none [.ref 53, .int (nI p), .int (nI v)] σ (py_vs none (fun s => py_hm (s 53) 0 (py_pc2 G p (G (15 + 4 * p) - v)) ∧ py_fr [53] [] σ s)) := by
  refine py_ofV (own := RX8) YX8_takesOff.2.2.2.2 rfl rfl (Nat.le_of_ble_eq_true rfl)  ?_
  show py_Go X RX8 cX8_takesOff 4 0 0 [some (.ref 53), some (.int (nI p)), some (.int (nI v)), none] [] σ (py_vs none (fun s => py_hm (s 53) 0 (py_pc2 G p (G (15 + 4 * p) - v)) ∧ py_fr [53] [] σ s))
  refine go_aload_n (pc := 0) dX8_takesOff_0 rfl ?_
  refine go_bipush (v := nI 13) (pc := 1) dX8_takesOff_1 (by decide) ?_
  refine go_iconst (v := nI 4) (pc := 3) dX8_takesOff_3 (by decide) ?_
  refine go_iload_n (pc := 4) dX8_takesOff_4 rfl ?_
  refine go_imulN (pc := 5) dX8_takesOff_5  ?_
  refine go_iaddN (pc := 6) dX8_takesOff_6  ?_
  refine go_iconst (v := nI 2) (pc := 7) dX8_takesOff_7 (by decide) ?_
  refine go_iaddN (pc := 8) dX8_takesOff_8  ?_
  refine go_aldN (x := (nI (G (15 + 4 * p)))) (pc := 9) dX8_takesOff_9 rfl (by show (13 + (4 * p)) + 2 < 33; omega) (py_hm_at hG (show (13 + (4 * p)) + 2 = 15 + 4 * p by omega) (by omega)) ?_
  refine go_iload_n (pc := 10) dX8_takesOff_10 rfl ?_
  refine go_isub (pc := 11) dX8_takesOff_11  ?_
  refine go_istore_n (pc := 12) dX8_takesOff_12 (by decide) rfl ?_
  refine go_aload_n (pc := 13) dX8_takesOff_13 rfl ?_
  refine go_bipush (v := nI 13) (pc := 14) dX8_takesOff_14 (by decide) ?_
  refine go_iconst (v := nI 4) (pc := 16) dX8_takesOff_16 (by decide) ?_
  refine go_iload_n (pc := 17) dX8_takesOff_17 rfl ?_
  refine go_imulN (pc := 18) dX8_takesOff_18  ?_
  refine go_iaddN (pc := 19) dX8_takesOff_19  ?_
  refine go_iconst (v := nI 2) (pc := 20) dX8_takesOff_20 (by decide) ?_
  refine go_iaddN (pc := 21) dX8_takesOff_21  ?_
  refine go_iload_n (pc := 22) dX8_takesOff_22 rfl ?_
  refine go_if_geJ (tgt := 30) (pc := 23) dX8_takesOff_23 (by decide) (fun c_23 => ?_) (fun c_23 => ?_)
  · have e9 := (py_off (by omega) (by omega)).2 c_23
    rw [e9]
    refine go_iload_n (pc := 30) dX8_takesOff_30 rfl ?_
    refine go_astN (pc := 31) dX8_takesOff_31 rfl (by show (13 + (4 * p)) + 2 < 33; omega) ?_
    exact go_retV (pc := 32) dX8_takesOff_32 ⟨py_hm_up hG (by omega), (py_fr.rf [53] [] σ).up (by decide) _⟩
  · have e9 := (py_off (by omega) (by omega)).1 c_23
    refine go_iconst (v := nI 0) (pc := 26) dX8_takesOff_26 (by decide) ?_
    refine go_goto (tgt := 31) (pc := 27) dX8_takesOff_27 (by decide) ?_
    refine go_astN (pc := 31) dX8_takesOff_31 rfl (by show (13 + (4 * p)) + 2 < 33; omega) ?_
    exact go_retV (pc := 32) dX8_takesOff_32 ⟨by unfold py_pc2; rw [e9]; exact py_hm_up hG (by omega), (py_fr.rf [53] [] σ).up (by decide) _⟩
set_option maxHeartbeats 4000000 in
set_option maxRecDepth 100000 in
theorem ev_takesOff_55 {X : py_X} {σ : py_H} {G : Nat → Nat} (hG : py_hm (σ 55) 0 G) {p v : Nat} (hp : p < 5) (hc : G (15 + 4 * p) ≤ 60) (hv : v ≤ 1000) : py_Ev X 0 yX8_takesOff cX8_takesOff 4 none [.ref 55, .int (nI p), .int (nI v)] σ (py_vs none (fun s => py_hm (s 55) 0 (py_pc2 G p (G (15 + 4 * p) - v)) ∧ py_fr [55] [] σ s)) := by
  refine py_ofV (own := RX8) YX8_takesOff.2.2.2.2 rfl rfl (Nat.le_of_ble_eq_true rfl)  ?_
  show py_Go X RX8 cX8_takesOff 4 0 0 [some (.ref 55), some (.int (nI p)), some (.int (nI v)), none] [] σ (py_vs none (fun s => py_hm (s 55) 0 (py_pc2 G p (G (15 + 4 * p) - v)) ∧ py_fr [55] [] σ s))
  refine go_aload_n (pc := 0) dX8_takesOff_0 rfl ?_
  refine go_bipush (v := nI 13) (pc := 1) dX8_takesOff_1 (by decide) ?_
  refine go_iconst (v := nI 4) (pc := 3) dX8_takesOff_3 (by decide) ?_
  refine go_iload_n (pc := 4) dX8_takesOff_4 rfl ?_
  refine go_imulN (pc := 5) dX8_takesOff_5  ?_
  refine go_iaddN (pc := 6) dX8_takesOff_6  ?_
  refine go_iconst (v := nI 2) (pc := 7) dX8_takesOff_7 (by decide) ?_
  refine go_iaddN (pc := 8) dX8_takesOff_8  ?_
  refine go_aldN (x := (nI (G (15 + 4 * p)))) (pc := 9) dX8_takesOff_9 rfl (by show (13 + (4 * p)) + 2 < 33; omega) (py_hm_at hG (show (13 + (4 * p)) + 2 = 15 + 4 * p by omega) (by omega)) ?_
  refine go_iload_n (pc := 10) dX8_takesOff_10 rfl ?_
  refine go_isub (pc := 11) dX8_takesOff_11  ?_
  refine go_istore_n (pc := 12) dX8_takesOff_12 (by decide) rfl ?_
  refine go_aload_n (pc := 13) dX8_takesOff_13 rfl ?_
  refine go_bipush (v := nI 13) (pc := 14) dX8_takesOff_14 (by decide) ?_
  refine go_iconst (v := nI 4) (pc := 16) dX8_takesOff_16 (by decide) ?_
  refine go_iload_n (pc := 17) dX8_takesOff_17 rfl ?_
  refine go_imulN (pc := 18) dX8_takesOff_18  ?_
  refine go_iaddN (pc := 19) dX8_takesOff_19  ?_
  refine go_iconst (v := nI 2) (pc := 20) dX8_takesOff_20 (by decide) ?_
  refine go_iaddN (pc := 21) dX8_takesOff_21  ?_
  refine go_iload_n (pc := 22) dX8_takesOff_22 rfl ?_
  refine go_if_geJ (tgt := 30) (pc := 23) dX8_takesOff_23 (by decide) (fun c_23 => ?_) (fun c_23 => ?_)
  · have e9 := (py_off (by omega) (by omega)).2 c_23
    rw [e9]
    refine go_iload_n (pc := 30) dX8_takesOff_30 rfl ?_
    refine go_astN (pc := 31) dX8_takesOff_31 rfl (by show (13 + (4 * p)) + 2 < 33; omega) ?_
    exact go_retV (pc := 32) dX8_takesOff_32 ⟨py_hm_up hG (by omega), (py_fr.rf [55] [] σ).up (by decide) _⟩
  · have e9 := (py_off (by omega) (by omega)).1 c_23
    refine go_iconst (v := nI 0) (pc := 26) dX8_takesOff_26 (by decide) ?_
    refine go_goto (tgt := 31) (pc := 27) dX8_takesOff_27 (by decide) ?_
    refine go_astN (pc := 31) dX8_takesOff_31 rfl (by show (13 + (4 * p)) + 2 < 33; omega) ?_
    exact go_retV (pc := 32) dX8_takesOff_32 ⟨by unfold py_pc2; rw [e9]; exact py_hm_up hG (by omega), (py_fr.rf [55] [] σ).up (by decide) _⟩
set_option maxHeartbeats 4000000 in
set_option maxRecDepth 100000 in
theorem ev_passes_53 {X : py_X} {σ : py_H} {G : Nat → Nat} (hG : py_hm (σ 53) 0 G) (hw : py_wm G) : py_Ev X 1 yX8_passes cX8_passes 2 none [.ref 53] σ (py_vs none (fun s => py_hm (s 53) 0 (py_age G 1) ∧ py_fr [53] [] σ s)) := by
  obtain ⟨w12, w3, w2, wW, wP⟩ := id hw
  refine py_ofV (own := RX8) YX8_passes.2.2.2.2 rfl rfl (Nat.le_of_ble_eq_true rfl)  ?_
  show py_Go X RX8 cX8_passes 2 1 0 [some (.ref 53), none] [] σ (py_vs none (fun s => py_hm (s 53) 0 (py_age G 1) ∧ py_fr [53] [] σ s))
  have loop : ∀ i, i ≤ G 12 → ∀ s, py_hm (s 53) 0 (py_pp G i) → py_fr [53] [] σ s → py_Go X RX8 cX8_passes 2 1 2 [some (.ref 53), some (.int (nI i))] [] s (py_vs none (fun s => py_hm (s 53) 0 (py_age G 1) ∧ py_fr [53] [] σ s)) := by
    refine py_loop _ (G 12) (fun i hi ih s hGs hs => ?_)
    refine go_iload_n (pc := 2) dX8_passes_2 rfl ?_
    refine go_aload_n (pc := 3) dX8_passes_3 rfl ?_
    refine go_bipush (v := nI 12) (pc := 4) dX8_passes_4 (by decide) ?_
    refine go_aldN (x := (nI (G 12))) (pc := 6) dX8_passes_6 rfl (by show 12 < 33; omega) ((py_hm_at hGs (show 12 = 12 by omega) (by omega)).trans (congrArg nI (py_pp_o (fun p => by omega)))) ?_
    refine go_icmp_geN (tgt := 26) (pc := 7) dX8_passes_7 (by omega) (by omega) (by decide) (fun c_7 => ?_) (fun c_7 => ?_)
    · refine go_aload_n (pc := 26) dX8_passes_26 rfl ?_
      refine go_iconst (v := nI 2) (pc := 27) dX8_passes_27 (by decide) ?_
      refine go_dup2 (pc := 28) dX8_passes_28 rfl rfl ?_
      refine go_aldN (x := (nI (G 2))) (pc := 29) dX8_passes_29 rfl (by show 2 < 33; omega) ((py_hm_at hGs (show 2 = 2 by omega) (by omega)).trans (congrArg nI (py_pp_o (fun p => by omega)))) ?_
      refine go_iconst (v := nI 1) (pc := 30) dX8_passes_30 (by decide) ?_
      refine go_iaddN (pc := 31) dX8_passes_31  ?_
      refine go_astN (pc := 32) dX8_passes_32 rfl (by show 2 < 33; omega) ?_
      exact go_retV (pc := 33) dX8_passes_33 ⟨by rw [← py_pp_age hw, ← show i = G 12 by omega]; exact py_hm_up hGs rfl, hs.up (by decide) _⟩
    · refine go_aload_n (pc := 10) dX8_passes_10 rfl ?_
      refine go_iload_n (pc := 11) dX8_passes_11 rfl ?_
      refine go_aload_n (pc := 12) dX8_passes_12 rfl ?_
      refine go_iload_n (pc := 13) dX8_passes_13 rfl ?_
      refine go_cS (pc := 14) dX8_passes_14 (ev_fades_53 hGs (py_pp_wm hw i) (by rw [py_pp_o (fun p => by omega)]; exact c_7)) lX8_155 YX8_fades SX8_fades rfl (by decide) rfl (Nat.le_of_ble_eq_true rfl) ?_
      refine go_top (y := nI (py_f1 G i)) (by rw [py_pp_f1 hw i c_7]) ?_
      have hf1 : py_f1 G i ≤ 20 := by have z := wP i c_7; exact py_fd_le (wW _ z.2.2.2.2).1 (wW _ z.2.2.2.2).2
      have hcl : py_pp G i (15 + 4 * i) = G (15 + 4 * i) := py_pp_g (Nat.le_refl _)
      refine go_cSv (pc := 17) dX8_passes_17 (ev_takesOff_53 hGs (by omega) (by rw [hcl]; exact (wP i c_7).2.2.2.1) (by omega)) lX8_158 YX8_takesOff SX8_takesOff rfl (by decide) rfl (Nat.le_of_ble_eq_true rfl) (fun s1 hs1 => ?_)
      obtain ⟨hG1, hf1s⟩ := hs1
      rw [hcl, py_pp_s] at hG1
      refine go_iincN (c := 1) (pc := 20) dX8_passes_20 rfl (by decide) (by decide) rfl ?_
      refine go_goto (tgt := 2) (pc := 23) dX8_passes_23 (by decide) ?_
      exact ih (by omega) s1 hG1 (hs.tr hf1s (by decide) (by decide))
  refine go_iconst (v := nI 0) (pc := 0) dX8_passes_0 (by decide) ?_
  refine go_istore_n (pc := 1) dX8_passes_1 (by decide) rfl ?_
  exact loop 0 (by omega) σ (by rw [py_pp_0]; exact hG) (py_fr.rf _ _ σ)
set_option maxHeartbeats 4000000 in
set_option maxRecDepth 100000 in
theorem ev_passes_55 {X : py_X} {σ : py_H} {G : Nat → Nat} (hG : py_hm (σ 55) 0 G) (hw : py_wm G) : py_Ev X 1 yX8_passes cX8_passes 2 none [.ref 55] σ (py_vs none (fun s => py_hm (s 55) 0 (py_age G 1) ∧ py_fr [55] [] σ s)) := by
  obtain ⟨w12, w3, w2, wW, wP⟩ := id hw
  refine py_ofV (own := RX8) YX8_passes.2.2.2.2 rfl rfl (Nat.le_of_ble_eq_true rfl)  ?_
  show py_Go X RX8 cX8_passes 2 1 0 [some (.ref 55), none] [] σ (py_vs none (fun s => py_hm (s 55) 0 (py_age G 1) ∧ py_fr [55] [] σ s))
  have loop : ∀ i, i ≤ G 12 → ∀ s, py_hm (s 55) 0 (py_pp G i) → py_fr [55] [] σ s → py_Go X RX8 cX8_passes 2 1 2 [some (.ref 55), some (.int (nI i))] [] s (py_vs none (fun s => py_hm (s 55) 0 (py_age G 1) ∧ py_fr [55] [] σ s)) := by
    refine py_loop _ (G 12) (fun i hi ih s hGs hs => ?_)
    refine go_iload_n (pc := 2) dX8_passes_2 rfl ?_
    refine go_aload_n (pc := 3) dX8_passes_3 rfl ?_
    refine go_bipush (v := nI 12) (pc := 4) dX8_passes_4 (by decide) ?_
    refine go_aldN (x := (nI (G 12))) (pc := 6) dX8_passes_6 rfl (by show 12 < 33; omega) ((py_hm_at hGs (show 12 = 12 by omega) (by omega)).trans (congrArg nI (py_pp_o (fun p => by omega)))) ?_
    refine go_icmp_geN (tgt := 26) (pc := 7) dX8_passes_7 (by omega) (by omega) (by decide) (fun c_7 => ?_) (fun c_7 => ?_)
    · refine go_aload_n (pc := 26) dX8_passes_26 rfl ?_
      refine go_iconst (v := nI 2) (pc := 27) dX8_passes_27 (by decide) ?_
      refine go_dup2 (pc := 28) dX8_passes_28 rfl rfl ?_
      refine go_aldN (x := (nI (G 2))) (pc := 29) dX8_passes_29 rfl (by show 2 < 33; omega) ((py_hm_at hGs (show 2 = 2 by omega) (by omega)).trans (congrArg nI (py_pp_o (fun p => by omega)))) ?_
      refine go_iconst (v := nI 1) (pc := 30) dX8_passes_30 (by decide) ?_
      refine go_iaddN (pc := 31) dX8_passes_31  ?_
      refine go_astN (pc := 32) dX8_passes_32 rfl (by show 2 < 33; omega) ?_
      exact go_retV (pc := 33) dX8_passes_33 ⟨by rw [← py_pp_age hw, ← show i = G 12 by omega]; exact py_hm_up hGs rfl, hs.up (by decide) _⟩
    · refine go_aload_n (pc := 10) dX8_passes_10 rfl ?_
      refine go_iload_n (pc := 11) dX8_passes_11 rfl ?_
      refine go_aload_n (pc := 12) dX8_passes_12 rfl ?_
      refine go_iload_n (pc := 13) dX8_passes_13 rfl ?_
      refine go_cS (pc := 14) dX8_passes_14 (ev_fades_55 hGs (py_pp_wm hw i) (by rw [py_pp_o (fun p => by omega)]; exact c_7)) lX8_155 YX8_fades SX8_fades rfl (by decide) rfl (Nat.le_of_ble_eq_true rfl) ?_
      refine go_top (y := nI (py_f1 G i)) (by rw [py_pp_f1 hw i c_7]) ?_
      have hf1 : py_f1 G i ≤ 20 := by have z := wP i c_7; exact py_fd_le (wW _ z.2.2.2.2).1 (wW _ z.2.2.2.2).2
      have hcl : py_pp G i (15 + 4 * i) = G (15 + 4 * i) := py_pp_g (Nat.le_refl _)
      refine go_cSv (pc := 17) dX8_passes_17 (ev_takesOff_55 hGs (by omega) (by rw [hcl]; exact (wP i c_7).2.2.2.1) (by omega)) lX8_158 YX8_takesOff SX8_takesOff rfl (by decide) rfl (Nat.le_of_ble_eq_true rfl) (fun s1 hs1 => ?_)
      obtain ⟨hG1, hf1s⟩ := hs1
      rw [hcl, py_pp_s] at hG1
      refine go_iincN (c := 1) (pc := 20) dX8_passes_20 rfl (by decide) (by decide) rfl ?_
      refine go_goto (tgt := 2) (pc := 23) dX8_passes_23 (by decide) ?_
      exact ih (by omega) s1 hG1 (hs.tr hf1s (by decide) (by decide))
  refine go_iconst (v := nI 0) (pc := 0) dX8_passes_0 (by decide) ?_
  refine go_istore_n (pc := 1) dX8_passes_1 (by decide) rfl ?_
  exact loop 0 (by omega) σ (by rw [py_pp_0]; exact hG) (py_fr.rf _ _ σ)
set_option maxHeartbeats 4000000 in
set_option maxRecDepth 100000 in
theorem ev_mliving_53 {X : py_X} {σ : py_H} {G : Nat → Nat} (hG : py_hm (σ 53) 0 G) (w12 : G 12 ≤ 5) (wP : ∀ p, p < G 12 → G (15 + 4 * p) ≤ 60) : py_Ev X 0 yX8_living cX8_living 3 (some .int) [.ref 53] σ (py_ret (.int (nI (py_lvH G))) σ) := by
  refine py_ofI (own := RX8) YX8_living.2.2.2.2 rfl rfl (Nat.le_of_ble_eq_true rfl)  ?_
  show py_Go X RX8 cX8_living 3 0 0 [some (.ref 53), none, none] [] σ (py_ret (.int (nI (py_lvH G))) σ)
  have loop : ∀ i, i ≤ G 12 → py_Go X RX8 cX8_living 3 0 4 [some (.ref 53), some (.int (nI (py_bs (fun p => decide (0 < G (15 + 4 * p))) i))), some (.int (nI i))] [] σ (py_ret (.int (nI (py_lvH G))) σ) := by
    refine py_loop _ (G 12) (fun i hi ih  => ?_)
    refine go_iload_n (pc := 4) dX8_living_4 rfl ?_
    refine go_aload_n (pc := 5) dX8_living_5 rfl ?_
    refine go_bipush (v := nI 12) (pc := 6) dX8_living_6 (by decide) ?_
    refine go_aldN (x := (nI (G 12))) (pc := 8) dX8_living_8 rfl (by show 12 < 33; omega) (py_hm_at hG (show 12 = 12 by omega) (by omega)) ?_
    refine go_icmp_geN (tgt := 41) (pc := 9) dX8_living_9 (by omega) (by omega) (by decide) (fun c_9 => ?_) (fun c_9 => ?_)
    · refine go_iload_n (pc := 41) dX8_living_41 rfl ?_
      exact go_retI (pc := 42) dX8_living_42 (by rw [show i = G 12 by omega]; rfl) rfl
    · refine go_iload_n (pc := 12) dX8_living_12 rfl ?_
      refine go_aload_n (pc := 13) dX8_living_13 rfl ?_
      refine go_bipush (v := nI 13) (pc := 14) dX8_living_14 (by decide) ?_
      refine go_iconst (v := nI 4) (pc := 16) dX8_living_16 (by decide) ?_
      refine go_iload_n (pc := 17) dX8_living_17 rfl ?_
      refine go_imulN (pc := 18) dX8_living_18  ?_
      refine go_iaddN (pc := 19) dX8_living_19  ?_
      refine go_iconst (v := nI 2) (pc := 20) dX8_living_20 (by decide) ?_
      refine go_iaddN (pc := 21) dX8_living_21  ?_
      refine go_aldN (x := (nI (G (15 + 4 * i)))) (pc := 22) dX8_living_22 rfl (by show (13 + (4 * i)) + 2 < 33; omega) (py_hm_at hG (show (13 + (4 * i)) + 2 = 15 + 4 * i by omega) (by omega)) ?_
      have hcl := wP i c_9
      refine go_if_leN (tgt := 32) (pc := 23) dX8_living_23 (by omega) (by decide) (fun c_23 => ?_) (fun c_23 => ?_)
      · refine go_iconst (v := nI 0) (pc := 32) dX8_living_32 (by decide) ?_
        refine go_ior (pc := 33) dX8_living_33 ?_
        refine go_istore_n (pc := 34) dX8_living_34 (by decide) rfl ?_
        refine go_iincN (c := 1) (pc := 35) dX8_living_35 rfl (by decide) (by decide) rfl ?_
        refine go_goto (tgt := 4) (pc := 38) dX8_living_38 (by decide) ?_
        have e8 := ih (by omega)
        rw [← py_bs_f (f := fun p => decide (0 < G (15 + 4 * p))) (p := i) (decide_eq_false (by omega))] at e8
        rw [py_or0]
        exact e8
      · refine go_iconst (v := nI 1) (pc := 26) dX8_living_26 (by decide) ?_
        refine go_iload_n (pc := 27) dX8_living_27 rfl ?_
        refine go_ishl (pc := 28) dX8_living_28 ?_
        refine go_goto (tgt := 33) (pc := 29) dX8_living_29 (by decide) ?_
        refine go_ior (pc := 33) dX8_living_33 ?_
        refine go_istore_n (pc := 34) dX8_living_34 (by decide) rfl ?_
        refine go_iincN (c := 1) (pc := 35) dX8_living_35 rfl (by decide) (by decide) rfl ?_
        refine go_goto (tgt := 4) (pc := 38) dX8_living_38 (by decide) ?_
        have e8 := ih (by omega)
        rw [py_or_add (py_bs_lt _ i) (by omega), py_bs_t (f := fun p => decide (0 < G (15 + 4 * p))) (p := i) (decide_eq_true c_23)]
        exact e8
  refine go_iconst (v := nI 0) (pc := 0) dX8_living_0 (by decide) ?_
  refine go_istore_n (pc := 1) dX8_living_1 (by decide) rfl ?_
  refine go_iconst (v := nI 0) (pc := 2) dX8_living_2 (by decide) ?_
  refine go_istore_n (pc := 3) dX8_living_3 (by decide) rfl ?_
  exact loop 0 (by omega)
set_option maxHeartbeats 4000000 in
set_option maxRecDepth 100000 in
theorem ev_mliving_55 {X : py_X} {σ : py_H} {G : Nat → Nat} (hG : py_hm (σ 55) 0 G) (w12 : G 12 ≤ 5) (wP : ∀ p, p < G 12 → G (15 + 4 * p) ≤ 60) : py_Ev X 0 yX8_living cX8_living 3 (some .int) [.ref 55] σ (py_ret (.int (nI (py_lvH G))) σ) := by
  refine py_ofI (own := RX8) YX8_living.2.2.2.2 rfl rfl (Nat.le_of_ble_eq_true rfl)  ?_
  show py_Go X RX8 cX8_living 3 0 0 [some (.ref 55), none, none] [] σ (py_ret (.int (nI (py_lvH G))) σ)
  have loop : ∀ i, i ≤ G 12 → py_Go X RX8 cX8_living 3 0 4 [some (.ref 55), some (.int (nI (py_bs (fun p => decide (0 < G (15 + 4 * p))) i))), some (.int (nI i))] [] σ (py_ret (.int (nI (py_lvH G))) σ) := by
    refine py_loop _ (G 12) (fun i hi ih  => ?_)
    refine go_iload_n (pc := 4) dX8_living_4 rfl ?_
    refine go_aload_n (pc := 5) dX8_living_5 rfl ?_
    refine go_bipush (v := nI 12) (pc := 6) dX8_living_6 (by decide) ?_
    refine go_aldN (x := (nI (G 12))) (pc := 8) dX8_living_8 rfl (by show 12 < 33; omega) (py_hm_at hG (show 12 = 12 by omega) (by omega)) ?_
    refine go_icmp_geN (tgt := 41) (pc := 9) dX8_living_9 (by omega) (by omega) (by decide) (fun c_9 => ?_) (fun c_9 => ?_)
    · refine go_iload_n (pc := 41) dX8_living_41 rfl ?_
      exact go_retI (pc := 42) dX8_living_42 (by rw [show i = G 12 by omega]; rfl) rfl
    · refine go_iload_n (pc := 12) dX8_living_12 rfl ?_
      refine go_aload_n (pc := 13) dX8_living_13 rfl ?_
      refine go_bipush (v := nI 13) (pc := 14) dX8_living_14 (by decide) ?_
      refine go_iconst (v := nI 4) (pc := 16) dX8_living_16 (by decide) ?_
      refine go_iload_n (pc := 17) dX8_living_17 rfl ?_
      refine go_imulN (pc := 18) dX8_living_18  ?_
      refine go_iaddN (pc := 19) dX8_living_19  ?_
      refine go_iconst (v := nI 2) (pc := 20) dX8_living_20 (by decide) ?_
      refine go_iaddN (pc := 21) dX8_living_21  ?_
      refine go_aldN (x := (nI (G (15 + 4 * i)))) (pc := 22) dX8_living_22 rfl (by show (13 + (4 * i)) + 2 < 33; omega) (py_hm_at hG (show (13 + (4 * i)) + 2 = 15 + 4 * i by omega) (by omega)) ?_
      have hcl := wP i c_9
      refine go_if_leN (tgt := 32) (pc := 23) dX8_living_23 (by omega) (by decide) (fun c_23 => ?_) (fun c_23 => ?_)
      · refine go_iconst (v := nI 0) (pc := 32) dX8_living_32 (by decide) ?_
        refine go_ior (pc := 33) dX8_living_33 ?_
        refine go_istore_n (pc := 34) dX8_living_34 (by decide) rfl ?_
        refine go_iincN (c := 1) (pc := 35) dX8_living_35 rfl (by decide) (by decide) rfl ?_
        refine go_goto (tgt := 4) (pc := 38) dX8_living_38 (by decide) ?_
        have e8 := ih (by omega)
        rw [← py_bs_f (f := fun p => decide (0 < G (15 + 4 * p))) (p := i) (decide_eq_false (by omega))] at e8
        rw [py_or0]
        exact e8
      · refine go_iconst (v := nI 1) (pc := 26) dX8_living_26 (by decide) ?_
        refine go_iload_n (pc := 27) dX8_living_27 rfl ?_
        refine go_ishl (pc := 28) dX8_living_28 ?_
        refine go_goto (tgt := 33) (pc := 29) dX8_living_29 (by decide) ?_
        refine go_ior (pc := 33) dX8_living_33 ?_
        refine go_istore_n (pc := 34) dX8_living_34 (by decide) rfl ?_
        refine go_iincN (c := 1) (pc := 35) dX8_living_35 rfl (by decide) (by decide) rfl ?_
        refine go_goto (tgt := 4) (pc := 38) dX8_living_38 (by decide) ?_
        have e8 := ih (by omega)
        rw [py_or_add (py_bs_lt _ i) (by omega), py_bs_t (f := fun p => decide (0 < G (15 + 4 * p))) (p := i) (decide_eq_true c_23)]
        exact e8
  refine go_iconst (v := nI 0) (pc := 0) dX8_living_0 (by decide) ?_
  refine go_istore_n (pc := 1) dX8_living_1 (by decide) rfl ?_
  refine go_iconst (v := nI 0) (pc := 2) dX8_living_2 (by decide) ?_
  refine go_istore_n (pc := 3) dX8_living_3 (by decide) rfl ?_
  exact loop 0 (by omega)
set_option maxHeartbeats 4000000 in
set_option maxRecDepth 100000 in
theorem ev_hangOn_53 {X : py_X} {σ : py_H} {G : Nat → Nat} (hG : py_hm (σ 53) 0 G) (w12 : G 12 ≤ 5) (wP : ∀ p, p < G 12 → G (16 + 4 * p) < 4) {x : Nat} (hx : x < 2 ^ 31) : py_Ev X 0 yX8_hangOn cX8_hangOn 4 (some .int) [.ref 53, .int (nI x)] σ (py_ret (.int (nI (py_bs (fun p => decide (G (16 + 4 * p) = x)) (G 12)))) σ) := by
  refine py_ofI (own := RX8) YX8_hangOn.2.2.2.2 rfl rfl (Nat.le_of_ble_eq_true rfl)  ?_
  show py_Go X RX8 cX8_hangOn 4 0 0 [some (.ref 53), some (.int (nI x)), none, none] [] σ (py_ret (.int (nI (py_bs (fun p => decide (G (16 + 4 * p) = x)) (G 12)))) σ)
  have loop : ∀ i, i ≤ G 12 → py_Go X RX8 cX8_hangOn 4 0 4 [some (.ref 53), some (.int (nI x)), some (.int (nI (py_bs (fun p => decide (G (16 + 4 * p) = x)) i))), some (.int (nI i))] [] σ (py_ret (.int (nI (py_bs (fun p => decide (G (16 + 4 * p) = x)) (G 12)))) σ) := by
    refine py_loop _ (G 12) (fun i hi ih  => ?_)
    refine go_iload_n (pc := 4) dX8_hangOn_4 rfl ?_
    refine go_aload_n (pc := 5) dX8_hangOn_5 rfl ?_
    refine go_bipush (v := nI 12) (pc := 6) dX8_hangOn_6 (by decide) ?_
    refine go_aldN (x := (nI (G 12))) (pc := 8) dX8_hangOn_8 rfl (by show 12 < 33; omega) (py_hm_at hG (show 12 = 12 by omega) (by omega)) ?_
    refine go_icmp_geN (tgt := 42) (pc := 9) dX8_hangOn_9 (by omega) (by omega) (by decide) (fun c_9 => ?_) (fun c_9 => ?_)
    · refine go_iload_n (pc := 42) dX8_hangOn_42 rfl ?_
      exact go_retI (pc := 43) dX8_hangOn_43 (by rw [show i = G 12 by omega]) rfl
    · refine go_iload_n (pc := 12) dX8_hangOn_12 rfl ?_
      refine go_aload_n (pc := 13) dX8_hangOn_13 rfl ?_
      refine go_bipush (v := nI 13) (pc := 14) dX8_hangOn_14 (by decide) ?_
      refine go_iconst (v := nI 4) (pc := 16) dX8_hangOn_16 (by decide) ?_
      refine go_iload_n (pc := 17) dX8_hangOn_17 rfl ?_
      refine go_imulN (pc := 18) dX8_hangOn_18  ?_
      refine go_iaddN (pc := 19) dX8_hangOn_19  ?_
      refine go_iconst (v := nI 3) (pc := 20) dX8_hangOn_20 (by decide) ?_
      refine go_iaddN (pc := 21) dX8_hangOn_21  ?_
      refine go_aldN (x := (nI (G (16 + 4 * i)))) (pc := 22) dX8_hangOn_22 rfl (by show (13 + (4 * i)) + 3 < 33; omega) (py_hm_at hG (show (13 + (4 * i)) + 3 = 16 + 4 * i by omega) (by omega)) ?_
      refine go_iload_n (pc := 23) dX8_hangOn_23 rfl ?_
      have hcl := wP i c_9
      refine go_icmp_neN (tgt := 33) (pc := 24) dX8_hangOn_24 (by omega) (by omega) (by decide) (fun c_24 => ?_) (fun c_24 => ?_)
      · refine go_iconst (v := nI 0) (pc := 33) dX8_hangOn_33 (by decide) ?_
        refine go_ior (pc := 34) dX8_hangOn_34 ?_
        refine go_istore_n (pc := 35) dX8_hangOn_35 (by decide) rfl ?_
        refine go_iincN (c := 1) (pc := 36) dX8_hangOn_36 rfl (by decide) (by decide) rfl ?_
        refine go_goto (tgt := 4) (pc := 39) dX8_hangOn_39 (by decide) ?_
        have e8 := ih (by omega)
        rw [← py_bs_f (f := fun p => decide (G (16 + 4 * p) = x)) (p := i) (decide_eq_false c_24)] at e8
        rw [py_or0]
        exact e8
      · refine go_iconst (v := nI 1) (pc := 27) dX8_hangOn_27 (by decide) ?_
        refine go_iload_n (pc := 28) dX8_hangOn_28 rfl ?_
        refine go_ishl (pc := 29) dX8_hangOn_29 ?_
        refine go_goto (tgt := 34) (pc := 30) dX8_hangOn_30 (by decide) ?_
        refine go_ior (pc := 34) dX8_hangOn_34 ?_
        refine go_istore_n (pc := 35) dX8_hangOn_35 (by decide) rfl ?_
        refine go_iincN (c := 1) (pc := 36) dX8_hangOn_36 rfl (by decide) (by decide) rfl ?_
        refine go_goto (tgt := 4) (pc := 39) dX8_hangOn_39 (by decide) ?_
        have e8 := ih (by omega)
        rw [py_or_add (py_bs_lt _ i) (by omega), py_bs_t (f := fun p => decide (G (16 + 4 * p) = x)) (p := i) (decide_eq_true c_24)]
        exact e8
  refine go_iconst (v := nI 0) (pc := 0) dX8_hangOn_0 (by decide) ?_
  refine go_istore_n (pc := 1) dX8_hangOn_1 (by decide) rfl ?_
  refine go_iconst (v := nI 0) (pc := 2) dX8_hangOn_2 (by decide) ?_
  refine go_istore_n (pc := 3) dX8_hangOn_3 (by decide) rfl ?_
  exact loop 0 (by omega)
set_option maxHeartbeats 4000000 in
set_option maxRecDepth 100000 in
theorem ev_hangOn_54 {X : py_X} {σ : py_H} {G : Nat → Nat} (hG : py_hm (σ 54) 0 G) (w12 : G 12 ≤ 5) (wP : ∀ p, p < G 12 → G (16 + 4 * p) < 4) {x : Nat} (hx : x < 2 ^ 31) : py_Ev X 0 yX8_hangOn cX8_hangOn 4 (some .int) [.ref 54, .int (nI x)] σ (py_ret (.int (nI (py_bs (fun p => decide (G (16 + 4 * p) = x)) (G 12)))) σ) := by
  refine py_ofI (own := RX8) YX8_hangOn.2.2.2.2 rfl rfl (Nat.le_of_ble_eq_true rfl)  ?_
  show py_Go X RX8 cX8_hangOn 4 0 0 [some (.ref 54), some (.int (nI x)), none, none] [] σ (py_ret (.int (nI (py_bs (fun p => decide (G (16 + 4 * p) = x)) (G 12)))) σ)
  have loop : ∀ i, i ≤ G 12 → py_Go X RX8 cX8_hangOn 4 0 4 [some (.ref 54), some (.int (nI x)), some (.int (nI (py_bs (fun p => decide (G (16 + 4 * p) = x)) i))), some (.int (nI i))] [] σ (py_ret (.int (nI (py_bs (fun p => decide (G (16 + 4 * p) = x)) (G 12)))) σ) := by
    refine py_loop _ (G 12) (fun i hi ih  => ?_)
    refine go_iload_n (pc := 4) dX8_hangOn_4 rfl ?_
    refine go_aload_n (pc := 5) dX8_hangOn_5 rfl ?_
    refine go_bipush (v := nI 12) (pc := 6) dX8_hangOn_6 (by decide) ?_
    refine go_aldN (x := (nI (G 12))) (pc := 8) dX8_hangOn_8 rfl (by show 12 < 33; omega) (py_hm_at hG (show 12 = 12 by omega) (by omega)) ?_
    refine go_icmp_geN (tgt := 42) (pc := 9) dX8_hangOn_9 (by omega) (by omega) (by decide) (fun c_9 => ?_) (fun c_9 => ?_)
    · refine go_iload_n (pc := 42) dX8_hangOn_42 rfl ?_
      exact go_retI (pc := 43) dX8_hangOn_43 (by rw [show i = G 12 by omega]) rfl
    · refine go_iload_n (pc := 12) dX8_hangOn_12 rfl ?_
      refine go_aload_n (pc := 13) dX8_hangOn_13 rfl ?_
      refine go_bipush (v := nI 13) (pc := 14) dX8_hangOn_14 (by decide) ?_
      refine go_iconst (v := nI 4) (pc := 16) dX8_hangOn_16 (by decide) ?_
      refine go_iload_n (pc := 17) dX8_hangOn_17 rfl ?_
      refine go_imulN (pc := 18) dX8_hangOn_18  ?_
      refine go_iaddN (pc := 19) dX8_hangOn_19  ?_
      refine go_iconst (v := nI 3) (pc := 20) dX8_hangOn_20 (by decide) ?_
      refine go_iaddN (pc := 21) dX8_hangOn_21  ?_
      refine go_aldN (x := (nI (G (16 + 4 * i)))) (pc := 22) dX8_hangOn_22 rfl (by show (13 + (4 * i)) + 3 < 33; omega) (py_hm_at hG (show (13 + (4 * i)) + 3 = 16 + 4 * i by omega) (by omega)) ?_
      refine go_iload_n (pc := 23) dX8_hangOn_23 rfl ?_
      have hcl := wP i c_9
      refine go_icmp_neN (tgt := 33) (pc := 24) dX8_hangOn_24 (by omega) (by omega) (by decide) (fun c_24 => ?_) (fun c_24 => ?_)
      · refine go_iconst (v := nI 0) (pc := 33) dX8_hangOn_33 (by decide) ?_
        refine go_ior (pc := 34) dX8_hangOn_34 ?_
        refine go_istore_n (pc := 35) dX8_hangOn_35 (by decide) rfl ?_
        refine go_iincN (c := 1) (pc := 36) dX8_hangOn_36 rfl (by decide) (by decide) rfl ?_
        refine go_goto (tgt := 4) (pc := 39) dX8_hangOn_39 (by decide) ?_
        have e8 := ih (by omega)
        rw [← py_bs_f (f := fun p => decide (G (16 + 4 * p) = x)) (p := i) (decide_eq_false c_24)] at e8
        rw [py_or0]
        exact e8
      · refine go_iconst (v := nI 1) (pc := 27) dX8_hangOn_27 (by decide) ?_
        refine go_iload_n (pc := 28) dX8_hangOn_28 rfl ?_
        refine go_ishl (pc := 29) dX8_hangOn_29 ?_
        refine go_goto (tgt := 34) (pc := 30) dX8_hangOn_30 (by decide) ?_
        refine go_ior (pc := 34) dX8_hangOn_34 ?_
        refine go_istore_n (pc := 35) dX8_hangOn_35 (by decide) rfl ?_
        refine go_iincN (c := 1) (pc := 36) dX8_hangOn_36 rfl (by decide) (by decide) rfl ?_
        refine go_goto (tgt := 4) (pc := 39) dX8_hangOn_39 (by decide) ?_
        have e8 := ih (by omega)
        rw [py_or_add (py_bs_lt _ i) (by omega), py_bs_t (f := fun p => decide (G (16 + 4 * p) = x)) (p := i) (decide_eq_true c_24)]
        exact e8
  refine go_iconst (v := nI 0) (pc := 0) dX8_hangOn_0 (by decide) ?_
  refine go_istore_n (pc := 1) dX8_hangOn_1 (by decide) rfl ?_
  refine go_iconst (v := nI 0) (pc := 2) dX8_hangOn_2 (by decide) ?_
  refine go_istore_n (pc := 3) dX8_hangOn_3 (by decide) rfl ?_
  exact loop 0 (by omega)
set_option maxHeartbeats 4000000 in
set_option maxRecDepth 100000 in
theorem ev_hangOn_55 {X : py_X} {σ : py_H} {G : Nat → Nat} (hG : py_hm (σ 55) 0 G) (w12 : G 12 ≤ 5) (wP : ∀ p, p < G 12 → G (16 + 4 * p) < 4) {x : Nat} (hx : x < 2 ^ 31) : py_Ev X 0 yX8_hangOn cX8_hangOn 4 (some .int) [.ref 55, .int (nI x)] σ (py_ret (.int (nI (py_bs (fun p => decide (G (16 + 4 * p) = x)) (G 12)))) σ) := by
  refine py_ofI (own := RX8) YX8_hangOn.2.2.2.2 rfl rfl (Nat.le_of_ble_eq_true rfl)  ?_
  show py_Go X RX8 cX8_hangOn 4 0 0 [some (.ref 55), some (.int (nI x)), none, none] [] σ (py_ret (.int (nI (py_bs (fun p => decide (G (16 + 4 * p) = x)) (G 12)))) σ)
  have loop : ∀ i, i ≤ G 12 → py_Go X RX8 cX8_hangOn 4 0 4 [some (.ref 55), some (.int (nI x)), some (.int (nI (py_bs (fun p => decide (G (16 + 4 * p) = x)) i))), some (.int (nI i))] [] σ (py_ret (.int (nI (py_bs (fun p => decide (G (16 + 4 * p) = x)) (G 12)))) σ) := by
    refine py_loop _ (G 12) (fun i hi ih  => ?_)
    refine go_iload_n (pc := 4) dX8_hangOn_4 rfl ?_
    refine go_aload_n (pc := 5) dX8_hangOn_5 rfl ?_
    refine go_bipush (v := nI 12) (pc := 6) dX8_hangOn_6 (by decide) ?_
    refine go_aldN (x := (nI (G 12))) (pc := 8) dX8_hangOn_8 rfl (by show 12 < 33; omega) (py_hm_at hG (show 12 = 12 by omega) (by omega)) ?_
    refine go_icmp_geN (tgt := 42) (pc := 9) dX8_hangOn_9 (by omega) (by omega) (by decide) (fun c_9 => ?_) (fun c_9 => ?_)
    · refine go_iload_n (pc := 42) dX8_hangOn_42 rfl ?_
      exact go_retI (pc := 43) dX8_hangOn_43 (by rw [show i = G 12 by omega]) rfl
    · refine go_iload_n (pc := 12) dX8_hangOn_12 rfl ?_
      refine go_aload_n (pc := 13) dX8_hangOn_13 rfl ?_
      refine go_bipush (v := nI 13) (pc := 14) dX8_hangOn_14 (by decide) ?_
      refine go_iconst (v := nI 4) (pc := 16) dX8_hangOn_16 (by decide) ?_
      refine go_iload_n (pc := 17) dX8_hangOn_17 rfl ?_
      refine go_imulN (pc := 18) dX8_hangOn_18  ?_
      refine go_iaddN (pc := 19) dX8_hangOn_19  ?_
      refine go_iconst (v := nI 3) (pc := 20) dX8_hangOn_20 (by decide) ?_
      refine go_iaddN (pc := 21) dX8_hangOn_21  ?_
      refine go_aldN (x := (nI (G (16 + 4 * i)))) (pc := 22) dX8_hangOn_22 rfl (by show (13 + (4 * i)) + 3 < 33; omega) (py_hm_at hG (show (13 + (4 * i)) + 3 = 16 + 4 * i by omega) (by omega)) ?_
      refine go_iload_n (pc := 23) dX8_hangOn_23 rfl ?_
      have hcl := wP i c_9
      refine go_icmp_neN (tgt := 33) (pc := 24) dX8_hangOn_24 (by omega) (by omega) (by decide) (fun c_24 => ?_) (fun c_24 => ?_)
      · refine go_iconst (v := nI 0) (pc := 33) dX8_hangOn_33 (by decide) ?_
        refine go_ior (pc := 34) dX8_hangOn_34 ?_
        refine go_istore_n (pc := 35) dX8_hangOn_35 (by decide) rfl ?_
        refine go_iincN (c := 1) (pc := 36) dX8_hangOn_36 rfl (by decide) (by decide) rfl ?_
        refine go_goto (tgt := 4) (pc := 39) dX8_hangOn_39 (by decide) ?_
        have e8 := ih (by omega)
        rw [← py_bs_f (f := fun p => decide (G (16 + 4 * p) = x)) (p := i) (decide_eq_false c_24)] at e8
        rw [py_or0]
        exact e8
      · refine go_iconst (v := nI 1) (pc := 27) dX8_hangOn_27 (by decide) ?_
        refine go_iload_n (pc := 28) dX8_hangOn_28 rfl ?_
        refine go_ishl (pc := 29) dX8_hangOn_29 ?_
        refine go_goto (tgt := 34) (pc := 30) dX8_hangOn_30 (by decide) ?_
        refine go_ior (pc := 34) dX8_hangOn_34 ?_
        refine go_istore_n (pc := 35) dX8_hangOn_35 (by decide) rfl ?_
        refine go_iincN (c := 1) (pc := 36) dX8_hangOn_36 rfl (by decide) (by decide) rfl ?_
        refine go_goto (tgt := 4) (pc := 39) dX8_hangOn_39 (by decide) ?_
        have e8 := ih (by omega)
        rw [py_or_add (py_bs_lt _ i) (by omega), py_bs_t (f := fun p => decide (G (16 + 4 * p) = x)) (p := i) (decide_eq_true c_24)]
        exact e8
  refine go_iconst (v := nI 0) (pc := 0) dX8_hangOn_0 (by decide) ?_
  refine go_istore_n (pc := 1) dX8_hangOn_1 (by decide) rfl ?_
  refine go_iconst (v := nI 0) (pc := 2) dX8_hangOn_2 (by decide) ?_
  refine go_istore_n (pc := 3) dX8_hangOn_3 (by decide) rfl ?_
  exact loop 0 (by omega)
set_option maxHeartbeats 4000000 in
set_option maxRecDepth 100000 in
theorem ev_together {X : py_X} {σ : py_H} {G : Nat → Nat} (hG : py_hm (σ 55) 0 G) (w12 : G 12 ≤ 5) : py_Ev X 0 yX8_together cX8_together 3 (some .int) [.ref 55] σ (py_ret (.int (nI (py_sm (fun p => G (15 + 4 * p)) (G 12)))) σ) := by
  refine py_ofI (own := RX8) YX8_together.2.2.2.2 rfl rfl (Nat.le_of_ble_eq_true rfl)  ?_
  show py_Go X RX8 cX8_together 3 0 0 [some (.ref 55), none, none] [] σ (py_ret (.int (nI (py_sm (fun p => G (15 + 4 * p)) (G 12)))) σ)
  have loop : ∀ i, i ≤ G 12 → py_Go X RX8 cX8_together 3 0 4 [some (.ref 55), some (.int (nI (py_sm (fun p => G (15 + 4 * p)) i))), some (.int (nI i))] [] σ (py_ret (.int (nI (py_sm (fun p => G (15 + 4 * p)) (G 12)))) σ) := by
    refine py_loop _ (G 12) (fun i hi ih  => ?_)
    refine go_iload_n (pc := 4) dX8_together_4 rfl ?_
    refine go_aload_n (pc := 5) dX8_together_5 rfl ?_
    refine go_bipush (v := nI 12) (pc := 6) dX8_together_6 (by decide) ?_
    refine go_aldN (x := (nI (G 12))) (pc := 8) dX8_together_8 rfl (by show 12 < 33; omega) (py_hm_at hG (show 12 = 12 by omega) (by omega)) ?_
    refine go_icmp_geN (tgt := 31) (pc := 9) dX8_together_9 (by omega) (by omega) (by decide) (fun c_9 => ?_) (fun c_9 => ?_)
    · refine go_iload_n (pc := 31) dX8_together_31 rfl ?_
      exact go_retI (pc := 32) dX8_together_32 (by rw [show i = G 12 by omega]) rfl
    · refine go_iload_n (pc := 12) dX8_together_12 rfl ?_
      refine go_aload_n (pc := 13) dX8_together_13 rfl ?_
      refine go_bipush (v := nI 13) (pc := 14) dX8_together_14 (by decide) ?_
      refine go_iconst (v := nI 4) (pc := 16) dX8_together_16 (by decide) ?_
      refine go_iload_n (pc := 17) dX8_together_17 rfl ?_
      refine go_imulN (pc := 18) dX8_together_18  ?_
      refine go_iaddN (pc := 19) dX8_together_19  ?_
      refine go_iconst (v := nI 2) (pc := 20) dX8_together_20 (by decide) ?_
      refine go_iaddN (pc := 21) dX8_together_21  ?_
      refine go_aldN (x := (nI (G (15 + 4 * i)))) (pc := 22) dX8_together_22 rfl (by show (13 + (4 * i)) + 2 < 33; omega) (py_hm_at hG (show (13 + (4 * i)) + 2 = 15 + 4 * i by omega) (by omega)) ?_
      refine go_iaddN (pc := 23) dX8_together_23  ?_
      refine go_istore_n (pc := 24) dX8_together_24 (by decide) rfl ?_
      refine go_iincN (c := 1) (pc := 25) dX8_together_25 rfl (by decide) (by decide) rfl ?_
      refine go_goto (tgt := 4) (pc := 28) dX8_together_28 (by decide) ?_
      exact ih (by omega)
  refine go_iconst (v := nI 0) (pc := 0) dX8_together_0 (by decide) ?_
  refine go_istore_n (pc := 1) dX8_together_1 (by decide) rfl ?_
  refine go_iconst (v := nI 0) (pc := 2) dX8_together_2 (by decide) ?_
  refine go_istore_n (pc := 3) dX8_together_3 (by decide) rfl ?_
  exact loop 0 (by omega)
set_option maxHeartbeats 4000000 in
set_option maxRecDepth 100000 in
theorem ev_tries {X : py_X} {σ : py_H} {G : Nat → Nat} (hG : py_hm (σ 53) 0 G) : py_Ev X 1 yX8_tries cX8_tries 1 none [.ref 47] σ (py_vs none (fun s => py_hm (s 55) 0 G ∧ py_fr [55] [] σ s)) := by
  refine py_ofV (own := RX8) YX8_tries.2.2.2.2 rfl rfl (Nat.le_of_ble_eq_true rfl)  ?_
  show py_Go X RX8 cX8_tries 1 1 0 [some (.ref 47)] [] σ (py_vs none (fun s => py_hm (s 55) 0 G ∧ py_fr [55] [] σ s))
  refine go_aload_n (pc := 0) dX8_tries_0 rfl ?_
  refine go_getR (pc := 1) dX8_tries_1 fX8_25 rfl rfl ?_
  refine go_iconst (v := nI 0) (pc := 4) dX8_tries_4 (by decide) ?_
  refine go_aload_n (pc := 5) dX8_tries_5 rfl ?_
  refine go_getR (pc := 6) dX8_tries_6 fX8_31 rfl rfl ?_
  refine go_iconst (v := nI 0) (pc := 9) dX8_tries_9 (by decide) ?_
  refine go_cSv (pc := 10) dX8_tries_10 ev_copies_53_55 lX8_148 YX8_copies SX8_copies rfl (by decide) rfl (Nat.le_of_ble_eq_true rfl) (fun s1 e1 => ?_)
  exact go_retV (pc := 13) dX8_tries_13 (by subst e1; exact ⟨by rw [py_row_self]; exact py_hm_cpy hG, (py_fr.rf [55] [] σ).row (by decide) _⟩)
set_option maxHeartbeats 4000000 in
set_option maxRecDepth 100000 in
theorem ev_goes {X : py_X} {σ : py_H} {G : Nat → Nat} (hG : py_hm (σ 55) 0 G) (hw : py_wm G) {n : Nat} (hn : n ≤ 100) (hy : G 2 + n ≤ 5000) : py_Ev X 2 yX8_goes cX8_goes 3 none [.ref 47, .int (nI n)] σ (py_vs none (fun s => py_hm (s 55) 0 (py_age G n) ∧ py_fr [55] [] σ s)) := by
  refine py_ofV (own := RX8) YX8_goes.2.2.2.2 rfl rfl (Nat.le_of_ble_eq_true rfl)  ?_
  show py_Go X RX8 cX8_goes 3 2 0 [some (.ref 47), some (.int (nI n)), none] [] σ (py_vs none (fun s => py_hm (s 55) 0 (py_age G n) ∧ py_fr [55] [] σ s))
  have loop : ∀ i, i ≤ n → ∀ s, py_hm (s 55) 0 (py_age G i) → py_fr [55] [] σ s → py_Go X RX8 cX8_goes 3 2 2 [some (.ref 47), some (.int (nI n)), some (.int (nI i))] [] s (py_vs none (fun s => py_hm (s 55) 0 (py_age G n) ∧ py_fr [55] [] σ s)) := by
    refine py_loop _ n (fun i hi ih s hGs hs => ?_)
    refine go_iload_n (pc := 2) dX8_goes_2 rfl ?_
    refine go_iload_n (pc := 3) dX8_goes_3 rfl ?_
    refine go_icmp_geN (tgt := 20) (pc := 4) dX8_goes_4 (by omega) (by omega) (by decide) (fun c_4 => ?_) (fun c_4 => ?_)
    · exact go_retV (pc := 20) dX8_goes_20 ⟨by rw [← show i = n by omega]; exact hGs, hs⟩
    · refine go_aload_n (pc := 7) dX8_goes_7 rfl ?_
      refine go_getR (pc := 8) dX8_goes_8 fX8_31 rfl rfl ?_
      refine go_cSv (pc := 11) dX8_goes_11 (ev_passes_55 hGs (py_age_wm hw (by omega))) lX8_162 YX8_passes SX8_passes rfl (by decide) rfl (Nat.le_of_ble_eq_true rfl) (fun s1 hs1 => ?_)
      obtain ⟨hG1, hf1⟩ := hs1
      rw [py_age_ag hw] at hG1
      refine go_iincN (c := 1) (pc := 14) dX8_goes_14 rfl (by decide) (by decide) rfl ?_
      refine go_goto (tgt := 2) (pc := 17) dX8_goes_17 (by decide) ?_
      exact ih (by omega) s1 hG1 (hs.tr hf1 (by decide) (by decide))
  refine go_iconst (v := nI 0) (pc := 0) dX8_goes_0 (by decide) ?_
  refine go_istore_n (pc := 1) dX8_goes_1 (by decide) rfl ?_
  exact loop 0 (by omega) σ (by rw [py_age_0]; exact hG) (py_fr.rf _ _ σ)
set_option maxHeartbeats 4000000 in
set_option maxRecDepth 100000 in
theorem ev_isHouse {X : py_X} {σ : py_H} {G : Nat → Nat} (hG : py_hm (σ 53) 0 G) (w0 : G 0 ≤ 5) : py_Ev X 0 yX8_isHouse cX8_isHouse 1 (some .boolean) [.ref 47] σ (py_ret (.int (py_b (0 < G 0))) σ) := by
  refine py_ofZ (own := RX8) YX8_isHouse.2.2.2.2 rfl rfl (Nat.le_of_ble_eq_true rfl) py_b_ok ?_
  show py_Go X RX8 cX8_isHouse 1 0 0 [some (.ref 47)] [] σ (py_ret (.int (py_b (0 < G 0))) σ)
  refine go_aload_n (pc := 0) dX8_isHouse_0 rfl ?_
  refine go_getR (pc := 1) dX8_isHouse_1 fX8_25 rfl rfl ?_
  refine go_iconst (v := nI 0) (pc := 4) dX8_isHouse_4 (by decide) ?_
  refine go_aldN (x := (nI (G 0))) (pc := 5) dX8_isHouse_5 rfl (by show 0 < 33; omega) (py_hm_at hG (show 0 = 0 by omega) (by omega)) ?_
  refine go_if_leN (tgt := 13) (pc := 6) dX8_isHouse_6 (by omega) (by decide) (fun c_6 => ?_) (fun c_6 => ?_)
  · refine go_iconst (v := nI 0) (pc := 13) dX8_isHouse_13 (by decide) ?_
    exact go_retI (pc := 14) dX8_isHouse_14 (py_b_f (by omega)).symm rfl
  · refine go_iconst (v := nI 1) (pc := 9) dX8_isHouse_9 (by decide) ?_
    refine go_goto (tgt := 14) (pc := 10) dX8_isHouse_10 (by decide) ?_
    exact go_retI (pc := 14) dX8_isHouse_14 (py_b_t c_6).symm rfl
set_option maxHeartbeats 4000000 in
set_option maxRecDepth 100000 in
theorem ev_isPicture {X : py_X} {σ : py_H} {G : Nat → Nat} (hG : py_hm (σ 53) 0 G) (w12 : G 12 ≤ 5) {x : Int32} : py_Ev X 1 yX8_isPicture cX8_isPicture 2 (some .boolean) [.ref 47, .int (x)] σ (py_ret (.int (py_b (py_pi x (G 12)))) σ) := by
  refine py_ofZ (own := RX8) YX8_isPicture.2.2.2.2 rfl rfl (Nat.le_of_ble_eq_true rfl) py_b_ok ?_
  show py_Go X RX8 cX8_isPicture 2 1 0 [some (.ref 47), some (.int (x))] [] σ (py_ret (.int (py_b (py_pi x (G 12)))) σ)
  refine go_iload_n (pc := 0) dX8_isPicture_0 rfl ?_
  refine go_iconst (v := nI 0) (pc := 1) dX8_isPicture_1 (by decide) ?_
  refine go_aload_n (pc := 2) dX8_isPicture_2 rfl ?_
  refine go_getR (pc := 3) dX8_isPicture_3 fX8_25 rfl rfl ?_
  refine go_bipush (v := nI 12) (pc := 6) dX8_isPicture_6 (by decide) ?_
  refine go_aldN (x := (nI (G 12))) (pc := 8) dX8_isPicture_8 rfl (by show 12 < 33; omega) (py_hm_at hG (show 12 = 12 by omega) (by omega)) ?_
  refine go_iconst (v := nI 1) (pc := 9) dX8_isPicture_9 (by decide) ?_
  refine go_isub (pc := 10) dX8_isPicture_10  ?_
  refine go_cS (pc := 11) dX8_isPicture_11 ev_in lX8_59 YX8_in SX8_in rfl (by decide) rfl (Nat.le_of_ble_eq_true rfl) ?_
  exact go_retI (pc := 14) dX8_isPicture_14 (py_b_c (py_pi_w (by omega))) rfl
set_option maxHeartbeats 4000000 in
set_option maxRecDepth 100000 in
theorem ev_isWall {X : py_X} {σ : py_H} {G : Nat → Nat} (hG : py_hm (σ 53) 0 G) (w3 : G 3 ≤ 4) {x : Int32} : py_Ev X 1 yX8_isWall cX8_isWall 2 (some .boolean) [.ref 47, .int (x)] σ (py_ret (.int (py_b (py_pi x (G 3)))) σ) := by
  refine py_ofZ (own := RX8) YX8_isWall.2.2.2.2 rfl rfl (Nat.le_of_ble_eq_true rfl) py_b_ok ?_
  show py_Go X RX8 cX8_isWall 2 1 0 [some (.ref 47), some (.int (x))] [] σ (py_ret (.int (py_b (py_pi x (G 3)))) σ)
  refine go_iload_n (pc := 0) dX8_isWall_0 rfl ?_
  refine go_iconst (v := nI 0) (pc := 1) dX8_isWall_1 (by decide) ?_
  refine go_aload_n (pc := 2) dX8_isWall_2 rfl ?_
  refine go_getR (pc := 3) dX8_isWall_3 fX8_25 rfl rfl ?_
  refine go_iconst (v := nI 3) (pc := 6) dX8_isWall_6 (by decide) ?_
  refine go_aldN (x := (nI (G 3))) (pc := 7) dX8_isWall_7 rfl (by show 3 < 33; omega) (py_hm_at hG (show 3 = 3 by omega) (by omega)) ?_
  refine go_iconst (v := nI 1) (pc := 8) dX8_isWall_8 (by decide) ?_
  refine go_isub (pc := 9) dX8_isWall_9  ?_
  refine go_cS (pc := 10) dX8_isWall_10 ev_in lX8_59 YX8_in SX8_in rfl (by decide) rfl (Nat.le_of_ble_eq_true rfl) ?_
  exact go_retI (pc := 13) dX8_isWall_13 (py_b_c (py_pi_w (by omega))) rfl
set_option maxHeartbeats 4000000 in
set_option maxRecDepth 100000 in
theorem ev_kindIn {X : py_X} {σ : py_H} {G : Nat → Nat} (hG : py_hm (σ 53) 0 G) {p : Nat} (hp : p < 5) : py_Ev X 0 yX8_kindIn cX8_kindIn 2 (some .int) [.ref 47, .int (nI p)] σ (py_ret (.int (nI (G (13 + 4 * p)))) σ) := by
  refine py_ofI (own := RX8) YX8_kindIn.2.2.2.2 rfl rfl (Nat.le_of_ble_eq_true rfl)  ?_
  show py_Go X RX8 cX8_kindIn 2 0 0 [some (.ref 47), some (.int (nI p))] [] σ (py_ret (.int (nI (G (13 + 4 * p)))) σ)
  refine go_aload_n (pc := 0) dX8_kindIn_0 rfl ?_
  refine go_getR (pc := 1) dX8_kindIn_1 fX8_25 rfl rfl ?_
  refine go_bipush (v := nI 13) (pc := 4) dX8_kindIn_4 (by decide) ?_
  refine go_iconst (v := nI 4) (pc := 6) dX8_kindIn_6 (by decide) ?_
  refine go_iload_n (pc := 7) dX8_kindIn_7 rfl ?_
  refine go_imulN (pc := 8) dX8_kindIn_8  ?_
  refine go_iaddN (pc := 9) dX8_kindIn_9  ?_
  refine go_aldN (x := (nI (G (13 + 4 * p)))) (pc := 10) dX8_kindIn_10 rfl (by show 13 + (4 * p) < 33; omega) (py_hm_at hG (show 13 + (4 * p) = 13 + 4 * p by omega) (by omega)) ?_
  exact go_retI (pc := 11) dX8_kindIn_11 rfl rfl
