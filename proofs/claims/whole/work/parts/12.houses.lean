/-! contracts: a house cleared, copied, grown; acts -/
theorem py_row_ap (σ : py_H) (k : Nat) (f : Nat → Int32) (a b : Nat) : py_row σ k f a b = if a = k then f b else σ a b := by
  by_cases h : a = k
  · subst h; rw [py_row_self, if_pos rfl]
  · rw [py_row_ne σ f h, if_neg h]
theorem py_cpy_ap {f g : Nat → Int32} {n j : Nat} (h : j < n) : va_cpy f g 0 0 n j = f j := by
  rw [pk_cpy_in (by omega) (by omega)]
  congr 1
  omega
set_option maxHeartbeats 4000000 in
set_option maxRecDepth 100000 in
theorem ev_clear {X : py_X} {σ : py_H} : py_Ev X 0 yX2_clear cX2_clear 1 none [.ref 14] σ (py_vs none (fun s => s 14 0 = nI 0 ∧ py_hd s 14 (fun _ => 0) ∧ py_fr [14] [] σ s)) := by
  refine py_ofV (own := RX2) YX2_clear.2.2.2.2 rfl rfl (Nat.le_of_ble_eq_true rfl)  ?_
  show py_Go X RX2 cX2_clear 1 0 0 [some (.ref 14)] [] σ (py_vs none (fun s => s 14 0 = nI 0 ∧ py_hd s 14 (fun _ => 0) ∧ py_fr [14] [] σ s))
  refine go_aload_n (pc := 0) dX2_clear_0 rfl ?_
  refine go_iconst (v := nI 0) (pc := 1) dX2_clear_1 (by decide) ?_
  refine go_putZ (pc := 2) dX2_clear_2 fX2_30 rfl rfl (Or.inl (by decide)) ?_
  refine go_aload_n (pc := 5) dX2_clear_5 rfl ?_
  refine go_iconst (v := nI 0) (pc := 6) dX2_clear_6 (by decide) ?_
  refine go_putI (pc := 7) dX2_clear_7 fX2_34 rfl rfl ?_
  refine go_aload_n (pc := 10) dX2_clear_10 rfl ?_
  refine go_iconst (v := nI 0) (pc := 11) dX2_clear_11 (by decide) ?_
  refine go_putI (pc := 12) dX2_clear_12 fX2_38 rfl rfl ?_
  refine go_aload_n (pc := 15) dX2_clear_15 rfl ?_
  refine go_iconst (v := nI 0) (pc := 16) dX2_clear_16 (by decide) ?_
  refine go_putI (pc := 17) dX2_clear_17 fX2_41 rfl rfl ?_
  refine go_aload_n (pc := 20) dX2_clear_20 rfl ?_
  refine go_iconst (v := nI 0) (pc := 21) dX2_clear_21 (by decide) ?_
  refine go_putI (pc := 22) dX2_clear_22 fX2_44 rfl rfl ?_
  refine go_aload_n (pc := 25) dX2_clear_25 rfl ?_
  refine go_iconst (v := nI 0) (pc := 26) dX2_clear_26 (by decide) ?_
  refine go_putI (pc := 27) dX2_clear_27 fX2_47 rfl rfl ?_
  exact go_retV (pc := 30) dX2_clear_30 ⟨by simp only [py_up_ap]; simp, ⟨by simp only [py_up_ap]; simp, by simp only [py_up_ap]; simp, by simp only [py_up_ap]; simp, by simp only [py_up_ap]; simp, by simp only [py_up_ap]; simp, fun w hw => absurd hw (Nat.not_lt_zero _), fun p hp => absurd hp (Nat.not_lt_zero _)⟩, (((((((py_fr.rf [14] [] σ).up (by decide) _).up (by decide) _).up (by decide) _).up (by decide) _).up (by decide) _).up (by decide) _)⟩
set_option maxHeartbeats 4000000 in
set_option maxRecDepth 100000 in
theorem ev_become_7_14 {X : py_X} {σ : py_H} {H : Nat → Nat} (hc : py_hc σ 14 H) (h3 : H 3 ≤ 4) (h12 : H 12 ≤ 5) : py_Ev X 1 yX2_become cX2_become 2 none [.ref 7, .ref 14] σ (py_vs none (fun s => py_hc s 7 H ∧ py_fr [7, 8, 9, 10, 11, 12, 13] [] σ s)) := by
  refine py_ofV (own := RX2) YX2_become.2.2.2.2 rfl rfl (Nat.le_of_ble_eq_true rfl)  ?_
  show py_Go X RX2 cX2_become 2 1 0 [some (.ref 7), some (.ref 14)] [] σ (py_vs none (fun s => py_hc s 7 H ∧ py_fr [7, 8, 9, 10, 11, 12, 13] [] σ s))
  refine go_aload_n (pc := 0) dX2_become_0 rfl ?_
  refine go_aload_n (pc := 1) dX2_become_1 rfl ?_
  refine go_getI (x := (σ 14 0)) (pc := 2) dX2_become_2 fX2_30 rfl rfl rfl ?_
  refine go_putZ (pc := 5) dX2_become_5 fX2_30 rfl rfl (by rw [hc.1]; exact py_b_ok) ?_
  refine go_aload_n (pc := 8) dX2_become_8 rfl ?_
  refine go_aload_n (pc := 9) dX2_become_9 rfl ?_
  refine go_getI (x := (σ 14 1)) (pc := 10) dX2_become_10 fX2_34 rfl rfl (by repeat rw [py_up_k _ _ _ (by decide)]) ?_
  refine go_putI (pc := 13) dX2_become_13 fX2_34 rfl rfl ?_
  refine go_aload_n (pc := 16) dX2_become_16 rfl ?_
  refine go_aload_n (pc := 17) dX2_become_17 rfl ?_
  refine go_getI (x := (σ 14 2)) (pc := 18) dX2_become_18 fX2_38 rfl rfl (by repeat rw [py_up_k _ _ _ (by decide)]) ?_
  refine go_putI (pc := 21) dX2_become_21 fX2_38 rfl rfl ?_
  refine go_aload_n (pc := 24) dX2_become_24 rfl ?_
  refine go_aload_n (pc := 25) dX2_become_25 rfl ?_
  refine go_getI (x := (σ 14 3)) (pc := 26) dX2_become_26 fX2_41 rfl rfl (by repeat rw [py_up_k _ _ _ (by decide)]) ?_
  refine go_putI (pc := 29) dX2_become_29 fX2_41 rfl rfl ?_
  refine go_aload_n (pc := 32) dX2_become_32 rfl ?_
  refine go_aload_n (pc := 33) dX2_become_33 rfl ?_
  refine go_getI (x := (σ 14 4)) (pc := 34) dX2_become_34 fX2_44 rfl rfl (by repeat rw [py_up_k _ _ _ (by decide)]) ?_
  refine go_putI (pc := 37) dX2_become_37 fX2_44 rfl rfl ?_
  refine go_aload_n (pc := 40) dX2_become_40 rfl ?_
  refine go_aload_n (pc := 41) dX2_become_41 rfl ?_
  refine go_getI (x := (σ 14 5)) (pc := 42) dX2_become_42 fX2_47 rfl rfl (by repeat rw [py_up_k _ _ _ (by decide)]) ?_
  refine go_putI (pc := 45) dX2_become_45 fX2_47 rfl rfl ?_
  refine go_aload_n (pc := 48) dX2_become_48 rfl ?_
  refine go_getR (pc := 49) dX2_become_49 fX2_9 rfl rfl ?_
  refine go_iconst (v := nI 0) (pc := 52) dX2_become_52 (by decide) ?_
  refine go_aload_n (pc := 53) dX2_become_53 rfl ?_
  refine go_getR (pc := 54) dX2_become_54 fX2_9 rfl rfl ?_
  refine go_iconst (v := nI 0) (pc := 57) dX2_become_57 (by decide) ?_
  refine go_iconst (v := nI 4) (pc := 58) dX2_become_58 (by decide) ?_
  refine go_copy (pc := 59) dX2_become_59 lX2_50 Ncpy Scpy Isys (by decide) (Nat.le_of_ble_eq_true rfl) rfl rfl (nI_pos (by omega)) (nI_pos (by omega)) (nI_pos (by omega)) (by rw [nI_clamp (by omega), nI_clamp (by omega)]; show 0 + (4) ≤ 4; omega) (by rw [nI_clamp (by omega), nI_clamp (by omega)]; show 0 + (4) ≤ 4; omega) ?_
  simp only [nI_clamp (show 0 < 2 ^ 31 by omega), nI_clamp (show 4 < 2 ^ 31 by omega)]
  refine go_aload_n (pc := 62) dX2_become_62 rfl ?_
  refine go_getR (pc := 63) dX2_become_63 fX2_15 rfl rfl ?_
  refine go_iconst (v := nI 0) (pc := 66) dX2_become_66 (by decide) ?_
  refine go_aload_n (pc := 67) dX2_become_67 rfl ?_
  refine go_getR (pc := 68) dX2_become_68 fX2_15 rfl rfl ?_
  refine go_iconst (v := nI 0) (pc := 71) dX2_become_71 (by decide) ?_
  refine go_iconst (v := nI 4) (pc := 72) dX2_become_72 (by decide) ?_
  refine go_copy (pc := 73) dX2_become_73 lX2_50 Ncpy Scpy Isys (by decide) (Nat.le_of_ble_eq_true rfl) rfl rfl (nI_pos (by omega)) (nI_pos (by omega)) (nI_pos (by omega)) (by rw [nI_clamp (by omega), nI_clamp (by omega)]; show 0 + (4) ≤ 4; omega) (by rw [nI_clamp (by omega), nI_clamp (by omega)]; show 0 + (4) ≤ 4; omega) ?_
  simp only [nI_clamp (show 0 < 2 ^ 31 by omega), nI_clamp (show 4 < 2 ^ 31 by omega)]
  refine go_aload_n (pc := 76) dX2_become_76 rfl ?_
  refine go_getR (pc := 77) dX2_become_77 fX2_18 rfl rfl ?_
  refine go_iconst (v := nI 0) (pc := 80) dX2_become_80 (by decide) ?_
  refine go_aload_n (pc := 81) dX2_become_81 rfl ?_
  refine go_getR (pc := 82) dX2_become_82 fX2_18 rfl rfl ?_
  refine go_iconst (v := nI 0) (pc := 85) dX2_become_85 (by decide) ?_
  refine go_iconst (v := nI 5) (pc := 86) dX2_become_86 (by decide) ?_
  refine go_copy (pc := 87) dX2_become_87 lX2_50 Ncpy Scpy Isys (by decide) (Nat.le_of_ble_eq_true rfl) rfl rfl (nI_pos (by omega)) (nI_pos (by omega)) (nI_pos (by omega)) (by rw [nI_clamp (by omega), nI_clamp (by omega)]; show 0 + (5) ≤ 5; omega) (by rw [nI_clamp (by omega), nI_clamp (by omega)]; show 0 + (5) ≤ 5; omega) ?_
  simp only [nI_clamp (show 0 < 2 ^ 31 by omega), nI_clamp (show 5 < 2 ^ 31 by omega)]
  refine go_aload_n (pc := 90) dX2_become_90 rfl ?_
  refine go_getR (pc := 91) dX2_become_91 fX2_21 rfl rfl ?_
  refine go_iconst (v := nI 0) (pc := 94) dX2_become_94 (by decide) ?_
  refine go_aload_n (pc := 95) dX2_become_95 rfl ?_
  refine go_getR (pc := 96) dX2_become_96 fX2_21 rfl rfl ?_
  refine go_iconst (v := nI 0) (pc := 99) dX2_become_99 (by decide) ?_
  refine go_iconst (v := nI 5) (pc := 100) dX2_become_100 (by decide) ?_
  refine go_copy (pc := 101) dX2_become_101 lX2_50 Ncpy Scpy Isys (by decide) (Nat.le_of_ble_eq_true rfl) rfl rfl (nI_pos (by omega)) (nI_pos (by omega)) (nI_pos (by omega)) (by rw [nI_clamp (by omega), nI_clamp (by omega)]; show 0 + (5) ≤ 5; omega) (by rw [nI_clamp (by omega), nI_clamp (by omega)]; show 0 + (5) ≤ 5; omega) ?_
  simp only [nI_clamp (show 0 < 2 ^ 31 by omega), nI_clamp (show 5 < 2 ^ 31 by omega)]
  refine go_aload_n (pc := 104) dX2_become_104 rfl ?_
  refine go_getR (pc := 105) dX2_become_105 fX2_24 rfl rfl ?_
  refine go_iconst (v := nI 0) (pc := 108) dX2_become_108 (by decide) ?_
  refine go_aload_n (pc := 109) dX2_become_109 rfl ?_
  refine go_getR (pc := 110) dX2_become_110 fX2_24 rfl rfl ?_
  refine go_iconst (v := nI 0) (pc := 113) dX2_become_113 (by decide) ?_
  refine go_iconst (v := nI 5) (pc := 114) dX2_become_114 (by decide) ?_
  refine go_copy (pc := 115) dX2_become_115 lX2_50 Ncpy Scpy Isys (by decide) (Nat.le_of_ble_eq_true rfl) rfl rfl (nI_pos (by omega)) (nI_pos (by omega)) (nI_pos (by omega)) (by rw [nI_clamp (by omega), nI_clamp (by omega)]; show 0 + (5) ≤ 5; omega) (by rw [nI_clamp (by omega), nI_clamp (by omega)]; show 0 + (5) ≤ 5; omega) ?_
  simp only [nI_clamp (show 0 < 2 ^ 31 by omega), nI_clamp (show 5 < 2 ^ 31 by omega)]
  refine go_aload_n (pc := 118) dX2_become_118 rfl ?_
  refine go_getR (pc := 119) dX2_become_119 fX2_27 rfl rfl ?_
  refine go_iconst (v := nI 0) (pc := 122) dX2_become_122 (by decide) ?_
  refine go_aload_n (pc := 123) dX2_become_123 rfl ?_
  refine go_getR (pc := 124) dX2_become_124 fX2_27 rfl rfl ?_
  refine go_iconst (v := nI 0) (pc := 127) dX2_become_127 (by decide) ?_
  refine go_iconst (v := nI 5) (pc := 128) dX2_become_128 (by decide) ?_
  refine go_copy (pc := 129) dX2_become_129 lX2_50 Ncpy Scpy Isys (by decide) (Nat.le_of_ble_eq_true rfl) rfl rfl (nI_pos (by omega)) (nI_pos (by omega)) (nI_pos (by omega)) (by rw [nI_clamp (by omega), nI_clamp (by omega)]; show 0 + (5) ≤ 5; omega) (by rw [nI_clamp (by omega), nI_clamp (by omega)]; show 0 + (5) ≤ 5; omega) ?_
  simp only [nI_clamp (show 0 < 2 ^ 31 by omega), nI_clamp (show 5 < 2 ^ 31 by omega)]
  refine go_retV (pc := 132) dX2_become_132 ?_
  obtain ⟨c0, c1, c2, c3, c4, c5, c6, c7⟩ := hc
  refine ⟨⟨?_, ?_, ?_, ?_, ?_, ?_, ?_, ?_⟩, (((((((((((((py_fr.rf [7, 8, 9, 10, 11, 12, 13] [] σ).up (by decide) _).up (by decide) _).up (by decide) _).up (by decide) _).up (by decide) _).up (by decide) _).row (by decide) _).row (by decide) _).row (by decide) _).row (by decide) _).row (by decide) _).row (by decide) _)⟩
  · simp only [py_row_ap, py_up_ap]; simp; exact c0
  · simp only [py_row_ap, py_up_ap]; simp; exact c1
  · simp only [py_row_ap, py_up_ap]; simp; exact c2
  · simp only [py_row_ap, py_up_ap]; simp; exact c3
  · simp only [py_row_ap, py_up_ap]; simp; exact c4
  · simp only [py_row_ap, py_up_ap]; simp; exact c5
  · intro w hw9
    have z1 := c6 w hw9
    refine ⟨?_, ?_⟩
    · simp only [py_row_ap]; simp [py_cpy_ap (show w < 4 by omega), py_up_k]; exact z1.1
    · simp only [py_row_ap]; simp [py_cpy_ap (show w < 4 by omega), py_up_k, py_row_ne]; exact z1.2
  · intro p hp9
    have z1 := c7 p hp9
    refine ⟨?_, ?_, ?_, ?_⟩
    · simp only [py_row_ap]; simp [py_cpy_ap (show p < 5 by omega), py_up_k, py_row_ne]; exact z1.1
    · simp only [py_row_ap]; simp [py_cpy_ap (show p < 5 by omega), py_up_k, py_row_ne]; exact z1.2.1
    · simp only [py_row_ap]; simp [py_cpy_ap (show p < 5 by omega), py_up_k, py_row_ne]; exact z1.2.2.1
    · simp only [py_row_ap]; simp [py_cpy_ap (show p < 5 by omega), py_up_k, py_row_ne]; exact z1.2.2.2
set_option maxHeartbeats 4000000 in
set_option maxRecDepth 100000 in
theorem ev_become_21_7 {X : py_X} {σ : py_H} {H : Nat → Nat} (hc : py_hc σ 7 H) (h3 : H 3 ≤ 4) (h12 : H 12 ≤ 5) : py_Ev X 1 yX2_become cX2_become 2 none [.ref 21, .ref 7] σ (py_vs none (fun s => py_hc s 21 H ∧ py_fr [21, 22, 23, 24, 25, 26, 27] [] σ s)) := by
  refine py_ofV (own := RX2) YX2_become.2.2.2.2 rfl rfl (Nat.le_of_ble_eq_true rfl)  ?_
  show py_Go X RX2 cX2_become 2 1 0 [some (.ref 21), some (.ref 7)] [] σ (py_vs none (fun s => py_hc s 21 H ∧ py_fr [21, 22, 23, 24, 25, 26, 27] [] σ s))
  refine go_aload_n (pc := 0) dX2_become_0 rfl ?_
  refine go_aload_n (pc := 1) dX2_become_1 rfl ?_
  refine go_getI (x := (σ 7 0)) (pc := 2) dX2_become_2 fX2_30 rfl rfl rfl ?_
  refine go_putZ (pc := 5) dX2_become_5 fX2_30 rfl rfl (by rw [hc.1]; exact py_b_ok) ?_
  refine go_aload_n (pc := 8) dX2_become_8 rfl ?_
  refine go_aload_n (pc := 9) dX2_become_9 rfl ?_
  refine go_getI (x := (σ 7 1)) (pc := 10) dX2_become_10 fX2_34 rfl rfl (by repeat rw [py_up_k _ _ _ (by decide)]) ?_
  refine go_putI (pc := 13) dX2_become_13 fX2_34 rfl rfl ?_
  refine go_aload_n (pc := 16) dX2_become_16 rfl ?_
  refine go_aload_n (pc := 17) dX2_become_17 rfl ?_
  refine go_getI (x := (σ 7 2)) (pc := 18) dX2_become_18 fX2_38 rfl rfl (by repeat rw [py_up_k _ _ _ (by decide)]) ?_
  refine go_putI (pc := 21) dX2_become_21 fX2_38 rfl rfl ?_
  refine go_aload_n (pc := 24) dX2_become_24 rfl ?_
  refine go_aload_n (pc := 25) dX2_become_25 rfl ?_
  refine go_getI (x := (σ 7 3)) (pc := 26) dX2_become_26 fX2_41 rfl rfl (by repeat rw [py_up_k _ _ _ (by decide)]) ?_
  refine go_putI (pc := 29) dX2_become_29 fX2_41 rfl rfl ?_
  refine go_aload_n (pc := 32) dX2_become_32 rfl ?_
  refine go_aload_n (pc := 33) dX2_become_33 rfl ?_
  refine go_getI (x := (σ 7 4)) (pc := 34) dX2_become_34 fX2_44 rfl rfl (by repeat rw [py_up_k _ _ _ (by decide)]) ?_
  refine go_putI (pc := 37) dX2_become_37 fX2_44 rfl rfl ?_
  refine go_aload_n (pc := 40) dX2_become_40 rfl ?_
  refine go_aload_n (pc := 41) dX2_become_41 rfl ?_
  refine go_getI (x := (σ 7 5)) (pc := 42) dX2_become_42 fX2_47 rfl rfl (by repeat rw [py_up_k _ _ _ (by decide)]) ?_
  refine go_putI (pc := 45) dX2_become_45 fX2_47 rfl rfl ?_
  refine go_aload_n (pc := 48) dX2_become_48 rfl ?_
  refine go_getR (pc := 49) dX2_become_49 fX2_9 rfl rfl ?_
  refine go_iconst (v := nI 0) (pc := 52) dX2_become_52 (by decide) ?_
  refine go_aload_n (pc := 53) dX2_become_53 rfl ?_
  refine go_getR (pc := 54) dX2_become_54 fX2_9 rfl rfl ?_
  refine go_iconst (v := nI 0) (pc := 57) dX2_become_57 (by decide) ?_
  refine go_iconst (v := nI 4) (pc := 58) dX2_become_58 (by decide) ?_
  refine go_copy (pc := 59) dX2_become_59 lX2_50 Ncpy Scpy Isys (by decide) (Nat.le_of_ble_eq_true rfl) rfl rfl (nI_pos (by omega)) (nI_pos (by omega)) (nI_pos (by omega)) (by rw [nI_clamp (by omega), nI_clamp (by omega)]; show 0 + (4) ≤ 4; omega) (by rw [nI_clamp (by omega), nI_clamp (by omega)]; show 0 + (4) ≤ 4; omega) ?_
  simp only [nI_clamp (show 0 < 2 ^ 31 by omega), nI_clamp (show 4 < 2 ^ 31 by omega)]
  refine go_aload_n (pc := 62) dX2_become_62 rfl ?_
  refine go_getR (pc := 63) dX2_become_63 fX2_15 rfl rfl ?_
  refine go_iconst (v := nI 0) (pc := 66) dX2_become_66 (by decide) ?_
  refine go_aload_n (pc := 67) dX2_become_67 rfl ?_
  refine go_getR (pc := 68) dX2_become_68 fX2_15 rfl rfl ?_
  refine go_iconst (v := nI 0) (pc := 71) dX2_become_71 (by decide) ?_
  refine go_iconst (v := nI 4) (pc := 72) dX2_become_72 (by decide) ?_
  refine go_copy (pc := 73) dX2_become_73 lX2_50 Ncpy Scpy Isys (by decide) (Nat.le_of_ble_eq_true rfl) rfl rfl (nI_pos (by omega)) (nI_pos (by omega)) (nI_pos (by omega)) (by rw [nI_clamp (by omega), nI_clamp (by omega)]; show 0 + (4) ≤ 4; omega) (by rw [nI_clamp (by omega), nI_clamp (by omega)]; show 0 + (4) ≤ 4; omega) ?_
  simp only [nI_clamp (show 0 < 2 ^ 31 by omega), nI_clamp (show 4 < 2 ^ 31 by omega)]
  refine go_aload_n (pc := 76) dX2_become_76 rfl ?_
  refine go_getR (pc := 77) dX2_become_77 fX2_18 rfl rfl ?_
  refine go_iconst (v := nI 0) (pc := 80) dX2_become_80 (by decide) ?_
  refine go_aload_n (pc := 81) dX2_become_81 rfl ?_
  refine go_getR (pc := 82) dX2_become_82 fX2_18 rfl rfl ?_
  refine go_iconst (v := nI 0) (pc := 85) dX2_become_85 (by decide) ?_
  refine go_iconst (v := nI 5) (pc := 86) dX2_become_86 (by decide) ?_
  refine go_copy (pc := 87) dX2_become_87 lX2_50 Ncpy Scpy Isys (by decide) (Nat.le_of_ble_eq_true rfl) rfl rfl (nI_pos (by omega)) (nI_pos (by omega)) (nI_pos (by omega)) (by rw [nI_clamp (by omega), nI_clamp (by omega)]; show 0 + (5) ≤ 5; omega) (by rw [nI_clamp (by omega), nI_clamp (by omega)]; show 0 + (5) ≤ 5; omega) ?_
  simp only [nI_clamp (show 0 < 2 ^ 31 by omega), nI_clamp (show 5 < 2 ^ 31 by omega)]
  refine go_aload_n (pc := 90) dX2_become_90 rfl ?_
  refine go_getR (pc := 91) dX2_become_91 fX2_21 rfl rfl ?_
  refine go_iconst (v := nI 0) (pc := 94) dX2_become_94 (by decide) ?_
  refine go_aload_n (pc := 95) dX2_become_95 rfl ?_
  refine go_getR (pc := 96) dX2_become_96 fX2_21 rfl rfl ?_
  refine go_iconst (v := nI 0) (pc := 99) dX2_become_99 (by decide) ?_
  refine go_iconst (v := nI 5) (pc := 100) dX2_become_100 (by decide) ?_
  refine go_copy (pc := 101) dX2_become_101 lX2_50 Ncpy Scpy Isys (by decide) (Nat.le_of_ble_eq_true rfl) rfl rfl (nI_pos (by omega)) (nI_pos (by omega)) (nI_pos (by omega)) (by rw [nI_clamp (by omega), nI_clamp (by omega)]; show 0 + (5) ≤ 5; omega) (by rw [nI_clamp (by omega), nI_clamp (by omega)]; show 0 + (5) ≤ 5; omega) ?_
  simp only [nI_clamp (show 0 < 2 ^ 31 by omega), nI_clamp (show 5 < 2 ^ 31 by omega)]
  refine go_aload_n (pc := 104) dX2_become_104 rfl ?_
  refine go_getR (pc := 105) dX2_become_105 fX2_24 rfl rfl ?_
  refine go_iconst (v := nI 0) (pc := 108) dX2_become_108 (by decide) ?_
  refine go_aload_n (pc := 109) dX2_become_109 rfl ?_
  refine go_getR (pc := 110) dX2_become_110 fX2_24 rfl rfl ?_
  refine go_iconst (v := nI 0) (pc := 113) dX2_become_113 (by decide) ?_
  refine go_iconst (v := nI 5) (pc := 114) dX2_become_114 (by decide) ?_
  refine go_copy (pc := 115) dX2_become_115 lX2_50 Ncpy Scpy Isys (by decide) (Nat.le_of_ble_eq_true rfl) rfl rfl (nI_pos (by omega)) (nI_pos (by omega)) (nI_pos (by omega)) (by rw [nI_clamp (by omega), nI_clamp (by omega)]; show 0 + (5) ≤ 5; omega) (by rw [nI_clamp (by omega), nI_clamp (by omega)]; show 0 + (5) ≤ 5; omega) ?_
  simp only [nI_clamp (show 0 < 2 ^ 31 by omega), nI_clamp (show 5 < 2 ^ 31 by omega)]
  refine go_aload_n (pc := 118) dX2_become_118 rfl ?_
  refine go_getR (pc := 119) dX2_become_119 fX2_27 rfl rfl ?_
  refine go_iconst (v := nI 0) (pc := 122) dX2_become_122 (by decide) ?_
  refine go_aload_n (pc := 123) dX2_become_123 rfl ?_
  refine go_getR (pc := 124) dX2_become_124 fX2_27 rfl rfl ?_
  refine go_iconst (v := nI 0) (pc := 127) dX2_become_127 (by decide) ?_
  refine go_iconst (v := nI 5) (pc := 128) dX2_become_128 (by decide) ?_
  refine go_copy (pc := 129) dX2_become_129 lX2_50 Ncpy Scpy Isys (by decide) (Nat.le_of_ble_eq_true rfl) rfl rfl (nI_pos (by omega)) (nI_pos (by omega)) (nI_pos (by omega)) (by rw [nI_clamp (by omega), nI_clamp (by omega)]; show 0 + (5) ≤ 5; omega) (by rw [nI_clamp (by omega), nI_clamp (by omega)]; show 0 + (5) ≤ 5; omega) ?_
  simp only [nI_clamp (show 0 < 2 ^ 31 by omega), nI_clamp (show 5 < 2 ^ 31 by omega)]
  refine go_retV (pc := 132) dX2_become_132 ?_
  obtain ⟨c0, c1, c2, c3, c4, c5, c6, c7⟩ := hc
  refine ⟨⟨?_, ?_, ?_, ?_, ?_, ?_, ?_, ?_⟩, (((((((((((((py_fr.rf [21, 22, 23, 24, 25, 26, 27] [] σ).up (by decide) _).up (by decide) _).up (by decide) _).up (by decide) _).up (by decide) _).up (by decide) _).row (by decide) _).row (by decide) _).row (by decide) _).row (by decide) _).row (by decide) _).row (by decide) _)⟩
  · simp only [py_row_ap, py_up_ap]; simp; exact c0
  · simp only [py_row_ap, py_up_ap]; simp; exact c1
  · simp only [py_row_ap, py_up_ap]; simp; exact c2
  · simp only [py_row_ap, py_up_ap]; simp; exact c3
  · simp only [py_row_ap, py_up_ap]; simp; exact c4
  · simp only [py_row_ap, py_up_ap]; simp; exact c5
  · intro w hw9
    have z1 := c6 w hw9
    refine ⟨?_, ?_⟩
    · simp only [py_row_ap]; simp [py_cpy_ap (show w < 4 by omega), py_up_k]; exact z1.1
    · simp only [py_row_ap]; simp [py_cpy_ap (show w < 4 by omega), py_up_k, py_row_ne]; exact z1.2
  · intro p hp9
    have z1 := c7 p hp9
    refine ⟨?_, ?_, ?_, ?_⟩
    · simp only [py_row_ap]; simp [py_cpy_ap (show p < 5 by omega), py_up_k, py_row_ne]; exact z1.1
    · simp only [py_row_ap]; simp [py_cpy_ap (show p < 5 by omega), py_up_k, py_row_ne]; exact z1.2.1
    · simp only [py_row_ap]; simp [py_cpy_ap (show p < 5 by omega), py_up_k, py_row_ne]; exact z1.2.2.1
    · simp only [py_row_ap]; simp [py_cpy_ap (show p < 5 by omega), py_up_k, py_row_ne]; exact z1.2.2.2
set_option maxHeartbeats 4000000 in
set_option maxRecDepth 100000 in
theorem ev_become_28_7 {X : py_X} {σ : py_H} {H : Nat → Nat} (hc : py_hc σ 7 H) (h3 : H 3 ≤ 4) (h12 : H 12 ≤ 5) : py_Ev X 1 yX2_become cX2_become 2 none [.ref 28, .ref 7] σ (py_vs none (fun s => py_hc s 28 H ∧ py_fr [28, 29, 30, 31, 32, 33, 34] [] σ s)) := by
  refine py_ofV (own := RX2) YX2_become.2.2.2.2 rfl rfl (Nat.le_of_ble_eq_true rfl)  ?_
  show py_Go X RX2 cX2_become 2 1 0 [some (.ref 28), some (.ref 7)] [] σ (py_vs none (fun s => py_hc s 28 H ∧ py_fr [28, 29, 30, 31, 32, 33, 34] [] σ s))
  refine go_aload_n (pc := 0) dX2_become_0 rfl ?_
  refine go_aload_n (pc := 1) dX2_become_1 rfl ?_
  refine go_getI (x := (σ 7 0)) (pc := 2) dX2_become_2 fX2_30 rfl rfl rfl ?_
  refine go_putZ (pc := 5) dX2_become_5 fX2_30 rfl rfl (by rw [hc.1]; exact py_b_ok) ?_
  refine go_aload_n (pc := 8) dX2_become_8 rfl ?_
  refine go_aload_n (pc := 9) dX2_become_9 rfl ?_
  refine go_getI (x := (σ 7 1)) (pc := 10) dX2_become_10 fX2_34 rfl rfl (by repeat rw [py_up_k _ _ _ (by decide)]) ?_
  refine go_putI (pc := 13) dX2_become_13 fX2_34 rfl rfl ?_
  refine go_aload_n (pc := 16) dX2_become_16 rfl ?_
  refine go_aload_n (pc := 17) dX2_become_17 rfl ?_
  refine go_getI (x := (σ 7 2)) (pc := 18) dX2_become_18 fX2_38 rfl rfl (by repeat rw [py_up_k _ _ _ (by decide)]) ?_
  refine go_putI (pc := 21) dX2_become_21 fX2_38 rfl rfl ?_
  refine go_aload_n (pc := 24) dX2_become_24 rfl ?_
  refine go_aload_n (pc := 25) dX2_become_25 rfl ?_
  refine go_getI (x := (σ 7 3)) (pc := 26) dX2_become_26 fX2_41 rfl rfl (by repeat rw [py_up_k _ _ _ (by decide)]) ?_
  refine go_putI (pc := 29) dX2_become_29 fX2_41 rfl rfl ?_
  refine go_aload_n (pc := 32) dX2_become_32 rfl ?_
  refine go_aload_n (pc := 33) dX2_become_33 rfl ?_
  refine go_getI (x := (σ 7 4)) (pc := 34) dX2_become_34 fX2_44 rfl rfl (by repeat rw [py_up_k _ _ _ (by decide)]) ?_
  refine go_putI (pc := 37) dX2_become_37 fX2_44 rfl rfl ?_
  refine go_aload_n (pc := 40) dX2_become_40 rfl ?_
  refine go_aload_n (pc := 41) dX2_become_41 rfl ?_
  refine go_getI (x := (σ 7 5)) (pc := 42) dX2_become_42 fX2_47 rfl rfl (by repeat rw [py_up_k _ _ _ (by decide)]) ?_
  refine go_putI (pc := 45) dX2_become_45 fX2_47 rfl rfl ?_
  refine go_aload_n (pc := 48) dX2_become_48 rfl ?_
  refine go_getR (pc := 49) dX2_become_49 fX2_9 rfl rfl ?_
  refine go_iconst (v := nI 0) (pc := 52) dX2_become_52 (by decide) ?_
  refine go_aload_n (pc := 53) dX2_become_53 rfl ?_
  refine go_getR (pc := 54) dX2_become_54 fX2_9 rfl rfl ?_
  refine go_iconst (v := nI 0) (pc := 57) dX2_become_57 (by decide) ?_
  refine go_iconst (v := nI 4) (pc := 58) dX2_become_58 (by decide) ?_
  refine go_copy (pc := 59) dX2_become_59 lX2_50 Ncpy Scpy Isys (by decide) (Nat.le_of_ble_eq_true rfl) rfl rfl (nI_pos (by omega)) (nI_pos (by omega)) (nI_pos (by omega)) (by rw [nI_clamp (by omega), nI_clamp (by omega)]; show 0 + (4) ≤ 4; omega) (by rw [nI_clamp (by omega), nI_clamp (by omega)]; show 0 + (4) ≤ 4; omega) ?_
  simp only [nI_clamp (show 0 < 2 ^ 31 by omega), nI_clamp (show 4 < 2 ^ 31 by omega)]
  refine go_aload_n (pc := 62) dX2_become_62 rfl ?_
  refine go_getR (pc := 63) dX2_become_63 fX2_15 rfl rfl ?_
  refine go_iconst (v := nI 0) (pc := 66) dX2_become_66 (by decide) ?_
  refine go_aload_n (pc := 67) dX2_become_67 rfl ?_
  refine go_getR (pc := 68) dX2_become_68 fX2_15 rfl rfl ?_
  refine go_iconst (v := nI 0) (pc := 71) dX2_become_71 (by decide) ?_
  refine go_iconst (v := nI 4) (pc := 72) dX2_become_72 (by decide) ?_
  refine go_copy (pc := 73) dX2_become_73 lX2_50 Ncpy Scpy Isys (by decide) (Nat.le_of_ble_eq_true rfl) rfl rfl (nI_pos (by omega)) (nI_pos (by omega)) (nI_pos (by omega)) (by rw [nI_clamp (by omega), nI_clamp (by omega)]; show 0 + (4) ≤ 4; omega) (by rw [nI_clamp (by omega), nI_clamp (by omega)]; show 0 + (4) ≤ 4; omega) ?_
  simp only [nI_clamp (show 0 < 2 ^ 31 by omega), nI_clamp (show 4 < 2 ^ 31 by omega)]
  refine go_aload_n (pc := 76) dX2_become_76 rfl ?_
  refine go_getR (pc := 77) dX2_become_77 fX2_18 rfl rfl ?_
  refine go_iconst (v := nI 0) (pc := 80) dX2_become_80 (by decide) ?_
  refine go_aload_n (pc := 81) dX2_become_81 rfl ?_
  refine go_getR (pc := 82) dX2_become_82 fX2_18 rfl rfl ?_
  refine go_iconst (v := nI 0) (pc := 85) dX2_become_85 (by decide) ?_
  refine go_iconst (v := nI 5) (pc := 86) dX2_become_86 (by decide) ?_
  refine go_copy (pc := 87) dX2_become_87 lX2_50 Ncpy Scpy Isys (by decide) (Nat.le_of_ble_eq_true rfl) rfl rfl (nI_pos (by omega)) (nI_pos (by omega)) (nI_pos (by omega)) (by rw [nI_clamp (by omega), nI_clamp (by omega)]; show 0 + (5) ≤ 5; omega) (by rw [nI_clamp (by omega), nI_clamp (by omega)]; show 0 + (5) ≤ 5; omega) ?_
  simp only [nI_clamp (show 0 < 2 ^ 31 by omega), nI_clamp (show 5 < 2 ^ 31 by omega)]
  refine go_aload_n (pc := 90) dX2_become_90 rfl ?_
  refine go_getR (pc := 91) dX2_become_91 fX2_21 rfl rfl ?_
  refine go_iconst (v := nI 0) (pc := 94) dX2_become_94 (by decide) ?_
  refine go_aload_n (pc := 95) dX2_become_95 rfl ?_
  refine go_getR (pc := 96) dX2_become_96 fX2_21 rfl rfl ?_
  refine go_iconst (v := nI 0) (pc := 99) dX2_become_99 (by decide) ?_
  refine go_iconst (v := nI 5) (pc := 100) dX2_become_100 (by decide) ?_
  refine go_copy (pc := 101) dX2_become_101 lX2_50 Ncpy Scpy Isys (by decide) (Nat.le_of_ble_eq_true rfl) rfl rfl (nI_pos (by omega)) (nI_pos (by omega)) (nI_pos (by omega)) (by rw [nI_clamp (by omega), nI_clamp (by omega)]; show 0 + (5) ≤ 5; omega) (by rw [nI_clamp (by omega), nI_clamp (by omega)]; show 0 + (5) ≤ 5; omega) ?_
  simp only [nI_clamp (show 0 < 2 ^ 31 by omega), nI_clamp (show 5 < 2 ^ 31 by omega)]
  refine go_aload_n (pc := 104) dX2_become_104 rfl ?_
  refine go_getR (pc := 105) dX2_become_105 fX2_24 rfl rfl ?_
  refine go_iconst (v := nI 0) (pc := 108) dX2_become_108 (by decide) ?_
  refine go_aload_n (pc := 109) dX2_become_109 rfl ?_
  refine go_getR (pc := 110) dX2_become_110 fX2_24 rfl rfl ?_
  refine go_iconst (v := nI 0) (pc := 113) dX2_become_113 (by decide) ?_
  refine go_iconst (v := nI 5) (pc := 114) dX2_become_114 (by decide) ?_
  refine go_copy (pc := 115) dX2_become_115 lX2_50 Ncpy Scpy Isys (by decide) (Nat.le_of_ble_eq_true rfl) rfl rfl (nI_pos (by omega)) (nI_pos (by omega)) (nI_pos (by omega)) (by rw [nI_clamp (by omega), nI_clamp (by omega)]; show 0 + (5) ≤ 5; omega) (by rw [nI_clamp (by omega), nI_clamp (by omega)]; show 0 + (5) ≤ 5; omega) ?_
  simp only [nI_clamp (show 0 < 2 ^ 31 by omega), nI_clamp (show 5 < 2 ^ 31 by omega)]
  refine go_aload_n (pc := 118) dX2_become_118 rfl ?_
  refine go_getR (pc := 119) dX2_become_119 fX2_27 rfl rfl ?_
  refine go_iconst (v := nI 0) (pc := 122) dX2_become_122 (by decide) ?_
  refine go_aload_n (pc := 123) dX2_become_123 rfl ?_
  refine go_getR (pc := 124) dX2_become_124 fX2_27 rfl rfl ?_
  refine go_iconst (v := nI 0) (pc := 127) dX2_become_127 (by decide) ?_
  refine go_iconst (v := nI 5) (pc := 128) dX2_become_128 (by decide) ?_
  refine go_copy (pc := 129) dX2_become_129 lX2_50 Ncpy Scpy Isys (by decide) (Nat.le_of_ble_eq_true rfl) rfl rfl (nI_pos (by omega)) (nI_pos (by omega)) (nI_pos (by omega)) (by rw [nI_clamp (by omega), nI_clamp (by omega)]; show 0 + (5) ≤ 5; omega) (by rw [nI_clamp (by omega), nI_clamp (by omega)]; show 0 + (5) ≤ 5; omega) ?_
  simp only [nI_clamp (show 0 < 2 ^ 31 by omega), nI_clamp (show 5 < 2 ^ 31 by omega)]
  refine go_retV (pc := 132) dX2_become_132 ?_
  obtain ⟨c0, c1, c2, c3, c4, c5, c6, c7⟩ := hc
  refine ⟨⟨?_, ?_, ?_, ?_, ?_, ?_, ?_, ?_⟩, (((((((((((((py_fr.rf [28, 29, 30, 31, 32, 33, 34] [] σ).up (by decide) _).up (by decide) _).up (by decide) _).up (by decide) _).up (by decide) _).up (by decide) _).row (by decide) _).row (by decide) _).row (by decide) _).row (by decide) _).row (by decide) _).row (by decide) _)⟩
  · simp only [py_row_ap, py_up_ap]; simp; exact c0
  · simp only [py_row_ap, py_up_ap]; simp; exact c1
  · simp only [py_row_ap, py_up_ap]; simp; exact c2
  · simp only [py_row_ap, py_up_ap]; simp; exact c3
  · simp only [py_row_ap, py_up_ap]; simp; exact c4
  · simp only [py_row_ap, py_up_ap]; simp; exact c5
  · intro w hw9
    have z1 := c6 w hw9
    refine ⟨?_, ?_⟩
    · simp only [py_row_ap]; simp [py_cpy_ap (show w < 4 by omega), py_up_k]; exact z1.1
    · simp only [py_row_ap]; simp [py_cpy_ap (show w < 4 by omega), py_up_k, py_row_ne]; exact z1.2
  · intro p hp9
    have z1 := c7 p hp9
    refine ⟨?_, ?_, ?_, ?_⟩
    · simp only [py_row_ap]; simp [py_cpy_ap (show p < 5 by omega), py_up_k, py_row_ne]; exact z1.1
    · simp only [py_row_ap]; simp [py_cpy_ap (show p < 5 by omega), py_up_k, py_row_ne]; exact z1.2.1
    · simp only [py_row_ap]; simp [py_cpy_ap (show p < 5 by omega), py_up_k, py_row_ne]; exact z1.2.2.1
    · simp only [py_row_ap]; simp [py_cpy_ap (show p < 5 by omega), py_up_k, py_row_ne]; exact z1.2.2.2
set_option maxHeartbeats 4000000 in
set_option maxRecDepth 100000 in
theorem ev_become_7_21 {X : py_X} {σ : py_H} {H : Nat → Nat} (hc : py_hc σ 21 H) (h3 : H 3 ≤ 4) (h12 : H 12 ≤ 5) : py_Ev X 1 yX2_become cX2_become 2 none [.ref 7, .ref 21] σ (py_vs none (fun s => py_hc s 7 H ∧ py_fr [7, 8, 9, 10, 11, 12, 13] [] σ s)) := by
  refine py_ofV (own := RX2) YX2_become.2.2.2.2 rfl rfl (Nat.le_of_ble_eq_true rfl)  ?_
  show py_Go X RX2 cX2_become 2 1 0 [some (.ref 7), some (.ref 21)] [] σ (py_vs none (fun s => py_hc s 7 H ∧ py_fr [7, 8, 9, 10, 11, 12, 13] [] σ s))
  refine go_aload_n (pc := 0) dX2_become_0 rfl ?_
  refine go_aload_n (pc := 1) dX2_become_1 rfl ?_
  refine go_getI (x := (σ 21 0)) (pc := 2) dX2_become_2 fX2_30 rfl rfl rfl ?_
  refine go_putZ (pc := 5) dX2_become_5 fX2_30 rfl rfl (by rw [hc.1]; exact py_b_ok) ?_
  refine go_aload_n (pc := 8) dX2_become_8 rfl ?_
  refine go_aload_n (pc := 9) dX2_become_9 rfl ?_
  refine go_getI (x := (σ 21 1)) (pc := 10) dX2_become_10 fX2_34 rfl rfl (by repeat rw [py_up_k _ _ _ (by decide)]) ?_
  refine go_putI (pc := 13) dX2_become_13 fX2_34 rfl rfl ?_
  refine go_aload_n (pc := 16) dX2_become_16 rfl ?_
  refine go_aload_n (pc := 17) dX2_become_17 rfl ?_
  refine go_getI (x := (σ 21 2)) (pc := 18) dX2_become_18 fX2_38 rfl rfl (by repeat rw [py_up_k _ _ _ (by decide)]) ?_
  refine go_putI (pc := 21) dX2_become_21 fX2_38 rfl rfl ?_
  refine go_aload_n (pc := 24) dX2_become_24 rfl ?_
  refine go_aload_n (pc := 25) dX2_become_25 rfl ?_
  refine go_getI (x := (σ 21 3)) (pc := 26) dX2_become_26 fX2_41 rfl rfl (by repeat rw [py_up_k _ _ _ (by decide)]) ?_
  refine go_putI (pc := 29) dX2_become_29 fX2_41 rfl rfl ?_
  refine go_aload_n (pc := 32) dX2_become_32 rfl ?_
  refine go_aload_n (pc := 33) dX2_become_33 rfl ?_
  refine go_getI (x := (σ 21 4)) (pc := 34) dX2_become_34 fX2_44 rfl rfl (by repeat rw [py_up_k _ _ _ (by decide)]) ?_
  refine go_putI (pc := 37) dX2_become_37 fX2_44 rfl rfl ?_
  refine go_aload_n (pc := 40) dX2_become_40 rfl ?_
  refine go_aload_n (pc := 41) dX2_become_41 rfl ?_
  refine go_getI (x := (σ 21 5)) (pc := 42) dX2_become_42 fX2_47 rfl rfl (by repeat rw [py_up_k _ _ _ (by decide)]) ?_
  refine go_putI (pc := 45) dX2_become_45 fX2_47 rfl rfl ?_
  refine go_aload_n (pc := 48) dX2_become_48 rfl ?_
  refine go_getR (pc := 49) dX2_become_49 fX2_9 rfl rfl ?_
  refine go_iconst (v := nI 0) (pc := 52) dX2_become_52 (by decide) ?_
  refine go_aload_n (pc := 53) dX2_become_53 rfl ?_
  refine go_getR (pc := 54) dX2_become_54 fX2_9 rfl rfl ?_
  refine go_iconst (v := nI 0) (pc := 57) dX2_become_57 (by decide) ?_
  refine go_iconst (v := nI 4) (pc := 58) dX2_become_58 (by decide) ?_
  refine go_copy (pc := 59) dX2_become_59 lX2_50 Ncpy Scpy Isys (by decide) (Nat.le_of_ble_eq_true rfl) rfl rfl (nI_pos (by omega)) (nI_pos (by omega)) (nI_pos (by omega)) (by rw [nI_clamp (by omega), nI_clamp (by omega)]; show 0 + (4) ≤ 4; omega) (by rw [nI_clamp (by omega), nI_clamp (by omega)]; show 0 + (4) ≤ 4; omega) ?_
  simp only [nI_clamp (show 0 < 2 ^ 31 by omega), nI_clamp (show 4 < 2 ^ 31 by omega)]
  refine go_aload_n (pc := 62) dX2_become_62 rfl ?_
  refine go_getR (pc := 63) dX2_become_63 fX2_15 rfl rfl ?_
  refine go_iconst (v := nI 0) (pc := 66) dX2_become_66 (by decide) ?_
  refine go_aload_n (pc := 67) dX2_become_67 rfl ?_
  refine go_getR (pc := 68) dX2_become_68 fX2_15 rfl rfl ?_
  refine go_iconst (v := nI 0) (pc := 71) dX2_become_71 (by decide) ?_
  refine go_iconst (v := nI 4) (pc := 72) dX2_become_72 (by decide) ?_
  refine go_copy (pc := 73) dX2_become_73 lX2_50 Ncpy Scpy Isys (by decide) (Nat.le_of_ble_eq_true rfl) rfl rfl (nI_pos (by omega)) (nI_pos (by omega)) (nI_pos (by omega)) (by rw [nI_clamp (by omega), nI_clamp (by omega)]; show 0 + (4) ≤ 4; omega) (by rw [nI_clamp (by omega), nI_clamp (by omega)]; show 0 + (4) ≤ 4; omega) ?_
  simp only [nI_clamp (show 0 < 2 ^ 31 by omega), nI_clamp (show 4 < 2 ^ 31 by omega)]
  refine go_aload_n (pc := 76) dX2_become_76 rfl ?_
  refine go_getR (pc := 77) dX2_become_77 fX2_18 rfl rfl ?_
  refine go_iconst (v := nI 0) (pc := 80) dX2_become_80 (by decide) ?_
  refine go_aload_n (pc := 81) dX2_become_81 rfl ?_
  refine go_getR (pc := 82) dX2_become_82 fX2_18 rfl rfl ?_
  refine go_iconst (v := nI 0) (pc := 85) dX2_become_85 (by decide) ?_
  refine go_iconst (v := nI 5) (pc := 86) dX2_become_86 (by decide) ?_
  refine go_copy (pc := 87) dX2_become_87 lX2_50 Ncpy Scpy Isys (by decide) (Nat.le_of_ble_eq_true rfl) rfl rfl (nI_pos (by omega)) (nI_pos (by omega)) (nI_pos (by omega)) (by rw [nI_clamp (by omega), nI_clamp (by omega)]; show 0 + (5) ≤ 5; omega) (by rw [nI_clamp (by omega), nI_clamp (by omega)]; show 0 + (5) ≤ 5; omega) ?_
  simp only [nI_clamp (show 0 < 2 ^ 31 by omega), nI_clamp (show 5 < 2 ^ 31 by omega)]
  refine go_aload_n (pc := 90) dX2_become_90 rfl ?_
  refine go_getR (pc := 91) dX2_become_91 fX2_21 rfl rfl ?_
  refine go_iconst (v := nI 0) (pc := 94) dX2_become_94 (by decide) ?_
  refine go_aload_n (pc := 95) dX2_become_95 rfl ?_
  refine go_getR (pc := 96) dX2_become_96 fX2_21 rfl rfl ?_
  refine go_iconst (v := nI 0) (pc := 99) dX2_become_99 (by decide) ?_
  refine go_iconst (v := nI 5) (pc := 100) dX2_become_100 (by decide) ?_
  refine go_copy (pc := 101) dX2_become_101 lX2_50 Ncpy Scpy Isys (by decide) (Nat.le_of_ble_eq_true rfl) rfl rfl (nI_pos (by omega)) (nI_pos (by omega)) (nI_pos (by omega)) (by rw [nI_clamp (by omega), nI_clamp (by omega)]; show 0 + (5) ≤ 5; omega) (by rw [nI_clamp (by omega), nI_clamp (by omega)]; show 0 + (5) ≤ 5; omega) ?_
  simp only [nI_clamp (show 0 < 2 ^ 31 by omega), nI_clamp (show 5 < 2 ^ 31 by omega)]
  refine go_aload_n (pc := 104) dX2_become_104 rfl ?_
  refine go_getR (pc := 105) dX2_become_105 fX2_24 rfl rfl ?_
  refine go_iconst (v := nI 0) (pc := 108) dX2_become_108 (by decide) ?_
  refine go_aload_n (pc := 109) dX2_become_109 rfl ?_
  refine go_getR (pc := 110) dX2_become_110 fX2_24 rfl rfl ?_
  refine go_iconst (v := nI 0) (pc := 113) dX2_become_113 (by decide) ?_
  refine go_iconst (v := nI 5) (pc := 114) dX2_become_114 (by decide) ?_
  refine go_copy (pc := 115) dX2_become_115 lX2_50 Ncpy Scpy Isys (by decide) (Nat.le_of_ble_eq_true rfl) rfl rfl (nI_pos (by omega)) (nI_pos (by omega)) (nI_pos (by omega)) (by rw [nI_clamp (by omega), nI_clamp (by omega)]; show 0 + (5) ≤ 5; omega) (by rw [nI_clamp (by omega), nI_clamp (by omega)]; show 0 + (5) ≤ 5; omega) ?_
  simp only [nI_clamp (show 0 < 2 ^ 31 by omega), nI_clamp (show 5 < 2 ^ 31 by omega)]
  refine go_aload_n (pc := 118) dX2_become_118 rfl ?_
  refine go_getR (pc := 119) dX2_become_119 fX2_27 rfl rfl ?_
  refine go_iconst (v := nI 0) (pc := 122) dX2_become_122 (by decide) ?_
  refine go_aload_n (pc := 123) dX2_become_123 rfl ?_
  refine go_getR (pc := 124) dX2_become_124 fX2_27 rfl rfl ?_
  refine go_iconst (v := nI 0) (pc := 127) dX2_become_127 (by decide) ?_
  refine go_iconst (v := nI 5) (pc := 128) dX2_become_128 (by decide) ?_
  refine go_copy (pc := 129) dX2_become_129 lX2_50 Ncpy Scpy Isys (by decide) (Nat.le_of_ble_eq_true rfl) rfl rfl (nI_pos (by omega)) (nI_pos (by omega)) (nI_pos (by omega)) (by rw [nI_clamp (by omega), nI_clamp (by omega)]; show 0 + (5) ≤ 5; omega) (by rw [nI_clamp (by omega), nI_clamp (by omega)]; show 0 + (5) ≤ 5; omega) ?_
  simp only [nI_clamp (show 0 < 2 ^ 31 by omega), nI_clamp (show 5 < 2 ^ 31 by omega)]
  refine go_retV (pc := 132) dX2_become_132 ?_
  obtain ⟨c0, c1, c2, c3, c4, c5, c6, c7⟩ := hc
  refine ⟨⟨?_, ?_, ?_, ?_, ?_, ?_, ?_, ?_⟩, (((((((((((((py_fr.rf [7, 8, 9, 10, 11, 12, 13] [] σ).up (by decide) _).up (by decide) _).up (by decide) _).up (by decide) _).up (by decide) _).up (by decide) _).row (by decide) _).row (by decide) _).row (by decide) _).row (by decide) _).row (by decide) _).row (by decide) _)⟩
  · simp only [py_row_ap, py_up_ap]; simp; exact c0
  · simp only [py_row_ap, py_up_ap]; simp; exact c1
  · simp only [py_row_ap, py_up_ap]; simp; exact c2
  · simp only [py_row_ap, py_up_ap]; simp; exact c3
  · simp only [py_row_ap, py_up_ap]; simp; exact c4
  · simp only [py_row_ap, py_up_ap]; simp; exact c5
  · intro w hw9
    have z1 := c6 w hw9
    refine ⟨?_, ?_⟩
    · simp only [py_row_ap]; simp [py_cpy_ap (show w < 4 by omega), py_up_k]; exact z1.1
    · simp only [py_row_ap]; simp [py_cpy_ap (show w < 4 by omega), py_up_k, py_row_ne]; exact z1.2
  · intro p hp9
    have z1 := c7 p hp9
    refine ⟨?_, ?_, ?_, ?_⟩
    · simp only [py_row_ap]; simp [py_cpy_ap (show p < 5 by omega), py_up_k, py_row_ne]; exact z1.1
    · simp only [py_row_ap]; simp [py_cpy_ap (show p < 5 by omega), py_up_k, py_row_ne]; exact z1.2.1
    · simp only [py_row_ap]; simp [py_cpy_ap (show p < 5 by omega), py_up_k, py_row_ne]; exact z1.2.2.1
    · simp only [py_row_ap]; simp [py_cpy_ap (show p < 5 by omega), py_up_k, py_row_ne]; exact z1.2.2.2
set_option maxHeartbeats 4000000 in
set_option maxRecDepth 100000 in
theorem ev_become_7_28 {X : py_X} {σ : py_H} {H : Nat → Nat} (hc : py_hc σ 28 H) (h3 : H 3 ≤ 4) (h12 : H 12 ≤ 5) : py_Ev X 1 yX2_become cX2_become 2 none [.ref 7, .ref 28] σ (py_vs none (fun s => py_hc s 7 H ∧ py_fr [7, 8, 9, 10, 11, 12, 13] [] σ s)) := by
  refine py_ofV (own := RX2) YX2_become.2.2.2.2 rfl rfl (Nat.le_of_ble_eq_true rfl)  ?_
  show py_Go X RX2 cX2_become 2 1 0 [some (.ref 7), some (.ref 28)] [] σ (py_vs none (fun s => py_hc s 7 H ∧ py_fr [7, 8, 9, 10, 11, 12, 13] [] σ s))
  refine go_aload_n (pc := 0) dX2_become_0 rfl ?_
  refine go_aload_n (pc := 1) dX2_become_1 rfl ?_
  refine go_getI (x := (σ 28 0)) (pc := 2) dX2_become_2 fX2_30 rfl rfl rfl ?_
  refine go_putZ (pc := 5) dX2_become_5 fX2_30 rfl rfl (by rw [hc.1]; exact py_b_ok) ?_
  refine go_aload_n (pc := 8) dX2_become_8 rfl ?_
  refine go_aload_n (pc := 9) dX2_become_9 rfl ?_
  refine go_getI (x := (σ 28 1)) (pc := 10) dX2_become_10 fX2_34 rfl rfl (by repeat rw [py_up_k _ _ _ (by decide)]) ?_
  refine go_putI (pc := 13) dX2_become_13 fX2_34 rfl rfl ?_
  refine go_aload_n (pc := 16) dX2_become_16 rfl ?_
  refine go_aload_n (pc := 17) dX2_become_17 rfl ?_
  refine go_getI (x := (σ 28 2)) (pc := 18) dX2_become_18 fX2_38 rfl rfl (by repeat rw [py_up_k _ _ _ (by decide)]) ?_
  refine go_putI (pc := 21) dX2_become_21 fX2_38 rfl rfl ?_
  refine go_aload_n (pc := 24) dX2_become_24 rfl ?_
  refine go_aload_n (pc := 25) dX2_become_25 rfl ?_
  refine go_getI (x := (σ 28 3)) (pc := 26) dX2_become_26 fX2_41 rfl rfl (by repeat rw [py_up_k _ _ _ (by decide)]) ?_
  refine go_putI (pc := 29) dX2_become_29 fX2_41 rfl rfl ?_
  refine go_aload_n (pc := 32) dX2_become_32 rfl ?_
  refine go_aload_n (pc := 33) dX2_become_33 rfl ?_
  refine go_getI (x := (σ 28 4)) (pc := 34) dX2_become_34 fX2_44 rfl rfl (by repeat rw [py_up_k _ _ _ (by decide)]) ?_
  refine go_putI (pc := 37) dX2_become_37 fX2_44 rfl rfl ?_
  refine go_aload_n (pc := 40) dX2_become_40 rfl ?_
  refine go_aload_n (pc := 41) dX2_become_41 rfl ?_
  refine go_getI (x := (σ 28 5)) (pc := 42) dX2_become_42 fX2_47 rfl rfl (by repeat rw [py_up_k _ _ _ (by decide)]) ?_
  refine go_putI (pc := 45) dX2_become_45 fX2_47 rfl rfl ?_
  refine go_aload_n (pc := 48) dX2_become_48 rfl ?_
  refine go_getR (pc := 49) dX2_become_49 fX2_9 rfl rfl ?_
  refine go_iconst (v := nI 0) (pc := 52) dX2_become_52 (by decide) ?_
  refine go_aload_n (pc := 53) dX2_become_53 rfl ?_
  refine go_getR (pc := 54) dX2_become_54 fX2_9 rfl rfl ?_
  refine go_iconst (v := nI 0) (pc := 57) dX2_become_57 (by decide) ?_
  refine go_iconst (v := nI 4) (pc := 58) dX2_become_58 (by decide) ?_
  refine go_copy (pc := 59) dX2_become_59 lX2_50 Ncpy Scpy Isys (by decide) (Nat.le_of_ble_eq_true rfl) rfl rfl (nI_pos (by omega)) (nI_pos (by omega)) (nI_pos (by omega)) (by rw [nI_clamp (by omega), nI_clamp (by omega)]; show 0 + (4) ≤ 4; omega) (by rw [nI_clamp (by omega), nI_clamp (by omega)]; show 0 + (4) ≤ 4; omega) ?_
  simp only [nI_clamp (show 0 < 2 ^ 31 by omega), nI_clamp (show 4 < 2 ^ 31 by omega)]
  refine go_aload_n (pc := 62) dX2_become_62 rfl ?_
  refine go_getR (pc := 63) dX2_become_63 fX2_15 rfl rfl ?_
  refine go_iconst (v := nI 0) (pc := 66) dX2_become_66 (by decide) ?_
  refine go_aload_n (pc := 67) dX2_become_67 rfl ?_
  refine go_getR (pc := 68) dX2_become_68 fX2_15 rfl rfl ?_
  refine go_iconst (v := nI 0) (pc := 71) dX2_become_71 (by decide) ?_
  refine go_iconst (v := nI 4) (pc := 72) dX2_become_72 (by decide) ?_
  refine go_copy (pc := 73) dX2_become_73 lX2_50 Ncpy Scpy Isys (by decide) (Nat.le_of_ble_eq_true rfl) rfl rfl (nI_pos (by omega)) (nI_pos (by omega)) (nI_pos (by omega)) (by rw [nI_clamp (by omega), nI_clamp (by omega)]; show 0 + (4) ≤ 4; omega) (by rw [nI_clamp (by omega), nI_clamp (by omega)]; show 0 + (4) ≤ 4; omega) ?_
  simp only [nI_clamp (show 0 < 2 ^ 31 by omega), nI_clamp (show 4 < 2 ^ 31 by omega)]
  refine go_aload_n (pc := 76) dX2_become_76 rfl ?_
  refine go_getR (pc := 77) dX2_become_77 fX2_18 rfl rfl ?_
  refine go_iconst (v := nI 0) (pc := 80) dX2_become_80 (by decide) ?_
  refine go_aload_n (pc := 81) dX2_become_81 rfl ?_
  refine go_getR (pc := 82) dX2_become_82 fX2_18 rfl rfl ?_
  refine go_iconst (v := nI 0) (pc := 85) dX2_become_85 (by decide) ?_
  refine go_iconst (v := nI 5) (pc := 86) dX2_become_86 (by decide) ?_
  refine go_copy (pc := 87) dX2_become_87 lX2_50 Ncpy Scpy Isys (by decide) (Nat.le_of_ble_eq_true rfl) rfl rfl (nI_pos (by omega)) (nI_pos (by omega)) (nI_pos (by omega)) (by rw [nI_clamp (by omega), nI_clamp (by omega)]; show 0 + (5) ≤ 5; omega) (by rw [nI_clamp (by omega), nI_clamp (by omega)]; show 0 + (5) ≤ 5; omega) ?_
  simp only [nI_clamp (show 0 < 2 ^ 31 by omega), nI_clamp (show 5 < 2 ^ 31 by omega)]
  refine go_aload_n (pc := 90) dX2_become_90 rfl ?_
  refine go_getR (pc := 91) dX2_become_91 fX2_21 rfl rfl ?_
  refine go_iconst (v := nI 0) (pc := 94) dX2_become_94 (by decide) ?_
  refine go_aload_n (pc := 95) dX2_become_95 rfl ?_
  refine go_getR (pc := 96) dX2_become_96 fX2_21 rfl rfl ?_
  refine go_iconst (v := nI 0) (pc := 99) dX2_become_99 (by decide) ?_
  refine go_iconst (v := nI 5) (pc := 100) dX2_become_100 (by decide) ?_
  refine go_copy (pc := 101) dX2_become_101 lX2_50 Ncpy Scpy Isys (by decide) (Nat.le_of_ble_eq_true rfl) rfl rfl (nI_pos (by omega)) (nI_pos (by omega)) (nI_pos (by omega)) (by rw [nI_clamp (by omega), nI_clamp (by omega)]; show 0 + (5) ≤ 5; omega) (by rw [nI_clamp (by omega), nI_clamp (by omega)]; show 0 + (5) ≤ 5; omega) ?_
  simp only [nI_clamp (show 0 < 2 ^ 31 by omega), nI_clamp (show 5 < 2 ^ 31 by omega)]
  refine go_aload_n (pc := 104) dX2_become_104 rfl ?_
  refine go_getR (pc := 105) dX2_become_105 fX2_24 rfl rfl ?_
  refine go_iconst (v := nI 0) (pc := 108) dX2_become_108 (by decide) ?_
  refine go_aload_n (pc := 109) dX2_become_109 rfl ?_
  refine go_getR (pc := 110) dX2_become_110 fX2_24 rfl rfl ?_
  refine go_iconst (v := nI 0) (pc := 113) dX2_become_113 (by decide) ?_
  refine go_iconst (v := nI 5) (pc := 114) dX2_become_114 (by decide) ?_
  refine go_copy (pc := 115) dX2_become_115 lX2_50 Ncpy Scpy Isys (by decide) (Nat.le_of_ble_eq_true rfl) rfl rfl (nI_pos (by omega)) (nI_pos (by omega)) (nI_pos (by omega)) (by rw [nI_clamp (by omega), nI_clamp (by omega)]; show 0 + (5) ≤ 5; omega) (by rw [nI_clamp (by omega), nI_clamp (by omega)]; show 0 + (5) ≤ 5; omega) ?_
  simp only [nI_clamp (show 0 < 2 ^ 31 by omega), nI_clamp (show 5 < 2 ^ 31 by omega)]
  refine go_aload_n (pc := 118) dX2_become_118 rfl ?_
  refine go_getR (pc := 119) dX2_become_119 fX2_27 rfl rfl ?_
  refine go_iconst (v := nI 0) (pc := 122) dX2_become_122 (by decide) ?_
  refine go_aload_n (pc := 123) dX2_become_123 rfl ?_
  refine go_getR (pc := 124) dX2_become_124 fX2_27 rfl rfl ?_
  refine go_iconst (v := nI 0) (pc := 127) dX2_become_127 (by decide) ?_
  refine go_iconst (v := nI 5) (pc := 128) dX2_become_128 (by decide) ?_
  refine go_copy (pc := 129) dX2_become_129 lX2_50 Ncpy Scpy Isys (by decide) (Nat.le_of_ble_eq_true rfl) rfl rfl (nI_pos (by omega)) (nI_pos (by omega)) (nI_pos (by omega)) (by rw [nI_clamp (by omega), nI_clamp (by omega)]; show 0 + (5) ≤ 5; omega) (by rw [nI_clamp (by omega), nI_clamp (by omega)]; show 0 + (5) ≤ 5; omega) ?_
  simp only [nI_clamp (show 0 < 2 ^ 31 by omega), nI_clamp (show 5 < 2 ^ 31 by omega)]
  refine go_retV (pc := 132) dX2_become_132 ?_
  obtain ⟨c0, c1, c2, c3, c4, c5, c6, c7⟩ := hc
  refine ⟨⟨?_, ?_, ?_, ?_, ?_, ?_, ?_, ?_⟩, (((((((((((((py_fr.rf [7, 8, 9, 10, 11, 12, 13] [] σ).up (by decide) _).up (by decide) _).up (by decide) _).up (by decide) _).up (by decide) _).up (by decide) _).row (by decide) _).row (by decide) _).row (by decide) _).row (by decide) _).row (by decide) _).row (by decide) _)⟩
  · simp only [py_row_ap, py_up_ap]; simp; exact c0
  · simp only [py_row_ap, py_up_ap]; simp; exact c1
  · simp only [py_row_ap, py_up_ap]; simp; exact c2
  · simp only [py_row_ap, py_up_ap]; simp; exact c3
  · simp only [py_row_ap, py_up_ap]; simp; exact c4
  · simp only [py_row_ap, py_up_ap]; simp; exact c5
  · intro w hw9
    have z1 := c6 w hw9
    refine ⟨?_, ?_⟩
    · simp only [py_row_ap]; simp [py_cpy_ap (show w < 4 by omega), py_up_k]; exact z1.1
    · simp only [py_row_ap]; simp [py_cpy_ap (show w < 4 by omega), py_up_k, py_row_ne]; exact z1.2
  · intro p hp9
    have z1 := c7 p hp9
    refine ⟨?_, ?_, ?_, ?_⟩
    · simp only [py_row_ap]; simp [py_cpy_ap (show p < 5 by omega), py_up_k, py_row_ne]; exact z1.1
    · simp only [py_row_ap]; simp [py_cpy_ap (show p < 5 by omega), py_up_k, py_row_ne]; exact z1.2.1
    · simp only [py_row_ap]; simp [py_cpy_ap (show p < 5 by omega), py_up_k, py_row_ne]; exact z1.2.2.1
    · simp only [py_row_ap]; simp [py_cpy_ap (show p < 5 by omega), py_up_k, py_row_ne]; exact z1.2.2.2
def py_aw (H : Nat → Nat) (l d : Nat) : Nat → Nat := fun j => if j = 3 then H 3 + 1 else if j = 4 + 2 * H 3 then l else if j = 5 + 2 * H 3 then d else H j
def py_ap (H : Nat → Nat) (k s c w : Nat) : Nat → Nat := fun j => if j = 12 then H 12 + 1 else if j = 13 + 4 * H 12 then k else if j = 14 + 4 * H 12 then s else if j = 15 + 4 * H 12 then c else if j = 16 + 4 * H 12 then w else H j
set_option maxHeartbeats 4000000 in
set_option maxRecDepth 100000 in
theorem ev_addWall {X : py_X} {σ : py_H} {H : Nat → Nat} (hc : py_hd σ 14 H) (h3 : H 3 < 4) {l d : Nat} : py_Ev X 0 yX2_addWall cX2_addWall 3 none [.ref 14, .int (nI l), .int (nI d)] σ (py_vs none (fun s => py_hd s 14 (py_aw H l d) ∧ py_fr [14, 15, 16] [] σ s)) := by
  refine py_ofV (own := RX2) YX2_addWall.2.2.2.2 rfl rfl (Nat.le_of_ble_eq_true rfl)  ?_
  show py_Go X RX2 cX2_addWall 3 0 0 [some (.ref 14), some (.int (nI l)), some (.int (nI d))] [] σ (py_vs none (fun s => py_hd s 14 (py_aw H l d) ∧ py_fr [14, 15, 16] [] σ s))
  refine go_aload_n (pc := 0) dX2_addWall_0 rfl ?_
  refine go_getI (x := (nI (H 3))) (pc := 1) dX2_addWall_1 fX2_44 rfl rfl hc.2.2.2.1 ?_
  refine go_iconst (v := nI 4) (pc := 4) dX2_addWall_4 (by decide) ?_
  refine go_icmp_geN (tgt := 38) (pc := 5) dX2_addWall_5 (by omega) (by omega) (by decide) (fun c_5 => ?_) (fun c_5 => ?_)
  · omega
  · refine go_aload_n (pc := 8) dX2_addWall_8 rfl ?_
    refine go_getR (pc := 9) dX2_addWall_9 fX2_9 rfl rfl ?_
    refine go_aload_n (pc := 12) dX2_addWall_12 rfl ?_
    refine go_getI (x := (nI (H 3))) (pc := 13) dX2_addWall_13 fX2_44 rfl rfl hc.2.2.2.1 ?_
    refine go_iload_n (pc := 16) dX2_addWall_16 rfl ?_
    refine go_astN (pc := 17) dX2_addWall_17 rfl (by show H 3 < 4; omega) ?_
    refine go_aload_n (pc := 18) dX2_addWall_18 rfl ?_
    refine go_getR (pc := 19) dX2_addWall_19 fX2_15 rfl rfl ?_
    refine go_aload_n (pc := 22) dX2_addWall_22 rfl ?_
    refine go_getI (x := (nI (H 3))) (pc := 23) dX2_addWall_23 fX2_44 rfl rfl (by (repeat rw [py_up_k _ _ _ (by decide)]); exact hc.2.2.2.1) ?_
    refine go_iload_n (pc := 26) dX2_addWall_26 rfl ?_
    refine go_astN (pc := 27) dX2_addWall_27 rfl (by show H 3 < 4; omega) ?_
    refine go_aload_n (pc := 28) dX2_addWall_28 rfl ?_
    refine go_dup (pc := 29) dX2_addWall_29 rfl ?_
    refine go_getI (x := (nI (H 3))) (pc := 30) dX2_addWall_30 fX2_44 rfl rfl (by (repeat rw [py_up_k _ _ _ (by decide)]); exact hc.2.2.2.1) ?_
    refine go_iconst (v := nI 1) (pc := 33) dX2_addWall_33 (by decide) ?_
    refine go_iaddN (pc := 34) dX2_addWall_34  ?_
    refine go_putI (pc := 35) dX2_addWall_35 fX2_44 rfl rfl ?_
    refine go_retV (pc := 38) dX2_addWall_38 ?_
    obtain ⟨c1, c2, c3, c4, c5, c6, c7⟩ := hc
    refine ⟨⟨?_, ?_, ?_, ?_, ?_, ?_, ?_⟩, (((py_fr.rf [14, 15, 16] [] σ).up (by decide) _).up (by decide) _).up (by decide) _⟩
    · simp only [py_up_ap]; simp [py_aw]; rw [if_neg (by omega), if_neg (by omega)]; exact c1
    · simp only [py_up_ap]; simp [py_aw]; rw [if_neg (by omega), if_neg (by omega)]; exact c2
    · simp only [py_up_ap]; simp [py_aw]; rw [if_neg (by omega), if_neg (by omega)]; exact c3
    · simp only [py_up_ap]; simp [py_aw]
    · simp only [py_up_ap]; simp [py_aw]; rw [if_neg (by omega), if_neg (by omega)]; exact c5
    · intro w hw9
      simp only [py_up_ap, py_aw] at hw9 ⊢
      simp at hw9 ⊢
      by_cases hq : w = H 3
      · subst hq; simp; refine ⟨?_, ?_⟩ <;> rw [if_neg (by omega)]
      · have z := c6 w (by omega)
        rw [if_neg hq, if_neg hq, if_neg (by omega), if_neg (by omega), if_neg (by omega), if_neg (by omega), if_neg (by omega), if_neg (by omega)]
        exact z
    · intro p hp9
      have e12 : py_aw H l d 12 = H 12 := by unfold py_aw; rw [if_neg (by omega), if_neg (by omega), if_neg (by omega)]
      rw [e12] at hp9
      have z := c7 p hp9
      have e : ∀ q, 13 ≤ q → py_aw H l d q = H q := fun q hq => by unfold py_aw; rw [if_neg (by omega), if_neg (by omega), if_neg (by omega)]
      rw [e _ (by omega), e _ (by omega), e _ (by omega), e _ (by omega)]
      simp only [py_up_ap]; simp; exact z
set_option maxHeartbeats 4000000 in
set_option maxRecDepth 100000 in
theorem ev_addPicture {X : py_X} {σ : py_H} {H : Nat → Nat} (hc : py_hd σ 14 H) (h3 : H 3 ≤ 4) (h12 : H 12 < 5) {k s c x : Nat} : py_Ev X 0 yX2_addPicture cX2_addPicture 5 none [.ref 14, .int (nI k), .int (nI s), .int (nI c), .int (nI x)] σ (py_vs none (fun z => py_hd z 14 (py_ap H k s c x) ∧ py_fr [14, 17, 18, 19, 20] [] σ z)) := by
  refine py_ofV (own := RX2) YX2_addPicture.2.2.2.2 rfl rfl (Nat.le_of_ble_eq_true rfl)  ?_
  show py_Go X RX2 cX2_addPicture 5 0 0 [some (.ref 14), some (.int (nI k)), some (.int (nI s)), some (.int (nI c)), some (.int (nI x))] [] σ (py_vs none (fun z => py_hd z 14 (py_ap H k s c x) ∧ py_fr [14, 17, 18, 19, 20] [] σ z))
  refine go_aload_n (pc := 0) dX2_addPicture_0 rfl ?_
  refine go_getI (x := (nI (H 12))) (pc := 1) dX2_addPicture_1 fX2_47 rfl rfl hc.2.2.2.2.1 ?_
  refine go_iconst (v := nI 5) (pc := 4) dX2_addPicture_4 (by decide) ?_
  refine go_icmp_geN (tgt := 59) (pc := 5) dX2_addPicture_5 (by omega) (by omega) (by decide) (fun c_5 => ?_) (fun c_5 => ?_)
  · omega
  · refine go_aload_n (pc := 8) dX2_addPicture_8 rfl ?_
    refine go_getR (pc := 9) dX2_addPicture_9 fX2_18 rfl rfl ?_
    refine go_aload_n (pc := 12) dX2_addPicture_12 rfl ?_
    refine go_getI (x := (nI (H 12))) (pc := 13) dX2_addPicture_13 fX2_47 rfl rfl hc.2.2.2.2.1 ?_
    refine go_iload_n (pc := 16) dX2_addPicture_16 rfl ?_
    refine go_astN (pc := 17) dX2_addPicture_17 rfl (by show H 12 < 5; omega) ?_
    refine go_aload_n (pc := 18) dX2_addPicture_18 rfl ?_
    refine go_getR (pc := 19) dX2_addPicture_19 fX2_21 rfl rfl ?_
    refine go_aload_n (pc := 22) dX2_addPicture_22 rfl ?_
    refine go_getI (x := (nI (H 12))) (pc := 23) dX2_addPicture_23 fX2_47 rfl rfl (by (repeat rw [py_up_k _ _ _ (by decide)]); exact hc.2.2.2.2.1) ?_
    refine go_iload_n (pc := 26) dX2_addPicture_26 rfl ?_
    refine go_astN (pc := 27) dX2_addPicture_27 rfl (by show H 12 < 5; omega) ?_
    refine go_aload_n (pc := 28) dX2_addPicture_28 rfl ?_
    refine go_getR (pc := 29) dX2_addPicture_29 fX2_24 rfl rfl ?_
    refine go_aload_n (pc := 32) dX2_addPicture_32 rfl ?_
    refine go_getI (x := (nI (H 12))) (pc := 33) dX2_addPicture_33 fX2_47 rfl rfl (by (repeat rw [py_up_k _ _ _ (by decide)]); exact hc.2.2.2.2.1) ?_
    refine go_iload_n (pc := 36) dX2_addPicture_36 rfl ?_
    refine go_astN (pc := 37) dX2_addPicture_37 rfl (by show H 12 < 5; omega) ?_
    refine go_aload_n (pc := 38) dX2_addPicture_38 rfl ?_
    refine go_getR (pc := 39) dX2_addPicture_39 fX2_27 rfl rfl ?_
    refine go_aload_n (pc := 42) dX2_addPicture_42 rfl ?_
    refine go_getI (x := (nI (H 12))) (pc := 43) dX2_addPicture_43 fX2_47 rfl rfl (by (repeat rw [py_up_k _ _ _ (by decide)]); exact hc.2.2.2.2.1) ?_
    refine go_iload (pc := 46) dX2_addPicture_46 rfl ?_
    refine go_astN (pc := 48) dX2_addPicture_48 rfl (by show H 12 < 5; omega) ?_
    refine go_aload_n (pc := 49) dX2_addPicture_49 rfl ?_
    refine go_dup (pc := 50) dX2_addPicture_50 rfl ?_
    refine go_getI (x := (nI (H 12))) (pc := 51) dX2_addPicture_51 fX2_47 rfl rfl (by (repeat rw [py_up_k _ _ _ (by decide)]); exact hc.2.2.2.2.1) ?_
    refine go_iconst (v := nI 1) (pc := 54) dX2_addPicture_54 (by decide) ?_
    refine go_iaddN (pc := 55) dX2_addPicture_55  ?_
    refine go_putI (pc := 56) dX2_addPicture_56 fX2_47 rfl rfl ?_
    refine go_retV (pc := 59) dX2_addPicture_59 ?_
    obtain ⟨c1, c2, c3, c4, c5, c6, c7⟩ := hc
    refine ⟨⟨?_, ?_, ?_, ?_, ?_, ?_, ?_⟩, (((((py_fr.rf [14, 17, 18, 19, 20] [] σ).up (by decide) _).up (by decide) _).up (by decide) _).up (by decide) _).up (by decide) _⟩
    · simp only [py_up_ap]; simp [py_ap]; rw [if_neg (by omega), if_neg (by omega), if_neg (by omega), if_neg (by omega)]; exact c1
    · simp only [py_up_ap]; simp [py_ap]; rw [if_neg (by omega), if_neg (by omega), if_neg (by omega), if_neg (by omega)]; exact c2
    · simp only [py_up_ap]; simp [py_ap]; rw [if_neg (by omega), if_neg (by omega), if_neg (by omega), if_neg (by omega)]; exact c3
    · simp only [py_up_ap]; simp [py_ap]; rw [if_neg (by omega), if_neg (by omega), if_neg (by omega), if_neg (by omega)]; exact c4
    · simp only [py_up_ap]; simp [py_ap]
    · intro w hw9
      have e : ∀ q, q < 12 → py_ap H k s c x q = H q := fun q hq => by unfold py_ap; rw [if_neg (by omega), if_neg (by omega), if_neg (by omega), if_neg (by omega), if_neg (by omega)]
      rw [e 3 (by omega)] at hw9
      have z := c6 w hw9
      rw [e _ (by omega), e _ (by omega)]
      simp only [py_up_ap]; simp; exact z
    · intro p hp9
      simp only [py_up_ap, py_ap] at hp9 ⊢
      simp at hp9 ⊢
      by_cases hq : p = H 12
      · subst hq; simp; refine ⟨?_, ?_, ?_⟩ <;> (repeat rw [if_neg (by omega)]) <;> simp
      · have z := c7 p (by omega)
        have e1 : ∀ a b : Nat, a < 4 → b < 4 → ¬ (13 + a + 4 * p = 13 + b + 4 * H 12) := fun a b ha hb => by omega
        simp only [if_neg hq]
        refine ⟨?_, ?_, ?_, ?_⟩
        · rw [if_neg (by omega), if_neg (by omega), if_neg (by omega), if_neg (by omega), if_neg (by omega)]; exact z.1
        · rw [if_neg (by omega), if_neg (by omega), if_neg (by omega), if_neg (by omega), if_neg (by omega)]; exact z.2.1
        · rw [if_neg (by omega), if_neg (by omega), if_neg (by omega), if_neg (by omega), if_neg (by omega)]; exact z.2.2.1
        · rw [if_neg (by omega), if_neg (by omega), if_neg (by omega), if_neg (by omega), if_neg (by omega)]; exact z.2.2.2
