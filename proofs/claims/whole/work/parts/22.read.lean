/-! contracts: walls, pictures, a house read -/
set_option maxHeartbeats 4000000 in
set_option maxRecDepth 100000 in
theorem ev_hasRoomOn {X : py_X} {σ : py_H} {h : Nat} {H : Nat → Nat} (hh : py_hs h) (hc : py_hd σ h H) (h12 : H 12 ≤ 5) (h0 : H 0 ≤ 5) (hpw : ∀ p, p < H 12 → H (16 + 4 * p) < 4) {x : Nat} (hx : x < 2 ^ 31) : py_Ev X 1 yX2_hasRoomOn cX2_hasRoomOn 2 (some .boolean) [.ref h, .int (nI x)] σ (py_ret (.int (py_b (py_cn (fun p => decide (H (16 + 4 * p) = x)) (H 12) < H 0))) σ) := by
  refine py_ofZ (own := RX2) YX2_hasRoomOn.2.2.2.2 rfl rfl (Nat.le_of_ble_eq_true rfl) py_b_ok ?_
  show py_Go X RX2 cX2_hasRoomOn 2 1 0 [some (.ref h), some (.int (nI x))] [] σ (py_ret (.int (py_b (py_cn (fun p => decide (H (16 + 4 * p) = x)) (H 12) < H 0))) σ)
  refine go_aload_n (pc := 0) dX2_hasRoomOn_0 rfl ?_
  refine go_iload_n (pc := 1) dX2_hasRoomOn_1 rfl ?_
  refine go_cV (pc := 2) dX2_hasRoomOn_2 (ev_hungOn (n := H 12) (H := H) (w := x) hh hc.2.2.2.2.1 h12 (fun p hp => ⟨(hc.2.2.2.2.2.2 p hp).2.2.2, hpw p hp⟩) hx) lX2_60 YX2_hungOn VX2_hungOn (py_hsO hh) rfl rfl (by decide) rfl (Nat.le_of_ble_eq_true rfl) ?_
  have hbs := py_bs_lt (fun p => decide (H (16 + 4 * p) = x)) (H 12)
  have h2p : 2 ^ (H 12) ≤ 2 ^ 5 := Nat.pow_le_pow_right (by decide) h12
  refine go_cS (pc := 5) dX2_hasRoomOn_5 (ev_bitCount (by omega)) lX2_64 YJ6_bitCount_0f7a4 SJ6_bitCount_0f7a4 rfl (by decide) rfl (Nat.le_of_ble_eq_true rfl) ?_
  refine go_top (y := nI (py_cn (fun p => decide (H (16 + 4 * p) = x)) (H 12))) (by rw [py_pc_bs _ h12]) ?_
  have hcn := py_cn_le (fun p => decide (H (16 + 4 * p) = x)) (H 12)
  refine go_aload_n (pc := 8) dX2_hasRoomOn_8 rfl ?_
  refine go_getI (x := (nI (H 0))) (pc := 9) dX2_hasRoomOn_9 fX2_34 (py_hsO hh) (py_hsN hh (by decide)) hc.1 ?_
  refine go_icmp_geN (tgt := 19) (pc := 12) dX2_hasRoomOn_12 (by omega) (by omega) (by decide) (fun c_12 => ?_) (fun c_12 => ?_)
  · refine go_iconst (v := nI 0) (pc := 19) dX2_hasRoomOn_19 (by decide) ?_
    exact go_retI (pc := 20) dX2_hasRoomOn_20 (py_b_f (by omega)).symm rfl
  · refine go_iconst (v := nI 1) (pc := 15) dX2_hasRoomOn_15 (by decide) ?_
    refine go_goto (tgt := 20) (pc := 16) dX2_hasRoomOn_16 (by decide) ?_
    exact go_retI (pc := 20) dX2_hasRoomOn_20 (py_b_t (by omega)).symm rfl
set_option maxHeartbeats 4000000 in
set_option maxRecDepth 100000 in
theorem ev_takeWall2 {X : py_X} {σ : py_H} {B : Nat → Nat} {N a : Nat} (ht : py_tc σ B N) (ha : σ 5 2 = nI a) (haN : a ≤ N) {H : Nat → Nat} (hc : py_hd σ 14 H) (h3 : H 3 ≤ 4) (h31 : 1 ≤ H 3) (h12 : H 12 ≤ 5) (h0 : H 0 ≤ 5) (hpw : ∀ p, p < H 12 → H (16 + 4 * p) < 4) : py_Ev X 3 yX6_takeWall cX6_takeWall 4 (some .int) [.ref 5, .ref 14] σ (py_vs (some (.int (py_rv (py_pw B N a H)))) (fun s => py_ps s (py_pw B N a H) ∧ py_fr [] [(5, 2), (5, 3), (5, 4)] σ s)) := by
  have hN := ht.2.1
  refine py_ofI (own := RX6) YX6_takeWall.2.2.2.2 rfl rfl (Nat.le_of_ble_eq_true rfl)  ?_
  show py_Go X RX6 cX6_takeWall 4 3 0 [some (.ref 5), some (.ref 14), none, none] [] σ (py_vs (some (.int (py_rv (py_pw B N a H)))) (fun s => py_ps s (py_pw B N a H) ∧ py_fr [] [(5, 2), (5, 3), (5, 4)] σ s))
  refine go_aload_n (pc := 0) dX6_takeWall_0 rfl ?_
  refine go_getI (x := (nI a)) (pc := 1) dX6_takeWall_1 fX6_19 rfl rfl ha ?_
  refine go_istore_n (pc := 4) dX6_takeWall_4 (by decide) rfl ?_
  refine go_aload_n (pc := 5) dX6_takeWall_5 rfl ?_
  refine go_iconst (v := nI 0) (pc := 6) dX6_takeWall_6 (by decide) ?_
  refine go_aload_n (pc := 7) dX6_takeWall_7 rfl ?_
  refine go_getI (x := (nI (H 3))) (pc := 8) dX6_takeWall_8 fX6_62 rfl rfl hc.2.2.2.1 ?_
  refine go_iconst (v := nI 1) (pc := 11) dX6_takeWall_11 (by decide) ?_
  refine go_isubN (pc := 12) dX6_takeWall_12 (by omega) ?_
  refine go_cVi (pc := 13) dX6_takeWall_13 (ev_takeNum (lo9 := 0) (hi8 := H 3 - 1) ht ha haN (nI_toInt (by decide)) (nI_toInt (by omega))) lX6_45 YX6_takeNumber VX6_takeNumber rfl rfl rfl (by decide) rfl (Nat.le_of_ble_eq_true rfl) (fun s1 e1 => ?_)
  have hc1 := py_hd_tp e1.2 hc
  refine go_istore_n (pc := 16) dX6_takeWall_16 (by decide) rfl ?_
  refine go_iload_n (pc := 17) dX6_takeWall_17 rfl ?_
  refine go_if_ltJ (tgt := 38) (pc := 18) dX6_takeWall_18 (by decide) (fun c_18 => ?_) (fun c_18 => ?_)
  · obtain ⟨p9, k9, hr⟩ := py_rv_n c_18 (fun a v q => by have z := py_num_v hN q; omega)
    refine go_iload_n (pc := 38) dX6_takeWall_38 rfl ?_
    have hR : py_pw B N a H = .inl (p9, k9) := by simp only [py_pw, hr, py_bi]
    exact go_retI (pc := 39) dX6_takeWall_39 (by rw [hR, hr]) ⟨by rw [hR]; have z := e1.1; rw [hr] at z; exact z, e1.2⟩
  · obtain ⟨b, v, hr⟩ := py_rv_p c_18
    have hnv := py_num_v hN hr
    have hv : py_rv (py_num B N a 0 (H 3 - 1)) = nI v := by rw [hr]; rfl
    rw [hv]
    refine go_aload_n (pc := 21) dX6_takeWall_21 rfl ?_
    refine go_iload_n (pc := 22) dX6_takeWall_22 rfl ?_
    refine go_cV (pc := 23) dX6_takeWall_23 (ev_hasRoomOn (Or.inr (Or.inl rfl)) hc1 h12 h0 hpw (by omega)) lX6_91 YX2_hasRoomOn VX2_hasRoomOn rfl rfl rfl (by decide) rfl (Nat.le_of_ble_eq_true rfl) ?_
    refine go_if_neB (tgt := 38) (pc := 26) dX6_takeWall_26 (by decide) (fun c_26 => ?_) (fun c_26 => ?_)
    · refine go_iload_n (pc := 38) dX6_takeWall_38 rfl ?_
      have hR : py_pw B N a H = .inr (b, v) := by simp only [py_pw, hr, py_bi, if_pos c_26]
      exact go_retI (pc := 39) dX6_takeWall_39 (by rw [hR]; rfl) ⟨by rw [hR]; have z := e1.1; rw [hr] at z; exact z, e1.2⟩
    · refine go_aload_n (pc := 29) dX6_takeWall_29 rfl ?_
      refine go_iload_n (pc := 30) dX6_takeWall_30 rfl ?_
      refine go_iconst (v := nI 2) (pc := 31) dX6_takeWall_31 (by decide) ?_
      refine go_cVi (pc := 32) dX6_takeWall_32 ev_failAt lX6_65 YX6_failAt VX6_failAt rfl rfl rfl (by decide) rfl (Nat.le_of_ble_eq_true rfl) (fun s2 e2 => ?_)
      subst e2
      refine go_pop (pc := 35) dX6_takeWall_35 rfl ?_
      refine go_iconst (v := -1) (pc := 36) dX6_takeWall_36 (by decide) ?_
      have hR : py_pw B N a H = .inl (a, 2) := by simp only [py_pw, hr, py_bi, if_neg c_26]
      exact go_retI (pc := 37) dX6_takeWall_37 (by rw [hR]; rfl) ⟨by rw [hR]; exact ⟨by rw [py_up_j _ _ _ (by decide), py_up_s], py_up_s _ _ _ _⟩, (e1.2.ut (by decide) _).ut (by decide) _⟩
def py_kdI (x : Int32) : Nat := if x.toInt = 111 then 1 else if x.toInt = 99 then 2 else if x.toInt = 117 then 3 else if x.toInt = 112 then 4 else if x.toInt = 115 then 5 else 0
theorem py_kdI_at {B : Nat → Nat} {N a : Nat} (hB : ∀ i, i < N → B i ≤ 255) : py_kdI (py_nx B N a) = py_kd (py_at B N a) := by
  unfold py_kdI py_kd py_nx py_at
  by_cases h : a < N
  · have := hB a h
    rw [if_pos h, if_pos h, nI_toInt (by omega)]
    by_cases h1 : B a = 111
    · rw [if_pos (by omega), if_pos h1]
    by_cases h2 : B a = 99
    · rw [if_neg (by omega), if_pos (by omega), if_neg h1, if_pos h2]
    by_cases h3 : B a = 117
    · rw [if_neg (by omega), if_neg (by omega), if_pos (by omega), if_neg h1, if_neg h2, if_pos h3]
    by_cases h4 : B a = 112
    · rw [if_neg (by omega), if_neg (by omega), if_neg (by omega), if_pos (by omega), if_neg h1, if_neg h2, if_neg h3, if_pos h4]
    by_cases h5 : B a = 115
    · rw [if_neg (by omega), if_neg (by omega), if_neg (by omega), if_neg (by omega), if_pos (by omega), if_neg h1, if_neg h2, if_neg h3, if_neg h4, if_pos h5]
    rw [if_neg (by omega), if_neg (by omega), if_neg (by omega), if_neg (by omega), if_neg (by omega), if_neg h1, if_neg h2, if_neg h3, if_neg h4, if_neg h5]
  · rw [if_neg h, if_neg h]
    decide
theorem py_kd_le (c : Nat) : py_kd c ≤ 5 := by
  unfold py_kd
  repeat (first | omega | split)
theorem py_kd_at {B : Nat → Nat} {N a : Nat} (h : 0 < py_kd (py_at B N a)) : a < N := by
  apply Classical.byContradiction
  intro hn
  unfold py_at at h
  rw [if_neg hn] at h
  exact absurd h (by decide)
set_option maxHeartbeats 4000000 in
set_option maxRecDepth 100000 in
theorem ev_kindOfSort {X : py_X} {σ : py_H} {x : Int32} : py_Ev X 0 yX6_kindOfSort cX6_kindOfSort 2 (some .int) [.ref 5, .int (x)] σ (py_ret (.int (nI (py_kdI x))) σ) := by
  refine py_ofI (own := RX6) YX6_kindOfSort.2.2.2.2 rfl rfl (Nat.le_of_ble_eq_true rfl)  ?_
  show py_Go X RX6 cX6_kindOfSort 2 0 0 [some (.ref 5), some (.int (x))] [] σ (py_ret (.int (nI (py_kdI x))) σ)
  refine go_iload_n (pc := 0) dX6_kindOfSort_0 rfl ?_
  rcases (show x.toInt = 99 ∨ x.toInt = 111 ∨ x.toInt = 112 ∨ x.toInt = 115 ∨ x.toInt = 117 ∨ (x.toInt ≠ 99 ∧ x.toInt ≠ 111 ∧ x.toInt ≠ 112 ∧ x.toInt ≠ 115 ∧ x.toInt ≠ 117) by omega) with hx | hx | hx | hx | hx | hx
  · refine go_look (off := 53) (pc := 1) (tgt := 54) dX6_kindOfSort_1 (by decide) (by rw [hx]; decide) (by decide) ?_
    refine go_iconst (v := nI 2) (pc := 54) dX6_kindOfSort_54 (by decide) ?_
    exact go_retI (pc := 55) dX6_kindOfSort_55 (by unfold py_kdI; simp [hx]) rfl
  · refine go_look (off := 51) (pc := 1) (tgt := 52) dX6_kindOfSort_1 (by decide) (by rw [hx]; decide) (by decide) ?_
    refine go_iconst (v := nI 1) (pc := 52) dX6_kindOfSort_52 (by decide) ?_
    exact go_retI (pc := 53) dX6_kindOfSort_53 (by unfold py_kdI; simp [hx]) rfl
  · refine go_look (off := 57) (pc := 1) (tgt := 58) dX6_kindOfSort_1 (by decide) (by rw [hx]; decide) (by decide) ?_
    refine go_iconst (v := nI 4) (pc := 58) dX6_kindOfSort_58 (by decide) ?_
    exact go_retI (pc := 59) dX6_kindOfSort_59 (by unfold py_kdI; simp [hx]) rfl
  · refine go_look (off := 59) (pc := 1) (tgt := 60) dX6_kindOfSort_1 (by decide) (by rw [hx]; decide) (by decide) ?_
    refine go_iconst (v := nI 5) (pc := 60) dX6_kindOfSort_60 (by decide) ?_
    exact go_retI (pc := 61) dX6_kindOfSort_61 (by unfold py_kdI; simp [hx]) rfl
  · refine go_look (off := 55) (pc := 1) (tgt := 56) dX6_kindOfSort_1 (by decide) (by rw [hx]; decide) (by decide) ?_
    refine go_iconst (v := nI 3) (pc := 56) dX6_kindOfSort_56 (by decide) ?_
    exact go_retI (pc := 57) dX6_kindOfSort_57 (by unfold py_kdI; simp [hx]) rfl
  · refine go_look (off := 61) (pc := 1) (tgt := 62) dX6_kindOfSort_1 (by decide) (by (repeat rw [Op.lookupswitch.offset_cons, if_neg (by first | exact hx.1 | exact hx.2.1 | exact hx.2.2.1 | exact hx.2.2.2.1 | exact hx.2.2.2.2 | exact Ne.symm hx.1 | exact Ne.symm hx.2.1 | exact Ne.symm hx.2.2.1 | exact Ne.symm hx.2.2.2.1 | exact Ne.symm hx.2.2.2.2)]); rfl) (by decide) ?_
    refine go_iconst (v := nI 0) (pc := 62) dX6_kindOfSort_62 (by decide) ?_
    exact go_retI (pc := 63) dX6_kindOfSort_63 (by unfold py_kdI; simp [hx]) rfl
theorem py_pw_v {B : Nat → Nat} {N a b v : Nat} {H : Nat → Nat} (hN : N ≤ 100) (h : py_pw B N a H = .inr (b, v)) : v ≤ H 3 - 1 ∧ b ≤ N ∧ v ≤ 99 ∧ py_cn (fun p => decide (H (16 + 4 * p) = v)) (H 12) < H 0 := by
  unfold py_pw at h
  cases hn : py_num B N a 0 (H 3 - 1) with
  | inl e => rw [hn] at h; cases h
  | inr q =>
    obtain ⟨b2, v2⟩ := q
    rw [hn] at h
    have h2 : (if py_cn (fun p => decide (H (16 + 4 * p) = v2)) (H 12) < H 0 then (.inr (b2, v2) : py_Re Nat) else .inl (a, 2)) = .inr (b, v) := h
    have hv := py_num_v hN hn
    by_cases hc : py_cn (fun p => decide (H (16 + 4 * p) = v2)) (H 12) < H 0
    · rw [if_pos hc] at h2
      injection h2 with h2
      injection h2 with e1 e2
      subst e1; subst e2
      exact ⟨hv.2.1, hv.2.2.2.1, hv.2.2.2.2, hc⟩
    · rw [if_neg hc] at h2; cases h2
set_option maxHeartbeats 4000000 in
set_option maxRecDepth 100000 in
theorem ev_readWall {X : py_X} {σ : py_H} {B : Nat → Nat} {N a0 : Nat} (ht : py_tc σ B N) (hat0 : σ 5 2 = nI a0) (haN0 : a0 ≤ N) {H : Nat → Nat} (hc : py_hd σ 14 H) (h34 : H 3 ≤ 4) : py_Ev X 2 yX6_readWall cX6_readWall 4 (some .boolean) [.ref 5, .ref 14] σ (py_vs (some (.int (py_b (py_isok (py_pwall B N a0 H) = true)))) (fun s => py_ps s (py_pwall B N a0 H) ∧ (∀ a9 H9, py_pwall B N a0 H = .inr (a9, H9) → py_hd s 14 H9) ∧ py_fr [14, 15, 16] [(5, 2), (5, 3), (5, 4)] σ s)) := by
  have hN := ht.2.1
  have hB : ∀ i, i < N → B i ≤ 255 := fun i hi => (ht.2.2 i hi).2
  have ht0 := ht
  have hs0 := py_fr.rf [14, 15, 16] [(5, 2), (5, 3), (5, 4)] σ
  have hd0 := hc
  refine py_ofZ (own := RX6) YX6_readWall.2.2.2.2 rfl rfl (Nat.le_of_ble_eq_true rfl) py_b_ok ?_
  show py_Go X RX6 cX6_readWall 4 2 0 [some (.ref 5), some (.ref 14), none, none] [] σ (py_vs (some (.int (py_b (py_isok (py_pwall B N a0 H) = true)))) (fun s => py_ps s (py_pwall B N a0 H) ∧ (∀ a9 H9, py_pwall B N a0 H = .inr (a9, H9) → py_hd s 14 H9) ∧ py_fr [14, 15, 16] [(5, 2), (5, 3), (5, 4)] σ s))
  refine go_aload_n (pc := 0) dX6_readWall_0 rfl ?_
  refine go_cV (pc := 1) dX6_readWall_1 (ev_next ht0 hat0 haN0) lX6_55 YX6_next VX6_next rfl rfl rfl (by decide) rfl (Nat.le_of_ble_eq_true rfl) ?_
  refine go_bipush (v := nI 119) (pc := 4) dX6_readWall_4 (by decide) ?_
  refine go_icmp_ne (tgt := 27) (pc := 6) dX6_readWall_6 (by decide) (fun c_6 => ?_) (fun c_6 => ?_)
  · have hcond : ¬ ((a0 < N ∧ B a0 = 119) ∧ 4 ≤ H 3) := fun z => c_6 ((py_nx_t (by decide) hB).mpr z.1)
    refine go_aload_n (pc := 27) dX6_readWall_27 rfl ?_
    refine go_bipush (v := nI 119) (pc := 28) dX6_readWall_28 (by decide) ?_
    refine go_cVi (pc := 30) dX6_readWall_30 (ev_take ht0 hat0 haN0 (by decide)) lX6_41 YX6_take VX6_take rfl rfl rfl (by decide) rfl (Nat.le_of_ble_eq_true rfl) (fun s1 e1 => ?_)
    refine go_if_neB (tgt := 38) (pc := 33) dX6_readWall_33 (by decide) (fun c_33 => ?_) (fun c_33 => ?_)
    · obtain ⟨a1, v1, hr1⟩ := py_ok_t c_33
      have hat10 : s1 5 2 = nI a1 := by have z := e1.1; rw [hr1] at z; exact z
      have haN1 : a1 ≤ N := (py_chr_v hr1).2.1
      have hs10 : py_fr [14, 15, 16] [(5, 2), (5, 3), (5, 4)] σ s1 := hs0.tr e1.2 (by decide) (by decide)
      have hs1 := hs10
      have hat1 := hat10
      have ht1 := py_tc_fr hs1 (by decide) (by decide) (by decide) (by decide) ht
      have hd1 := py_hd_tp e1.2 hd0
      refine go_aload_n (pc := 38) dX6_readWall_38 rfl ?_
      refine go_iconst (v := nI 0) (pc := 39) dX6_readWall_39 (by decide) ?_
      refine go_bipush (v := nI 9) (pc := 40) dX6_readWall_40 (by decide) ?_
      refine go_cVi (pc := 42) dX6_readWall_42 (ev_takeNum (lo9 := 0) (hi8 := 9) ht1 hat1 haN1 (nI_toInt (by decide)) (nI_toInt (by decide))) lX6_45 YX6_takeNumber VX6_takeNumber rfl rfl rfl (by decide) rfl (Nat.le_of_ble_eq_true rfl) (fun s2 e2 => ?_)
      refine go_istore_n (pc := 45) dX6_readWall_45 (by decide) rfl ?_
      refine go_iload_n (pc := 46) dX6_readWall_46 rfl ?_
      refine go_if_ltJ (tgt := 59) (pc := 47) dX6_readWall_47 (by decide) (fun c_47 => ?_) (fun c_47 => ?_)
      · obtain ⟨p9, k9, hr2⟩ := py_rv_n c_47 (fun a v q => by have z := py_num_v hN q; omega)
        have hR : py_pwall B N a0 H = .inl (p9, k9) := by simp only [py_pwall, if_neg hcond, hr1, hr2, py_bi]
        have hp9 : s2 5 4 = nI p9 ∧ s2 5 3 = nI k9 := by have z := e2.1; rw [hr2] at z; exact z
        have hs20 : py_fr [14, 15, 16] [(5, 2), (5, 3), (5, 4)] σ s2 := hs1.tr e2.2 (by decide) (by decide)
        refine go_iconst (v := nI 0) (pc := 59) dX6_readWall_59 (by decide) ?_
        exact go_retI (pc := 60) dX6_readWall_60 (by rw [hR]; rfl) ⟨by rw [hR]; exact hp9, (fun a H q => by rw [hR] at q; cases q), hs20⟩
      · obtain ⟨a2, v2, hr2⟩ := py_rv_p c_47
        have hat20 : s2 5 2 = nI a2 := by have z := e2.1; rw [hr2] at z; exact z
        have hnv2 := py_num_v hN hr2
        have haN2 : a2 ≤ N := hnv2.2.2.2.1
        have hs20 : py_fr [14, 15, 16] [(5, 2), (5, 3), (5, 4)] σ s2 := hs1.tr e2.2 (by decide) (by decide)
        have hv2 : py_rv (py_num B N a1 0 (9)) = nI v2 := by rw [hr2]; rfl
        rw [hv2]
        have hs2 := hs20
        have hat2 := hat20
        have ht2 := py_tc_fr hs2 (by decide) (by decide) (by decide) (by decide) ht
        have hd2 := py_hd_tp e2.2 hd1
        refine go_aload_n (pc := 50) dX6_readWall_50 rfl ?_
        refine go_bipush (v := nI 44) (pc := 51) dX6_readWall_51 (by decide) ?_
        refine go_cVi (pc := 53) dX6_readWall_53 (ev_take ht2 hat2 haN2 (by decide)) lX6_41 YX6_take VX6_take rfl rfl rfl (by decide) rfl (Nat.le_of_ble_eq_true rfl) (fun s3 e3 => ?_)
        refine go_if_neB (tgt := 61) (pc := 56) dX6_readWall_56 (by decide) (fun c_56 => ?_) (fun c_56 => ?_)
        · obtain ⟨a3, v3, hr3⟩ := py_ok_t c_56
          have hat30 : s3 5 2 = nI a3 := by have z := e3.1; rw [hr3] at z; exact z
          have haN3 : a3 ≤ N := (py_chr_v hr3).2.1
          have hs30 : py_fr [14, 15, 16] [(5, 2), (5, 3), (5, 4)] σ s3 := hs2.tr e3.2 (by decide) (by decide)
          have hs3 := hs30
          have hat3 := hat30
          have ht3 := py_tc_fr hs3 (by decide) (by decide) (by decide) (by decide) ht
          have hd3 := py_hd_tp e3.2 hd2
          refine go_aload_n (pc := 61) dX6_readWall_61 rfl ?_
          refine go_iconst (v := nI 0) (pc := 62) dX6_readWall_62 (by decide) ?_
          refine go_bipush (v := nI 9) (pc := 63) dX6_readWall_63 (by decide) ?_
          refine go_cVi (pc := 65) dX6_readWall_65 (ev_takeNum (lo9 := 0) (hi8 := 9) ht3 hat3 haN3 (nI_toInt (by decide)) (nI_toInt (by decide))) lX6_45 YX6_takeNumber VX6_takeNumber rfl rfl rfl (by decide) rfl (Nat.le_of_ble_eq_true rfl) (fun s4 e4 => ?_)
          refine go_istore_n (pc := 68) dX6_readWall_68 (by decide) rfl ?_
          refine go_iload_n (pc := 69) dX6_readWall_69 rfl ?_
          refine go_if_ltJ (tgt := 82) (pc := 70) dX6_readWall_70 (by decide) (fun c_70 => ?_) (fun c_70 => ?_)
          · obtain ⟨p9, k9, hr4⟩ := py_rv_n c_70 (fun a v q => by have z := py_num_v hN q; omega)
            have hR : py_pwall B N a0 H = .inl (p9, k9) := by simp only [py_pwall, if_neg hcond, hr1, hr2, hr3, hr4, py_bi]
            have hp9 : s4 5 4 = nI p9 ∧ s4 5 3 = nI k9 := by have z := e4.1; rw [hr4] at z; exact z
            have hs40 : py_fr [14, 15, 16] [(5, 2), (5, 3), (5, 4)] σ s4 := hs3.tr e4.2 (by decide) (by decide)
            refine go_iconst (v := nI 0) (pc := 82) dX6_readWall_82 (by decide) ?_
            exact go_retI (pc := 83) dX6_readWall_83 (by rw [hR]; rfl) ⟨by rw [hR]; exact hp9, (fun a H q => by rw [hR] at q; cases q), hs40⟩
          · obtain ⟨a4, v4, hr4⟩ := py_rv_p c_70
            have hat40 : s4 5 2 = nI a4 := by have z := e4.1; rw [hr4] at z; exact z
            have hnv4 := py_num_v hN hr4
            have haN4 : a4 ≤ N := hnv4.2.2.2.1
            have hs40 : py_fr [14, 15, 16] [(5, 2), (5, 3), (5, 4)] σ s4 := hs3.tr e4.2 (by decide) (by decide)
            have hv4 : py_rv (py_num B N a3 0 (9)) = nI v4 := by rw [hr4]; rfl
            rw [hv4]
            have hs4 := hs40
            have hat4 := hat40
            have ht4 := py_tc_fr hs4 (by decide) (by decide) (by decide) (by decide) ht
            have hd4 := py_hd_tp e4.2 hd3
            refine go_aload_n (pc := 73) dX6_readWall_73 rfl ?_
            refine go_bipush (v := nI 59) (pc := 74) dX6_readWall_74 (by decide) ?_
            refine go_cVi (pc := 76) dX6_readWall_76 (ev_take ht4 hat4 haN4 (by decide)) lX6_41 YX6_take VX6_take rfl rfl rfl (by decide) rfl (Nat.le_of_ble_eq_true rfl) (fun s5 e5 => ?_)
            refine go_if_neB (tgt := 84) (pc := 79) dX6_readWall_79 (by decide) (fun c_79 => ?_) (fun c_79 => ?_)
            · obtain ⟨a5, v5, hr5⟩ := py_ok_t c_79
              have hat50 : s5 5 2 = nI a5 := by have z := e5.1; rw [hr5] at z; exact z
              have haN5 : a5 ≤ N := (py_chr_v hr5).2.1
              have hs50 : py_fr [14, 15, 16] [(5, 2), (5, 3), (5, 4)] σ s5 := hs4.tr e5.2 (by decide) (by decide)
              have hs5 := hs50
              have hat5 := hat50
              have ht5 := py_tc_fr hs5 (by decide) (by decide) (by decide) (by decide) ht
              have hd5 := py_hd_tp e5.2 hd4
              refine go_aload_n (pc := 84) dX6_readWall_84 rfl ?_
              refine go_iload_n (pc := 85) dX6_readWall_85 rfl ?_
              refine go_iload_n (pc := 86) dX6_readWall_86 rfl ?_
              have z1 := py_chr_v hr1
              have h3lt : H 3 < 4 := by
                apply Nat.lt_of_not_le
                intro z
                exact hcond ⟨⟨by omega, z1.2.2.2⟩, z⟩
              refine go_cVv (pc := 87) dX6_readWall_87 (ev_addWall hd5 h3lt) lX6_69 YX2_addWall VX2_addWall rfl rfl rfl (by decide) rfl (Nat.le_of_ble_eq_true rfl) (fun s6 e6 => ?_)
              refine go_iconst (v := nI 1) (pc := 90) dX6_readWall_90 (by decide) ?_
              have hR : py_pwall B N a0 H = .inr (a5, py_aw H v2 v4) := by simp only [py_pwall, if_neg hcond, hr1, hr2, hr3, hr4, hr5, py_bi]
              refine go_retI (pc := 91) dX6_readWall_91 (by rw [hR]; rfl) ⟨by rw [hR]; show s6 5 2 = nI a5; rw [e6.2 5 2 (by decide) (by decide)]; exact hat5, ?_, hs5.tr e6.2 (by decide) (by decide)⟩
              intro a9 H9 q
              rw [hR] at q
              injection q with q
              injection q with q1 q2
              subst q2
              exact e6.1
            · obtain ⟨p9, k9, hr5⟩ := py_ok_f c_79
              have hR : py_pwall B N a0 H = .inl (p9, k9) := by simp only [py_pwall, if_neg hcond, hr1, hr2, hr3, hr4, hr5, py_bi]
              have hp9 : s5 5 4 = nI p9 ∧ s5 5 3 = nI k9 := by have z := e5.1; rw [hr5] at z; exact z
              have hs50 : py_fr [14, 15, 16] [(5, 2), (5, 3), (5, 4)] σ s5 := hs4.tr e5.2 (by decide) (by decide)
              refine go_iconst (v := nI 0) (pc := 82) dX6_readWall_82 (by decide) ?_
              exact go_retI (pc := 83) dX6_readWall_83 (by rw [hR]; rfl) ⟨by rw [hR]; exact hp9, (fun a H q => by rw [hR] at q; cases q), hs50⟩
        · obtain ⟨p9, k9, hr3⟩ := py_ok_f c_56
          have hR : py_pwall B N a0 H = .inl (p9, k9) := by simp only [py_pwall, if_neg hcond, hr1, hr2, hr3, py_bi]
          have hp9 : s3 5 4 = nI p9 ∧ s3 5 3 = nI k9 := by have z := e3.1; rw [hr3] at z; exact z
          have hs30 : py_fr [14, 15, 16] [(5, 2), (5, 3), (5, 4)] σ s3 := hs2.tr e3.2 (by decide) (by decide)
          refine go_iconst (v := nI 0) (pc := 59) dX6_readWall_59 (by decide) ?_
          exact go_retI (pc := 60) dX6_readWall_60 (by rw [hR]; rfl) ⟨by rw [hR]; exact hp9, (fun a H q => by rw [hR] at q; cases q), hs30⟩
    · obtain ⟨p9, k9, hr1⟩ := py_ok_f c_33
      have hR : py_pwall B N a0 H = .inl (p9, k9) := by simp only [py_pwall, if_neg hcond, hr1, py_bi]
      have hp9 : s1 5 4 = nI p9 ∧ s1 5 3 = nI k9 := by have z := e1.1; rw [hr1] at z; exact z
      have hs10 : py_fr [14, 15, 16] [(5, 2), (5, 3), (5, 4)] σ s1 := hs0.tr e1.2 (by decide) (by decide)
      refine go_iconst (v := nI 0) (pc := 36) dX6_readWall_36 (by decide) ?_
      exact go_retI (pc := 37) dX6_readWall_37 (by rw [hR]; rfl) ⟨by rw [hR]; exact hp9, (fun a H q => by rw [hR] at q; cases q), hs10⟩
  · refine go_aload_n (pc := 9) dX6_readWall_9 rfl ?_
    refine go_getI (x := (nI (H 3))) (pc := 10) dX6_readWall_10 fX6_62 rfl rfl hd0.2.2.2.1 ?_
    refine go_iconst (v := nI 4) (pc := 13) dX6_readWall_13 (by decide) ?_
    refine go_icmp_ltN (tgt := 27) (pc := 14) dX6_readWall_14 (by omega) (by omega) (by decide) (fun c_14 => ?_) (fun c_14 => ?_)
    · have hcond : ¬ ((a0 < N ∧ B a0 = 119) ∧ 4 ≤ H 3) := by omega
      refine go_aload_n (pc := 27) dX6_readWall_27 rfl ?_
      refine go_bipush (v := nI 119) (pc := 28) dX6_readWall_28 (by decide) ?_
      refine go_cVi (pc := 30) dX6_readWall_30 (ev_take ht0 hat0 haN0 (by decide)) lX6_41 YX6_take VX6_take rfl rfl rfl (by decide) rfl (Nat.le_of_ble_eq_true rfl) (fun s1 e1 => ?_)
      refine go_if_neB (tgt := 38) (pc := 33) dX6_readWall_33 (by decide) (fun c_33 => ?_) (fun c_33 => ?_)
      · obtain ⟨a1, v1, hr1⟩ := py_ok_t c_33
        have hat10 : s1 5 2 = nI a1 := by have z := e1.1; rw [hr1] at z; exact z
        have haN1 : a1 ≤ N := (py_chr_v hr1).2.1
        have hs10 : py_fr [14, 15, 16] [(5, 2), (5, 3), (5, 4)] σ s1 := hs0.tr e1.2 (by decide) (by decide)
        have hs1 := hs10
        have hat1 := hat10
        have ht1 := py_tc_fr hs1 (by decide) (by decide) (by decide) (by decide) ht
        have hd1 := py_hd_tp e1.2 hd0
        refine go_aload_n (pc := 38) dX6_readWall_38 rfl ?_
        refine go_iconst (v := nI 0) (pc := 39) dX6_readWall_39 (by decide) ?_
        refine go_bipush (v := nI 9) (pc := 40) dX6_readWall_40 (by decide) ?_
        refine go_cVi (pc := 42) dX6_readWall_42 (ev_takeNum (lo9 := 0) (hi8 := 9) ht1 hat1 haN1 (nI_toInt (by decide)) (nI_toInt (by decide))) lX6_45 YX6_takeNumber VX6_takeNumber rfl rfl rfl (by decide) rfl (Nat.le_of_ble_eq_true rfl) (fun s2 e2 => ?_)
        refine go_istore_n (pc := 45) dX6_readWall_45 (by decide) rfl ?_
        refine go_iload_n (pc := 46) dX6_readWall_46 rfl ?_
        refine go_if_ltJ (tgt := 59) (pc := 47) dX6_readWall_47 (by decide) (fun c_47 => ?_) (fun c_47 => ?_)
        · obtain ⟨p9, k9, hr2⟩ := py_rv_n c_47 (fun a v q => by have z := py_num_v hN q; omega)
          have hR : py_pwall B N a0 H = .inl (p9, k9) := by simp only [py_pwall, if_neg hcond, hr1, hr2, py_bi]
          have hp9 : s2 5 4 = nI p9 ∧ s2 5 3 = nI k9 := by have z := e2.1; rw [hr2] at z; exact z
          have hs20 : py_fr [14, 15, 16] [(5, 2), (5, 3), (5, 4)] σ s2 := hs1.tr e2.2 (by decide) (by decide)
          refine go_iconst (v := nI 0) (pc := 59) dX6_readWall_59 (by decide) ?_
          exact go_retI (pc := 60) dX6_readWall_60 (by rw [hR]; rfl) ⟨by rw [hR]; exact hp9, (fun a H q => by rw [hR] at q; cases q), hs20⟩
        · obtain ⟨a2, v2, hr2⟩ := py_rv_p c_47
          have hat20 : s2 5 2 = nI a2 := by have z := e2.1; rw [hr2] at z; exact z
          have hnv2 := py_num_v hN hr2
          have haN2 : a2 ≤ N := hnv2.2.2.2.1
          have hs20 : py_fr [14, 15, 16] [(5, 2), (5, 3), (5, 4)] σ s2 := hs1.tr e2.2 (by decide) (by decide)
          have hv2 : py_rv (py_num B N a1 0 (9)) = nI v2 := by rw [hr2]; rfl
          rw [hv2]
          have hs2 := hs20
          have hat2 := hat20
          have ht2 := py_tc_fr hs2 (by decide) (by decide) (by decide) (by decide) ht
          have hd2 := py_hd_tp e2.2 hd1
          refine go_aload_n (pc := 50) dX6_readWall_50 rfl ?_
          refine go_bipush (v := nI 44) (pc := 51) dX6_readWall_51 (by decide) ?_
          refine go_cVi (pc := 53) dX6_readWall_53 (ev_take ht2 hat2 haN2 (by decide)) lX6_41 YX6_take VX6_take rfl rfl rfl (by decide) rfl (Nat.le_of_ble_eq_true rfl) (fun s3 e3 => ?_)
          refine go_if_neB (tgt := 61) (pc := 56) dX6_readWall_56 (by decide) (fun c_56 => ?_) (fun c_56 => ?_)
          · obtain ⟨a3, v3, hr3⟩ := py_ok_t c_56
            have hat30 : s3 5 2 = nI a3 := by have z := e3.1; rw [hr3] at z; exact z
            have haN3 : a3 ≤ N := (py_chr_v hr3).2.1
            have hs30 : py_fr [14, 15, 16] [(5, 2), (5, 3), (5, 4)] σ s3 := hs2.tr e3.2 (by decide) (by decide)
            have hs3 := hs30
            have hat3 := hat30
            have ht3 := py_tc_fr hs3 (by decide) (by decide) (by decide) (by decide) ht
            have hd3 := py_hd_tp e3.2 hd2
            refine go_aload_n (pc := 61) dX6_readWall_61 rfl ?_
            refine go_iconst (v := nI 0) (pc := 62) dX6_readWall_62 (by decide) ?_
            refine go_bipush (v := nI 9) (pc := 63) dX6_readWall_63 (by decide) ?_
            refine go_cVi (pc := 65) dX6_readWall_65 (ev_takeNum (lo9 := 0) (hi8 := 9) ht3 hat3 haN3 (nI_toInt (by decide)) (nI_toInt (by decide))) lX6_45 YX6_takeNumber VX6_takeNumber rfl rfl rfl (by decide) rfl (Nat.le_of_ble_eq_true rfl) (fun s4 e4 => ?_)
            refine go_istore_n (pc := 68) dX6_readWall_68 (by decide) rfl ?_
            refine go_iload_n (pc := 69) dX6_readWall_69 rfl ?_
            refine go_if_ltJ (tgt := 82) (pc := 70) dX6_readWall_70 (by decide) (fun c_70 => ?_) (fun c_70 => ?_)
            · obtain ⟨p9, k9, hr4⟩ := py_rv_n c_70 (fun a v q => by have z := py_num_v hN q; omega)
              have hR : py_pwall B N a0 H = .inl (p9, k9) := by simp only [py_pwall, if_neg hcond, hr1, hr2, hr3, hr4, py_bi]
              have hp9 : s4 5 4 = nI p9 ∧ s4 5 3 = nI k9 := by have z := e4.1; rw [hr4] at z; exact z
              have hs40 : py_fr [14, 15, 16] [(5, 2), (5, 3), (5, 4)] σ s4 := hs3.tr e4.2 (by decide) (by decide)
              refine go_iconst (v := nI 0) (pc := 82) dX6_readWall_82 (by decide) ?_
              exact go_retI (pc := 83) dX6_readWall_83 (by rw [hR]; rfl) ⟨by rw [hR]; exact hp9, (fun a H q => by rw [hR] at q; cases q), hs40⟩
            · obtain ⟨a4, v4, hr4⟩ := py_rv_p c_70
              have hat40 : s4 5 2 = nI a4 := by have z := e4.1; rw [hr4] at z; exact z
              have hnv4 := py_num_v hN hr4
              have haN4 : a4 ≤ N := hnv4.2.2.2.1
              have hs40 : py_fr [14, 15, 16] [(5, 2), (5, 3), (5, 4)] σ s4 := hs3.tr e4.2 (by decide) (by decide)
              have hv4 : py_rv (py_num B N a3 0 (9)) = nI v4 := by rw [hr4]; rfl
              rw [hv4]
              have hs4 := hs40
              have hat4 := hat40
              have ht4 := py_tc_fr hs4 (by decide) (by decide) (by decide) (by decide) ht
              have hd4 := py_hd_tp e4.2 hd3
              refine go_aload_n (pc := 73) dX6_readWall_73 rfl ?_
              refine go_bipush (v := nI 59) (pc := 74) dX6_readWall_74 (by decide) ?_
              refine go_cVi (pc := 76) dX6_readWall_76 (ev_take ht4 hat4 haN4 (by decide)) lX6_41 YX6_take VX6_take rfl rfl rfl (by decide) rfl (Nat.le_of_ble_eq_true rfl) (fun s5 e5 => ?_)
              refine go_if_neB (tgt := 84) (pc := 79) dX6_readWall_79 (by decide) (fun c_79 => ?_) (fun c_79 => ?_)
              · obtain ⟨a5, v5, hr5⟩ := py_ok_t c_79
                have hat50 : s5 5 2 = nI a5 := by have z := e5.1; rw [hr5] at z; exact z
                have haN5 : a5 ≤ N := (py_chr_v hr5).2.1
                have hs50 : py_fr [14, 15, 16] [(5, 2), (5, 3), (5, 4)] σ s5 := hs4.tr e5.2 (by decide) (by decide)
                have hs5 := hs50
                have hat5 := hat50
                have ht5 := py_tc_fr hs5 (by decide) (by decide) (by decide) (by decide) ht
                have hd5 := py_hd_tp e5.2 hd4
                refine go_aload_n (pc := 84) dX6_readWall_84 rfl ?_
                refine go_iload_n (pc := 85) dX6_readWall_85 rfl ?_
                refine go_iload_n (pc := 86) dX6_readWall_86 rfl ?_
                have z1 := py_chr_v hr1
                have h3lt : H 3 < 4 := by
                  apply Nat.lt_of_not_le
                  intro z
                  exact hcond ⟨⟨by omega, z1.2.2.2⟩, z⟩
                refine go_cVv (pc := 87) dX6_readWall_87 (ev_addWall hd5 h3lt) lX6_69 YX2_addWall VX2_addWall rfl rfl rfl (by decide) rfl (Nat.le_of_ble_eq_true rfl) (fun s6 e6 => ?_)
                refine go_iconst (v := nI 1) (pc := 90) dX6_readWall_90 (by decide) ?_
                have hR : py_pwall B N a0 H = .inr (a5, py_aw H v2 v4) := by simp only [py_pwall, if_neg hcond, hr1, hr2, hr3, hr4, hr5, py_bi]
                refine go_retI (pc := 91) dX6_readWall_91 (by rw [hR]; rfl) ⟨by rw [hR]; show s6 5 2 = nI a5; rw [e6.2 5 2 (by decide) (by decide)]; exact hat5, ?_, hs5.tr e6.2 (by decide) (by decide)⟩
                intro a9 H9 q
                rw [hR] at q
                injection q with q
                injection q with q1 q2
                subst q2
                exact e6.1
              · obtain ⟨p9, k9, hr5⟩ := py_ok_f c_79
                have hR : py_pwall B N a0 H = .inl (p9, k9) := by simp only [py_pwall, if_neg hcond, hr1, hr2, hr3, hr4, hr5, py_bi]
                have hp9 : s5 5 4 = nI p9 ∧ s5 5 3 = nI k9 := by have z := e5.1; rw [hr5] at z; exact z
                have hs50 : py_fr [14, 15, 16] [(5, 2), (5, 3), (5, 4)] σ s5 := hs4.tr e5.2 (by decide) (by decide)
                refine go_iconst (v := nI 0) (pc := 82) dX6_readWall_82 (by decide) ?_
                exact go_retI (pc := 83) dX6_readWall_83 (by rw [hR]; rfl) ⟨by rw [hR]; exact hp9, (fun a H q => by rw [hR] at q; cases q), hs50⟩
          · obtain ⟨p9, k9, hr3⟩ := py_ok_f c_56
            have hR : py_pwall B N a0 H = .inl (p9, k9) := by simp only [py_pwall, if_neg hcond, hr1, hr2, hr3, py_bi]
            have hp9 : s3 5 4 = nI p9 ∧ s3 5 3 = nI k9 := by have z := e3.1; rw [hr3] at z; exact z
            have hs30 : py_fr [14, 15, 16] [(5, 2), (5, 3), (5, 4)] σ s3 := hs2.tr e3.2 (by decide) (by decide)
            refine go_iconst (v := nI 0) (pc := 59) dX6_readWall_59 (by decide) ?_
            exact go_retI (pc := 60) dX6_readWall_60 (by rw [hR]; rfl) ⟨by rw [hR]; exact hp9, (fun a H q => by rw [hR] at q; cases q), hs30⟩
      · obtain ⟨p9, k9, hr1⟩ := py_ok_f c_33
        have hR : py_pwall B N a0 H = .inl (p9, k9) := by simp only [py_pwall, if_neg hcond, hr1, py_bi]
        have hp9 : s1 5 4 = nI p9 ∧ s1 5 3 = nI k9 := by have z := e1.1; rw [hr1] at z; exact z
        have hs10 : py_fr [14, 15, 16] [(5, 2), (5, 3), (5, 4)] σ s1 := hs0.tr e1.2 (by decide) (by decide)
        refine go_iconst (v := nI 0) (pc := 36) dX6_readWall_36 (by decide) ?_
        exact go_retI (pc := 37) dX6_readWall_37 (by rw [hR]; rfl) ⟨by rw [hR]; exact hp9, (fun a H q => by rw [hR] at q; cases q), hs10⟩
    · refine go_aload_n (pc := 17) dX6_readWall_17 rfl ?_
      refine go_aload_n (pc := 18) dX6_readWall_18 rfl ?_
      refine go_getI (x := (nI a0)) (pc := 19) dX6_readWall_19 fX6_19 rfl rfl hat0 ?_
      refine go_iconst (v := nI 3) (pc := 22) dX6_readWall_22 (by decide) ?_
      refine go_cVi (pc := 23) dX6_readWall_23 ev_failAt lX6_65 YX6_failAt VX6_failAt rfl rfl rfl (by decide) rfl (Nat.le_of_ble_eq_true rfl) (fun s8 e8 => ?_)
      subst e8
      have hR : py_pwall B N a0 H = .inl (a0, 3) := by unfold py_pwall; rw [if_pos ⟨(py_nx_t (by decide) hB).mp c_6, c_14⟩]
      exact go_retI (pc := 26) dX6_readWall_26 (by rw [hR]; rfl) ⟨by rw [hR]; exact ⟨by rw [py_up_j _ _ _ (by decide), py_up_s], py_up_s _ _ _ _⟩, (fun a H q => by rw [hR] at q; cases q), (hs0.ut (by decide) _).ut (by decide) _⟩
set_option maxHeartbeats 4000000 in
set_option maxRecDepth 100000 in
theorem ev_readPicture {X : py_X} {σ : py_H} {B : Nat → Nat} {N a : Nat} (ht : py_tc σ B N) (ha : σ 5 2 = nI a) (haN : a ≤ N) {H : Nat → Nat} (hc : py_hd σ 14 H) (h34 : H 3 ≤ 4) (h31 : 1 ≤ H 3) (h12 : H 12 ≤ 5) (h0 : H 0 ≤ 5) (hpw : ∀ p, p < H 12 → H (16 + 4 * p) < 4) : py_Ev X 4 yX6_readPicture cX6_readPicture 6 (some .boolean) [.ref 5, .ref 14] σ (py_vs (some (.int (py_b (py_isok (py_ppic B N a H) = true)))) (fun s => py_ps s (py_ppic B N a H) ∧ (∀ a9 H9, py_ppic B N a H = .inr (a9, H9) → py_hd s 14 H9) ∧ py_fr [14, 17, 18, 19, 20] [(5, 2), (5, 3), (5, 4)] σ s)) := by
  have hN := ht.2.1
  have hB : ∀ i, i < N → B i ≤ 255 := fun i hi => (ht.2.2 i hi).2
  refine py_ofZ (own := RX6) YX6_readPicture.2.2.2.2 rfl rfl (Nat.le_of_ble_eq_true rfl) py_b_ok ?_
  show py_Go X RX6 cX6_readPicture 6 4 0 [some (.ref 5), some (.ref 14), none, none, none, none] [] σ (py_vs (some (.int (py_b (py_isok (py_ppic B N a H) = true)))) (fun s => py_ps s (py_ppic B N a H) ∧ (∀ a9 H9, py_ppic B N a H = .inr (a9, H9) → py_hd s 14 H9) ∧ py_fr [14, 17, 18, 19, 20] [(5, 2), (5, 3), (5, 4)] σ s))
  refine go_aload_n (pc := 0) dX6_readPicture_0 rfl ?_
  refine go_aload_n (pc := 1) dX6_readPicture_1 rfl ?_
  refine go_cV (pc := 2) dX6_readPicture_2 (ev_next ht ha haN) lX6_55 YX6_next VX6_next rfl rfl rfl (by decide) rfl (Nat.le_of_ble_eq_true rfl) ?_
  refine go_cV (pc := 5) dX6_readPicture_5 ev_kindOfSort lX6_76 YX6_kindOfSort VX6_kindOfSort rfl rfl rfl (by decide) rfl (Nat.le_of_ble_eq_true rfl) ?_
  refine go_top (y := nI (py_kd (py_at B N a))) (by rw [py_kdI_at hB]) ?_
  have hkl := py_kd_le (py_at B N a)
  refine go_istore_n (pc := 8) dX6_readPicture_8 (by decide) rfl ?_
  refine go_iload_n (pc := 9) dX6_readPicture_9 rfl ?_
  refine go_if_neN (tgt := 23) (pc := 10) dX6_readPicture_10 (by omega) (by decide) (fun c_10 => ?_) (fun c_10 => ?_)
  · have hk0 : ¬ py_kd (py_at B N a) = 0 := by omega
    have haN2 := py_kd_at c_10
    refine go_aload_n (pc := 23) dX6_readPicture_23 rfl ?_
    refine go_getI (x := (nI (H 12))) (pc := 24) dX6_readPicture_24 fX6_80 rfl rfl hc.2.2.2.2.1 ?_
    refine go_iconst (v := nI 5) (pc := 27) dX6_readPicture_27 (by decide) ?_
    refine go_icmp_ltN (tgt := 41) (pc := 28) dX6_readPicture_28 (by omega) (by omega) (by decide) (fun c_28 => ?_) (fun c_28 => ?_)
    · have hp5 : ¬ 5 ≤ H 12 := by omega
      refine go_aload_n (pc := 41) dX6_readPicture_41 rfl ?_
      refine go_dup (pc := 42) dX6_readPicture_42 rfl ?_
      refine go_getI (x := (nI a)) (pc := 43) dX6_readPicture_43 fX6_19 rfl rfl ha ?_
      refine go_iconst (v := nI 1) (pc := 46) dX6_readPicture_46 (by decide) ?_
      refine go_iaddN (pc := 47) dX6_readPicture_47  ?_
      refine go_putI (pc := 48) dX6_readPicture_48 fX6_19 rfl rfl ?_
      obtain ⟨a0, ea0⟩ : ∃ a0, a0 = a + 1 := ⟨_, rfl⟩
      rw [← ea0]
      obtain ⟨s0, es0⟩ : ∃ s0, s0 = py_up σ 5 2 (nI a0) := ⟨_, rfl⟩
      rw [← es0]
      have hs0 : py_fr [14, 17, 18, 19, 20] [(5, 2), (5, 3), (5, 4)] σ s0 := by rw [es0]; exact (py_fr.rf _ _ σ).ut (by decide) _
      have hat0 : s0 5 2 = nI a0 := by rw [es0]; exact py_up_s _ _ _ _
      have haN0 : a0 ≤ N := by omega
      have ht0 := py_tc_fr hs0 (by decide) (by decide) (by decide) (by decide) ht
      have hd0 : py_hd s0 14 H := py_hd_fr (S := []) (T := [(5, 2)]) (by rw [es0]; exact (py_fr.rf _ _ σ).ut (by decide) _) (by decide) (by decide) hc
      refine go_aload_n (pc := 51) dX6_readPicture_51 rfl ?_
      refine go_iconst (v := nI 1) (pc := 52) dX6_readPicture_52 (by decide) ?_
      refine go_bipush (v := nI 9) (pc := 53) dX6_readPicture_53 (by decide) ?_
      refine go_cVi (pc := 55) dX6_readPicture_55 (ev_takeNum (lo9 := 1) (hi8 := 9) ht0 hat0 haN0 (nI_toInt (by decide)) (nI_toInt (by decide))) lX6_45 YX6_takeNumber VX6_takeNumber rfl rfl rfl (by decide) rfl (Nat.le_of_ble_eq_true rfl) (fun s1 e1 => ?_)
      refine go_istore_n (pc := 58) dX6_readPicture_58 (by decide) rfl ?_
      refine go_iload_n (pc := 59) dX6_readPicture_59 rfl ?_
      refine go_if_ltJ (tgt := 72) (pc := 60) dX6_readPicture_60 (by decide) (fun c_60 => ?_) (fun c_60 => ?_)
      · obtain ⟨p9, k9, hr1⟩ := py_rv_n c_60 (fun a v q => by have z := py_num_v hN q; omega)
        have hR : py_ppic B N a H = .inl (p9, k9) := by simp only [py_ppic, if_neg hk0, if_neg hp5, ← ea0, hr1, py_bi]
        have hp9 : s1 5 4 = nI p9 ∧ s1 5 3 = nI k9 := by have z := e1.1; rw [hr1] at z; exact z
        have hs10 : py_fr [14, 17, 18, 19, 20] [(5, 2), (5, 3), (5, 4)] σ s1 := hs0.tr e1.2 (by decide) (by decide)
        refine go_iconst (v := nI 0) (pc := 72) dX6_readPicture_72 (by decide) ?_
        exact go_retI (pc := 73) dX6_readPicture_73 (by rw [hR]; rfl) ⟨by rw [hR]; exact hp9, (fun a H q => by rw [hR] at q; cases q), hs10⟩
      · obtain ⟨a1, v1, hr1⟩ := py_rv_p c_60
        have hat10 : s1 5 2 = nI a1 := by have z := e1.1; rw [hr1] at z; exact z
        have hnv1 := py_num_v hN hr1
        have haN1 : a1 ≤ N := hnv1.2.2.2.1
        have hs10 : py_fr [14, 17, 18, 19, 20] [(5, 2), (5, 3), (5, 4)] σ s1 := hs0.tr e1.2 (by decide) (by decide)
        have hv1 : py_rv (py_num B N a0 1 (9)) = nI v1 := by rw [hr1]; rfl
        rw [hv1]
        have hs1 := hs10
        have hat1 := hat10
        have ht1 := py_tc_fr hs1 (by decide) (by decide) (by decide) (by decide) ht
        have hd1 := py_hd_tp e1.2 hd0
        refine go_aload_n (pc := 63) dX6_readPicture_63 rfl ?_
        refine go_bipush (v := nI 44) (pc := 64) dX6_readPicture_64 (by decide) ?_
        refine go_cVi (pc := 66) dX6_readPicture_66 (ev_take ht1 hat1 haN1 (by decide)) lX6_41 YX6_take VX6_take rfl rfl rfl (by decide) rfl (Nat.le_of_ble_eq_true rfl) (fun s2 e2 => ?_)
        refine go_if_neB (tgt := 74) (pc := 69) dX6_readPicture_69 (by decide) (fun c_69 => ?_) (fun c_69 => ?_)
        · obtain ⟨a2, v2, hr2⟩ := py_ok_t c_69
          have hat20 : s2 5 2 = nI a2 := by have z := e2.1; rw [hr2] at z; exact z
          have haN2 : a2 ≤ N := (py_chr_v hr2).2.1
          have hs20 : py_fr [14, 17, 18, 19, 20] [(5, 2), (5, 3), (5, 4)] σ s2 := hs1.tr e2.2 (by decide) (by decide)
          have hs2 := hs20
          have hat2 := hat20
          have ht2 := py_tc_fr hs2 (by decide) (by decide) (by decide) (by decide) ht
          have hd2 := py_hd_tp e2.2 hd1
          refine go_aload_n (pc := 74) dX6_readPicture_74 rfl ?_
          refine go_iconst (v := nI 1) (pc := 75) dX6_readPicture_75 (by decide) ?_
          refine go_bipush (v := nI 60) (pc := 76) dX6_readPicture_76 (by decide) ?_
          refine go_cVi (pc := 78) dX6_readPicture_78 (ev_takeNum (lo9 := 1) (hi8 := 60) ht2 hat2 haN2 (nI_toInt (by decide)) (nI_toInt (by decide))) lX6_45 YX6_takeNumber VX6_takeNumber rfl rfl rfl (by decide) rfl (Nat.le_of_ble_eq_true rfl) (fun s3 e3 => ?_)
          refine go_istore (pc := 81) dX6_readPicture_81 (by decide) rfl ?_
          refine go_iload (pc := 83) dX6_readPicture_83 rfl ?_
          refine go_if_ltJ (tgt := 97) (pc := 85) dX6_readPicture_85 (by decide) (fun c_85 => ?_) (fun c_85 => ?_)
          · obtain ⟨p9, k9, hr3⟩ := py_rv_n c_85 (fun a v q => by have z := py_num_v hN q; omega)
            have hR : py_ppic B N a H = .inl (p9, k9) := by simp only [py_ppic, if_neg hk0, if_neg hp5, ← ea0, hr1, hr2, hr3, py_bi]
            have hp9 : s3 5 4 = nI p9 ∧ s3 5 3 = nI k9 := by have z := e3.1; rw [hr3] at z; exact z
            have hs30 : py_fr [14, 17, 18, 19, 20] [(5, 2), (5, 3), (5, 4)] σ s3 := hs2.tr e3.2 (by decide) (by decide)
            refine go_iconst (v := nI 0) (pc := 97) dX6_readPicture_97 (by decide) ?_
            exact go_retI (pc := 98) dX6_readPicture_98 (by rw [hR]; rfl) ⟨by rw [hR]; exact hp9, (fun a H q => by rw [hR] at q; cases q), hs30⟩
          · obtain ⟨a3, v3, hr3⟩ := py_rv_p c_85
            have hat30 : s3 5 2 = nI a3 := by have z := e3.1; rw [hr3] at z; exact z
            have hnv3 := py_num_v hN hr3
            have haN3 : a3 ≤ N := hnv3.2.2.2.1
            have hs30 : py_fr [14, 17, 18, 19, 20] [(5, 2), (5, 3), (5, 4)] σ s3 := hs2.tr e3.2 (by decide) (by decide)
            have hv3 : py_rv (py_num B N a2 1 (60)) = nI v3 := by rw [hr3]; rfl
            rw [hv3]
            have hs3 := hs30
            have hat3 := hat30
            have ht3 := py_tc_fr hs3 (by decide) (by decide) (by decide) (by decide) ht
            have hd3 := py_hd_tp e3.2 hd2
            refine go_aload_n (pc := 88) dX6_readPicture_88 rfl ?_
            refine go_bipush (v := nI 44) (pc := 89) dX6_readPicture_89 (by decide) ?_
            refine go_cVi (pc := 91) dX6_readPicture_91 (ev_take ht3 hat3 haN3 (by decide)) lX6_41 YX6_take VX6_take rfl rfl rfl (by decide) rfl (Nat.le_of_ble_eq_true rfl) (fun s4 e4 => ?_)
            refine go_if_neB (tgt := 99) (pc := 94) dX6_readPicture_94 (by decide) (fun c_94 => ?_) (fun c_94 => ?_)
            · obtain ⟨a4, v4, hr4⟩ := py_ok_t c_94
              have hat40 : s4 5 2 = nI a4 := by have z := e4.1; rw [hr4] at z; exact z
              have haN4 : a4 ≤ N := (py_chr_v hr4).2.1
              have hs40 : py_fr [14, 17, 18, 19, 20] [(5, 2), (5, 3), (5, 4)] σ s4 := hs3.tr e4.2 (by decide) (by decide)
              have hs4 := hs40
              have hat4 := hat40
              have ht4 := py_tc_fr hs4 (by decide) (by decide) (by decide) (by decide) ht
              have hd4 := py_hd_tp e4.2 hd3
              refine go_aload_n (pc := 99) dX6_readPicture_99 rfl ?_
              refine go_aload_n (pc := 100) dX6_readPicture_100 rfl ?_
              refine go_cVi (pc := 101) dX6_readPicture_101 (ev_takeWall2 ht4 hat4 haN4 hd4 h34 h31 (by omega) h0 hpw) lX6_83 YX6_takeWall VX6_takeWall rfl rfl rfl (by decide) rfl (Nat.le_of_ble_eq_true rfl) (fun s5 e5 => ?_)
              refine go_istore (pc := 104) dX6_readPicture_104 (by decide) rfl ?_
              refine go_iload (pc := 106) dX6_readPicture_106 rfl ?_
              refine go_if_ltJ (tgt := 120) (pc := 108) dX6_readPicture_108 (by decide) (fun c_108 => ?_) (fun c_108 => ?_)
              · obtain ⟨p9, k9, hr5⟩ := py_rv_n c_108 (fun a v q => by have z := py_pw_v hN q; omega)
                have hR : py_ppic B N a H = .inl (p9, k9) := by simp only [py_ppic, if_neg hk0, if_neg hp5, ← ea0, hr1, hr2, hr3, hr4, hr5, py_bi]
                have hp9 : s5 5 4 = nI p9 ∧ s5 5 3 = nI k9 := by have z := e5.1; rw [hr5] at z; exact z
                have hs50 : py_fr [14, 17, 18, 19, 20] [(5, 2), (5, 3), (5, 4)] σ s5 := hs4.tr e5.2 (by decide) (by decide)
                refine go_iconst (v := nI 0) (pc := 120) dX6_readPicture_120 (by decide) ?_
                exact go_retI (pc := 121) dX6_readPicture_121 (by rw [hR]; rfl) ⟨by rw [hR]; exact hp9, (fun a H q => by rw [hR] at q; cases q), hs50⟩
              · obtain ⟨a5, v5, hr5⟩ := py_rv_p c_108
                have hat50 : s5 5 2 = nI a5 := by have z := e5.1; rw [hr5] at z; exact z
                have hnv5 := py_pw_v hN hr5
                have haN5 : a5 ≤ N := hnv5.2.1
                have hs50 : py_fr [14, 17, 18, 19, 20] [(5, 2), (5, 3), (5, 4)] σ s5 := hs4.tr e5.2 (by decide) (by decide)
                have hv5 : py_rv (py_pw B N a4 H) = nI v5 := by rw [hr5]; rfl
                rw [hv5]
                have hs5 := hs50
                have hat5 := hat50
                have ht5 := py_tc_fr hs5 (by decide) (by decide) (by decide) (by decide) ht
                have hd5 := py_hd_tp e5.2 hd4
                refine go_aload_n (pc := 111) dX6_readPicture_111 rfl ?_
                refine go_bipush (v := nI 59) (pc := 112) dX6_readPicture_112 (by decide) ?_
                refine go_cVi (pc := 114) dX6_readPicture_114 (ev_take ht5 hat5 haN5 (by decide)) lX6_41 YX6_take VX6_take rfl rfl rfl (by decide) rfl (Nat.le_of_ble_eq_true rfl) (fun s6 e6 => ?_)
                refine go_if_neB (tgt := 122) (pc := 117) dX6_readPicture_117 (by decide) (fun c_117 => ?_) (fun c_117 => ?_)
                · obtain ⟨a6, v6, hr6⟩ := py_ok_t c_117
                  have hat60 : s6 5 2 = nI a6 := by have z := e6.1; rw [hr6] at z; exact z
                  have haN6 : a6 ≤ N := (py_chr_v hr6).2.1
                  have hs60 : py_fr [14, 17, 18, 19, 20] [(5, 2), (5, 3), (5, 4)] σ s6 := hs5.tr e6.2 (by decide) (by decide)
                  have hs6 := hs60
                  have hat6 := hat60
                  have ht6 := py_tc_fr hs6 (by decide) (by decide) (by decide) (by decide) ht
                  have hd6 := py_hd_tp e6.2 hd5
                  refine go_aload_n (pc := 122) dX6_readPicture_122 rfl ?_
                  refine go_iload_n (pc := 123) dX6_readPicture_123 rfl ?_
                  refine go_iload_n (pc := 124) dX6_readPicture_124 rfl ?_
                  refine go_iload (pc := 125) dX6_readPicture_125 rfl ?_
                  refine go_iload (pc := 127) dX6_readPicture_127 rfl ?_
                  refine go_cVv (pc := 129) dX6_readPicture_129 (ev_addPicture hd6 h34 (by omega)) lX6_87 YX2_addPicture VX2_addPicture rfl rfl rfl (by decide) rfl (Nat.le_of_ble_eq_true rfl) (fun s7 e7 => ?_)
                  refine go_iconst (v := nI 1) (pc := 132) dX6_readPicture_132 (by decide) ?_
                  have hR : py_ppic B N a H = .inr (a6, py_ap H (py_kd (py_at B N a)) v1 v3 v5) := by simp only [py_ppic, if_neg hk0, if_neg hp5, ← ea0, hr1, hr2, hr3, hr4, hr5, hr6, py_bi]
                  refine go_retI (pc := 133) dX6_readPicture_133 (by rw [hR]; rfl) ⟨by rw [hR]; show s7 5 2 = nI a6; rw [e7.2 5 2 (by decide) (by decide)]; exact hat6, ?_, hs6.tr e7.2 (by decide) (by decide)⟩
                  intro a9 H9 q
                  rw [hR] at q
                  injection q with q
                  injection q with q1 q2
                  subst q2
                  exact e7.1
                · obtain ⟨p9, k9, hr6⟩ := py_ok_f c_117
                  have hR : py_ppic B N a H = .inl (p9, k9) := by simp only [py_ppic, if_neg hk0, if_neg hp5, ← ea0, hr1, hr2, hr3, hr4, hr5, hr6, py_bi]
                  have hp9 : s6 5 4 = nI p9 ∧ s6 5 3 = nI k9 := by have z := e6.1; rw [hr6] at z; exact z
                  have hs60 : py_fr [14, 17, 18, 19, 20] [(5, 2), (5, 3), (5, 4)] σ s6 := hs5.tr e6.2 (by decide) (by decide)
                  refine go_iconst (v := nI 0) (pc := 120) dX6_readPicture_120 (by decide) ?_
                  exact go_retI (pc := 121) dX6_readPicture_121 (by rw [hR]; rfl) ⟨by rw [hR]; exact hp9, (fun a H q => by rw [hR] at q; cases q), hs60⟩
            · obtain ⟨p9, k9, hr4⟩ := py_ok_f c_94
              have hR : py_ppic B N a H = .inl (p9, k9) := by simp only [py_ppic, if_neg hk0, if_neg hp5, ← ea0, hr1, hr2, hr3, hr4, py_bi]
              have hp9 : s4 5 4 = nI p9 ∧ s4 5 3 = nI k9 := by have z := e4.1; rw [hr4] at z; exact z
              have hs40 : py_fr [14, 17, 18, 19, 20] [(5, 2), (5, 3), (5, 4)] σ s4 := hs3.tr e4.2 (by decide) (by decide)
              refine go_iconst (v := nI 0) (pc := 97) dX6_readPicture_97 (by decide) ?_
              exact go_retI (pc := 98) dX6_readPicture_98 (by rw [hR]; rfl) ⟨by rw [hR]; exact hp9, (fun a H q => by rw [hR] at q; cases q), hs40⟩
        · obtain ⟨p9, k9, hr2⟩ := py_ok_f c_69
          have hR : py_ppic B N a H = .inl (p9, k9) := by simp only [py_ppic, if_neg hk0, if_neg hp5, ← ea0, hr1, hr2, py_bi]
          have hp9 : s2 5 4 = nI p9 ∧ s2 5 3 = nI k9 := by have z := e2.1; rw [hr2] at z; exact z
          have hs20 : py_fr [14, 17, 18, 19, 20] [(5, 2), (5, 3), (5, 4)] σ s2 := hs1.tr e2.2 (by decide) (by decide)
          refine go_iconst (v := nI 0) (pc := 72) dX6_readPicture_72 (by decide) ?_
          exact go_retI (pc := 73) dX6_readPicture_73 (by rw [hR]; rfl) ⟨by rw [hR]; exact hp9, (fun a H q => by rw [hR] at q; cases q), hs20⟩
    · refine go_aload_n (pc := 31) dX6_readPicture_31 rfl ?_
      refine go_aload_n (pc := 32) dX6_readPicture_32 rfl ?_
      refine go_getI (x := (nI a)) (pc := 33) dX6_readPicture_33 fX6_19 rfl rfl ha ?_
      refine go_iconst (v := nI 3) (pc := 36) dX6_readPicture_36 (by decide) ?_
      refine go_cVi (pc := 37) dX6_readPicture_37 ev_failAt lX6_65 YX6_failAt VX6_failAt rfl rfl rfl (by decide) rfl (Nat.le_of_ble_eq_true rfl) (fun s8 e8 => ?_)
      subst e8
      have hR : py_ppic B N a H = .inl (a, 3) := by unfold py_ppic; rw [if_neg hk0, if_pos c_28]
      exact go_retI (pc := 40) dX6_readPicture_40 (by rw [hR]; rfl) ⟨by rw [hR]; exact ⟨by rw [py_up_j _ _ _ (by decide), py_up_s], py_up_s _ _ _ _⟩, (fun a H q => by rw [hR] at q; cases q), ((py_fr.rf _ _ σ).ut (by decide) _).ut (by decide) _⟩
  · refine go_aload_n (pc := 13) dX6_readPicture_13 rfl ?_
    refine go_aload_n (pc := 14) dX6_readPicture_14 rfl ?_
    refine go_getI (x := (nI a)) (pc := 15) dX6_readPicture_15 fX6_19 rfl rfl ha ?_
    refine go_iconst (v := nI 1) (pc := 18) dX6_readPicture_18 (by decide) ?_
    refine go_cVi (pc := 19) dX6_readPicture_19 ev_failAt lX6_65 YX6_failAt VX6_failAt rfl rfl rfl (by decide) rfl (Nat.le_of_ble_eq_true rfl) (fun s8 e8 => ?_)
    subst e8
    have hR : py_ppic B N a H = .inl (a, 1) := by unfold py_ppic; rw [if_pos c_10]
    exact go_retI (pc := 22) dX6_readPicture_22 (by rw [hR]; rfl) ⟨by rw [hR]; exact ⟨by rw [py_up_j _ _ _ (by decide), py_up_s], py_up_s _ _ _ _⟩, (fun a H q => by rw [hR] at q; cases q), ((py_fr.rf _ _ σ).ut (by decide) _).ut (by decide) _⟩
/-- a house that is being read: its bounds so far -/
def py_rd (H : Nat → Nat) : Prop := 1 ≤ H 0 ∧ H 0 ≤ 5 ∧ H 1 ≤ 99 ∧ H 2 = 0 ∧ H 3 ≤ 4 ∧ H 12 ≤ 5 ∧ (∀ w, w < H 3 → H (4 + 2 * w) ≤ 9 ∧ H (5 + 2 * w) ≤ 9) ∧ (∀ p, p < H 12 → 1 ≤ H (13 + 4 * p) ∧ H (13 + 4 * p) ≤ 5 ∧ 1 ≤ H (14 + 4 * p) ∧ H (14 + 4 * p) ≤ 9 ∧ H (15 + 4 * p) ≤ 60 ∧ H (16 + 4 * p) < H 3) ∧ (∀ w, w < H 3 → py_cn (fun p => decide (H (16 + 4 * p) = w)) (H 12) ≤ H 0)
theorem py_bi_r {α β : Type} {r : py_Re α} {f : Nat → α → py_Re β} {q : Nat × β} (h : py_bi r f = .inr q) : ∃ a v, r = .inr (a, v) ∧ f a v = .inr q := by
  match r, h with
  | .inr (a, v), h => exact ⟨a, v, rfl, h⟩
theorem py_plaw_v {B : Nat → Nat} {N a : Nat} {H : Nat → Nat} (hN : N ≤ 100) (h : py_plaw B N = .inr (a, H)) : a ≤ N ∧ py_rd H ∧ H 3 = 0 ∧ H 12 = 0 := by
  unfold py_plaw at h
  obtain ⟨a1, v1, h1, h⟩ := py_bi_r h
  obtain ⟨a2, v2, h2, h⟩ := py_bi_r h
  obtain ⟨a3, v3, h3, h⟩ := py_bi_r h
  obtain ⟨a4, v4, h4, h⟩ := py_bi_r h
  obtain ⟨a5, v5, h5, h⟩ := py_bi_r h
  injection h with h
  injection h with e1 e2
  subst e1; subst e2
  have z2 := py_num_v hN h2
  have z4 := py_num_v hN h4
  have z5 := py_chr_v h5
  have l0 : py_law v2 v4 0 = v2 := rfl
  have l1 : py_law v2 v4 1 = v4 := rfl
  refine ⟨z5.2.1, ⟨by rw [l0]; omega, by rw [l0]; omega, by rw [l1]; omega, rfl, Nat.zero_le _, Nat.zero_le _, fun w hw => absurd hw (Nat.not_lt_zero w), fun p hp => absurd hp (Nat.not_lt_zero p), fun w hw => absurd hw (Nat.not_lt_zero w)⟩, rfl, rfl⟩
theorem py_aw_v {H : Nat → Nat} {l d : Nat} (hr : py_rd H) (h3 : H 3 < 4) (h12 : H 12 = 0) (hl : l ≤ 9) (hd : d ≤ 9) : py_rd (py_aw H l d) ∧ py_aw H l d 3 = H 3 + 1 ∧ py_aw H l d 12 = 0 := by
  obtain ⟨r0, r0b, r1, r2, r3, r12, rw1, rp, rr⟩ := hr
  have e : ∀ j, j ≠ 3 → j ≠ 4 + 2 * H 3 → j ≠ 5 + 2 * H 3 → py_aw H l d j = H j := fun j a b c => by unfold py_aw; rw [if_neg a, if_neg b, if_neg c]
  have e3 : py_aw H l d 3 = H 3 + 1 := rfl
  have e12 : py_aw H l d 12 = H 12 := e 12 (by omega) (by omega) (by omega)
  refine ⟨⟨?_, ?_, ?_, ?_, ?_, ?_, fun w hw => ?_, fun p hp => ?_, fun w hw => ?_⟩, e3, by rw [e12]; exact h12⟩
  · rw [e 0 (by omega) (by omega) (by omega)]; exact r0
  · rw [e 0 (by omega) (by omega) (by omega)]; exact r0b
  · rw [e 1 (by omega) (by omega) (by omega)]; exact r1
  · rw [e 2 (by omega) (by omega) (by omega)]; exact r2
  · rw [e3]; omega
  · rw [e12]; exact r12
  · rw [e3] at hw
    by_cases hq : w = H 3
    · subst hq
      have x1 : py_aw H l d (4 + 2 * H 3) = l := by unfold py_aw; rw [if_neg (by omega), if_pos rfl]
      have x2 : py_aw H l d (5 + 2 * H 3) = d := by unfold py_aw; rw [if_neg (by omega), if_neg (by omega), if_pos rfl]
      rw [x1, x2]; exact ⟨hl, hd⟩
    · rw [e _ (by omega) (by omega) (by omega), e _ (by omega) (by omega) (by omega)]
      exact rw1 w (by omega)
  · rw [e12, h12] at hp; omega
  · rw [e12, h12]; exact Nat.zero_le _
theorem py_pwall_v {B : Nat → Nat} {N a0 a : Nat} {H H2 : Nat → Nat} (hN : N ≤ 100) (hr : py_rd H) (h12 : H 12 = 0) (h : py_pwall B N a0 H = .inr (a, H2)) : a ≤ N ∧ py_rd H2 ∧ H2 3 = H 3 + 1 ∧ H2 12 = 0 := by
  unfold py_pwall at h
  by_cases hc : (a0 < N ∧ B a0 = 119) ∧ 4 ≤ H 3
  · rw [if_pos hc] at h; cases h
  rw [if_neg hc] at h
  obtain ⟨a1, v1, h1, h⟩ := py_bi_r h
  obtain ⟨a2, v2, h2, h⟩ := py_bi_r h
  obtain ⟨a3, v3, h3, h⟩ := py_bi_r h
  obtain ⟨a4, v4, h4, h⟩ := py_bi_r h
  obtain ⟨a5, v5, h5, h⟩ := py_bi_r h
  injection h with h
  injection h with e1 e2
  subst e1; subst e2
  have z1 := py_chr_v h1
  have z2 := py_num_v hN h2
  have z4 := py_num_v hN h4
  have z5 := py_chr_v h5
  have h3l : H 3 < 4 := Nat.lt_of_not_le (fun z => hc ⟨⟨by omega, z1.2.2.2⟩, z⟩)
  obtain ⟨y1, y2, y3⟩ := py_aw_v hr h3l h12 z2.2.1 z4.2.1
  exact ⟨z5.2.1, y1, y2, y3⟩
theorem py_ap_v {H : Nat → Nat} {k s c w : Nat} (hr : py_rd H) (h12 : H 12 < 5) (hk : 1 ≤ k ∧ k ≤ 5) (hs : 1 ≤ s ∧ s ≤ 9) (hc : c ≤ 60) (hw : w < H 3) (hroom : py_cn (fun p => decide (H (16 + 4 * p) = w)) (H 12) < H 0) : py_rd (py_ap H k s c w) ∧ py_ap H k s c w 3 = H 3 ∧ py_ap H k s c w 12 = H 12 + 1 := by
  obtain ⟨r0, r0b, r1, r2, r3, r12, rw1, rp, rr⟩ := hr
  have e : ∀ j, j ≠ 12 → j < 13 + 4 * H 12 → py_ap H k s c w j = H j := fun j a b => by unfold py_ap; rw [if_neg a, if_neg (by omega), if_neg (by omega), if_neg (by omega), if_neg (by omega)]
  have e12 : py_ap H k s c w 12 = H 12 + 1 := rfl
  have e3 := e 3 (by omega) (by omega)
  have x1 : py_ap H k s c w (13 + 4 * H 12) = k := by unfold py_ap; rw [if_neg (by omega), if_pos rfl]
  have x2 : py_ap H k s c w (14 + 4 * H 12) = s := by unfold py_ap; rw [if_neg (by omega), if_neg (by omega), if_pos rfl]
  have x3 : py_ap H k s c w (15 + 4 * H 12) = c := by unfold py_ap; rw [if_neg (by omega), if_neg (by omega), if_neg (by omega), if_pos rfl]
  have x4 : py_ap H k s c w (16 + 4 * H 12) = w := by unfold py_ap; rw [if_neg (by omega), if_neg (by omega), if_neg (by omega), if_neg (by omega), if_pos rfl]
  refine ⟨⟨?_, ?_, ?_, ?_, ?_, ?_, fun v hv => ?_, fun p hp => ?_, fun v hv => ?_⟩, e3, e12⟩
  · rw [e 0 (by omega) (by omega)]; exact r0
  · rw [e 0 (by omega) (by omega)]; exact r0b
  · rw [e 1 (by omega) (by omega)]; exact r1
  · rw [e 2 (by omega) (by omega)]; exact r2
  · rw [e3]; exact r3
  · rw [e12]; omega
  · rw [e3] at hv
    rw [e _ (by omega) (by omega), e _ (by omega) (by omega)]
    exact rw1 v hv
  · rw [e12] at hp
    by_cases hq : p = H 12
    · subst hq
      rw [x1, x2, x3, x4, e3]
      exact ⟨hk.1, hk.2, hs.1, hs.2, hc, hw⟩
    · rw [e _ (by omega) (by omega), e _ (by omega) (by omega), e _ (by omega) (by omega), e _ (by omega) (by omega), e3]
      exact rp p (by omega)
  · rw [e3] at hv
    rw [e12, e 0 (by omega) (by omega)]
    show py_cn _ (H 12) + (if decide (py_ap H k s c w (16 + 4 * H 12) = v) then 1 else 0) ≤ H 0
    rw [x4, py_cn_cong (g := fun p => decide (H (16 + 4 * p) = v)) (fun p hp => by rw [e _ (by omega) (by omega)])]
    by_cases hwv : w = v
    · subst hwv
      rw [if_pos (by simp)]
      omega
    · rw [if_neg (by simpa using hwv)]
      exact rr v hv
theorem py_ppic_v {B : Nat → Nat} {N a0 a : Nat} {H H2 : Nat → Nat} (hN : N ≤ 100) (hr : py_rd H) (h3 : 1 ≤ H 3) (h : py_ppic B N a0 H = .inr (a, H2)) : a ≤ N ∧ py_rd H2 ∧ H2 3 = H 3 ∧ H2 12 = H 12 + 1 ∧ H 12 < 5 := by
  unfold py_ppic at h
  by_cases hk : py_kd (py_at B N a0) = 0
  · rw [if_pos hk] at h; cases h
  rw [if_neg hk] at h
  by_cases h5 : 5 ≤ H 12
  · rw [if_pos h5] at h; cases h
  rw [if_neg h5] at h
  obtain ⟨a1, v1, h1, h⟩ := py_bi_r h
  obtain ⟨a2, v2, h2, h⟩ := py_bi_r h
  obtain ⟨a3, v3, h3', h⟩ := py_bi_r h
  obtain ⟨a4, v4, h4, h⟩ := py_bi_r h
  obtain ⟨a5, v5, h5', h⟩ := py_bi_r h
  obtain ⟨a6, v6, h6, h⟩ := py_bi_r h
  injection h with h
  injection h with e1 e2
  subst e1; subst e2
  have z1 := py_num_v hN h1
  have z3 := py_num_v hN h3'
  have z5 := py_pw_v hN h5'
  have z6 := py_chr_v h6
  have hkl := py_kd_le (py_at B N a0)
  obtain ⟨y1, y2, y3⟩ := py_ap_v (k := py_kd (py_at B N a0)) (s := v1) (c := v3) (w := v5) hr (by omega) ⟨by omega, hkl⟩ ⟨z1.1, z1.2.1⟩ z3.2.1 (by omega) z5.2.2.2
  exact ⟨z6.2.1, y1, y2, y3, by omega⟩
set_option maxHeartbeats 4000000 in
set_option maxRecDepth 100000 in
theorem ev_readWalls {X : py_X} {σ : py_H} {B : Nat → Nat} {N a0 : Nat} (ht : py_tc σ B N) (ha : σ 5 2 = nI a0) (haN0 : a0 ≤ N) {H0 : Nat → Nat} (hc : py_hd σ 14 H0) (hrd0 : py_rd H0) (h30 : H0 3 = 0) (h120 : H0 12 = 0) : py_Ev X 3 yX6_readWalls cX6_readWalls 3 (some .boolean) [.ref 5, .ref 14] σ (py_vs (some (.int (py_b (py_isok (py_pws B N 5 0 a0 H0) = true)))) (fun s => py_ps s (py_pws B N 5 0 a0 H0) ∧ (∀ a9 H9, py_pws B N 5 0 a0 H0 = .inr (a9, H9) → py_hd s 14 H9) ∧ py_fr [14, 15, 16] [(5, 2), (5, 3), (5, 4)] σ s)) := by
  have hN := ht.2.1
  have hB : ∀ i, i < N → B i ≤ 255 := fun i hi => (ht.2.2 i hi).2
  refine py_ofZ (own := RX6) YX6_readWalls.2.2.2.2 rfl rfl (Nat.le_of_ble_eq_true rfl) py_b_ok ?_
  show py_Go X RX6 cX6_readWalls 3 3 0 [some (.ref 5), some (.ref 14), none] [] σ (py_vs (some (.int (py_b (py_isok (py_pws B N 5 0 a0 H0) = true)))) (fun s => py_ps s (py_pws B N 5 0 a0 H0) ∧ (∀ a9 H9, py_pws B N 5 0 a0 H0 = .inr (a9, H9) → py_hd s 14 H9) ∧ py_fr [14, 15, 16] [(5, 2), (5, 3), (5, 4)] σ s))
  have loop : ∀ i, i ≤ 5 → ∀ s a H, py_pws B N 5 0 a0 H0 = py_pws B N (5 - i) i a H → py_fr [14, 15, 16] [(5, 2), (5, 3), (5, 4)] σ s → s 5 2 = nI a → a ≤ N → py_hd s 14 H → py_rd H → H 3 = i → H 12 = 0 → py_Go X RX6 cX6_readWalls 3 3 2 [some (.ref 5), some (.ref 14), some (.int (nI i))] [] s (py_vs (some (.int (py_b (py_isok (py_pws B N 5 0 a0 H0) = true)))) (fun s => py_ps s (py_pws B N 5 0 a0 H0) ∧ (∀ a9 H9, py_pws B N 5 0 a0 H0 = .inr (a9, H9) → py_hd s 14 H9) ∧ py_fr [14, 15, 16] [(5, 2), (5, 3), (5, 4)] σ s)) := by
    refine py_loop _ (5) (fun i hi ih s a H hinv hs hat haN hds hrd h3i h12 => ?_)
    have hts := py_tc_fr hs (by decide) (by decide) (by decide) (by decide) ht
    refine go_iload_n (pc := 2) dX6_readWalls_2 rfl ?_
    refine go_iconst (v := nI 4) (pc := 3) dX6_readWalls_3 (by decide) ?_
    refine go_icmp_gtN (tgt := 36) (pc := 4) dX6_readWalls_4 (by omega) (by omega) (by decide) (fun c_4 => ?_) (fun c_4 => ?_)
    · refine go_iconst (v := nI 1) (pc := 36) dX6_readWalls_36 (by decide) ?_
      have hR : py_pws B N 5 0 a0 H0 = .inr (a, H) := by
        rw [hinv]
        by_cases h5 : i = 5
        · subst h5; rfl
        · rw [show 5 - i = (4 - i) + 1 by omega]
          show (if _ then _ else _) = _
          rw [if_neg (by
            intro z
            rcases z with z | z
            · first
                | omega
                | exact absurd z (by omega)
            · first
                | exact absurd ((py_nx_t (by decide) hB).mpr z) c_17
                | omega)]
      refine go_retI (pc := 37) dX6_readWalls_37 (by rw [hR]; rfl) ⟨by rw [hR]; exact hat, ?_, hs⟩
      intro a9 H9 q
      rw [hR] at q
      injection q with q
      injection q with q1 q2
      subst q2
      exact hds
    · refine go_iload_n (pc := 7) dX6_readWalls_7 rfl ?_
      refine go_if_eqN (tgt := 20) (pc := 8) dX6_readWalls_8 (by omega) (by decide) (fun c_8 => ?_) (fun c_8 => ?_)
      · refine go_aload_n (pc := 20) dX6_readWalls_20 rfl ?_
        refine go_aload_n (pc := 21) dX6_readWalls_21 rfl ?_
        have hgo : i = 0 ∨ (a < N ∧ B a = 119) := by
          first
            | exact Or.inl c_8
            | exact Or.inr ((py_nx_t (by decide) hB).mp c_17)
        have e1b : py_pws B N (5 - i) i a H = py_bi (py_pwall B N a H) (fun a H => py_pws B N (4 - i) (i + 1) a H) := by
          rw [show 5 - i = (4 - i) + 1 by omega]
          show (if _ then _ else _) = _
          rw [if_pos hgo]
        refine go_cVi (pc := 22) dX6_readWalls_22 (ev_readWall hts hat haN hds hrd.2.2.2.2.1) lX6_59 YX6_readWall VX6_readWall rfl rfl rfl (by decide) rfl (Nat.le_of_ble_eq_true rfl) (fun s1 e1 => ?_)
        refine go_if_neB (tgt := 30) (pc := 25) dX6_readWalls_25 (by decide) (fun c_25 => ?_) (fun c_25 => ?_)
        · obtain ⟨a1, H1, hr1⟩ := py_ok_t c_25
          have z := py_pwall_v hN hrd h12 hr1
          have hs1 := hs.tr e1.2.2 (by decide) (by decide)
          have hat1 : s1 5 2 = nI a1 := by have y := e1.1; rw [hr1] at y; exact y
          have hds1 := e1.2.1 a1 H1 hr1
          rw [hr1] at e1b
          refine go_iincN (c := 1) (pc := 30) dX6_readWalls_30 rfl (by decide) (by decide) rfl ?_
          refine go_goto (tgt := 2) (pc := 33) dX6_readWalls_33 (by decide) ?_
          exact ih (by omega) s1 a1 H1 (by rw [hinv, e1b]; exact congrArg (fun z => py_pws B N z (i + 1) a1 H1) (by omega)) hs1 hat1 z.1 hds1 z.2.1 (by omega) z.2.2.2
        · obtain ⟨p9, k9, hr1⟩ := py_ok_f c_25
          have hR : py_pws B N 5 0 a0 H0 = .inl (p9, k9) := by rw [hinv, e1b, hr1]; rfl
          have hs1 := hs.tr e1.2.2 (by decide) (by decide)
          refine go_iconst (v := nI 0) (pc := 28) dX6_readWalls_28 (by decide) ?_
          exact go_retI (pc := 29) dX6_readWalls_29 (by rw [hR]; rfl) ⟨by rw [hR]; have y := e1.1; rw [hr1] at y; exact y, (fun a H q => by rw [hR] at q; cases q), hs1⟩
      · refine go_aload_n (pc := 11) dX6_readWalls_11 rfl ?_
        refine go_cV (pc := 12) dX6_readWalls_12 (ev_next hts hat haN) lX6_55 YX6_next VX6_next rfl rfl rfl (by decide) rfl (Nat.le_of_ble_eq_true rfl) ?_
        refine go_bipush (v := nI 119) (pc := 15) dX6_readWalls_15 (by decide) ?_
        refine go_icmp_ne (tgt := 36) (pc := 17) dX6_readWalls_17 (by decide) (fun c_17 => ?_) (fun c_17 => ?_)
        · refine go_iconst (v := nI 1) (pc := 36) dX6_readWalls_36 (by decide) ?_
          have hR : py_pws B N 5 0 a0 H0 = .inr (a, H) := by
            rw [hinv]
            by_cases h5 : i = 5
            · subst h5; rfl
            · rw [show 5 - i = (4 - i) + 1 by omega]
              show (if _ then _ else _) = _
              rw [if_neg (by
                intro z
                rcases z with z | z
                · first
                    | omega
                    | exact absurd z (by omega)
                · first
                    | exact absurd ((py_nx_t (by decide) hB).mpr z) c_17
                    | omega)]
          refine go_retI (pc := 37) dX6_readWalls_37 (by rw [hR]; rfl) ⟨by rw [hR]; exact hat, ?_, hs⟩
          intro a9 H9 q
          rw [hR] at q
          injection q with q
          injection q with q1 q2
          subst q2
          exact hds
        · refine go_aload_n (pc := 20) dX6_readWalls_20 rfl ?_
          refine go_aload_n (pc := 21) dX6_readWalls_21 rfl ?_
          have hgo : i = 0 ∨ (a < N ∧ B a = 119) := by
            first
              | exact Or.inl c_8
              | exact Or.inr ((py_nx_t (by decide) hB).mp c_17)
          have e1b : py_pws B N (5 - i) i a H = py_bi (py_pwall B N a H) (fun a H => py_pws B N (4 - i) (i + 1) a H) := by
            rw [show 5 - i = (4 - i) + 1 by omega]
            show (if _ then _ else _) = _
            rw [if_pos hgo]
          refine go_cVi (pc := 22) dX6_readWalls_22 (ev_readWall hts hat haN hds hrd.2.2.2.2.1) lX6_59 YX6_readWall VX6_readWall rfl rfl rfl (by decide) rfl (Nat.le_of_ble_eq_true rfl) (fun s1 e1 => ?_)
          refine go_if_neB (tgt := 30) (pc := 25) dX6_readWalls_25 (by decide) (fun c_25 => ?_) (fun c_25 => ?_)
          · obtain ⟨a1, H1, hr1⟩ := py_ok_t c_25
            have z := py_pwall_v hN hrd h12 hr1
            have hs1 := hs.tr e1.2.2 (by decide) (by decide)
            have hat1 : s1 5 2 = nI a1 := by have y := e1.1; rw [hr1] at y; exact y
            have hds1 := e1.2.1 a1 H1 hr1
            rw [hr1] at e1b
            refine go_iincN (c := 1) (pc := 30) dX6_readWalls_30 rfl (by decide) (by decide) rfl ?_
            refine go_goto (tgt := 2) (pc := 33) dX6_readWalls_33 (by decide) ?_
            exact ih (by omega) s1 a1 H1 (by rw [hinv, e1b]; exact congrArg (fun z => py_pws B N z (i + 1) a1 H1) (by omega)) hs1 hat1 z.1 hds1 z.2.1 (by omega) z.2.2.2
          · obtain ⟨p9, k9, hr1⟩ := py_ok_f c_25
            have hR : py_pws B N 5 0 a0 H0 = .inl (p9, k9) := by rw [hinv, e1b, hr1]; rfl
            have hs1 := hs.tr e1.2.2 (by decide) (by decide)
            refine go_iconst (v := nI 0) (pc := 28) dX6_readWalls_28 (by decide) ?_
            exact go_retI (pc := 29) dX6_readWalls_29 (by rw [hR]; rfl) ⟨by rw [hR]; have y := e1.1; rw [hr1] at y; exact y, (fun a H q => by rw [hR] at q; cases q), hs1⟩
  refine go_iconst (v := nI 0) (pc := 0) dX6_readWalls_0 (by decide) ?_
  refine go_istore_n (pc := 1) dX6_readWalls_1 (by decide) rfl ?_
  exact loop 0 (Nat.zero_le _) σ a0 H0 rfl (py_fr.rf _ _ σ) ha haN0 hc hrd0 h30 h120
set_option maxHeartbeats 4000000 in
set_option maxRecDepth 100000 in
theorem ev_readPictures {X : py_X} {σ : py_H} {B : Nat → Nat} {N a0 : Nat} (ht : py_tc σ B N) (ha : σ 5 2 = nI a0) (haN0 : a0 ≤ N) {H0 : Nat → Nat} (hc : py_hd σ 14 H0) (hrd0 : py_rd H0) (h30 : 1 ≤ H0 3) (h120 : H0 12 = 0) : py_Ev X 5 yX6_readPictures cX6_readPictures 3 (some .boolean) [.ref 5, .ref 14] σ (py_vs (some (.int (py_b (py_isok (py_pps B N 6 a0 H0) = true)))) (fun s => py_ps s (py_pps B N 6 a0 H0) ∧ (∀ a9 H9, py_pps B N 6 a0 H0 = .inr (a9, H9) → py_hd s 14 H9) ∧ py_fr [14, 17, 18, 19, 20] [(5, 2), (5, 3), (5, 4)] σ s)) := by
  have hN := ht.2.1
  have hB : ∀ i, i < N → B i ≤ 255 := fun i hi => (ht.2.2 i hi).2
  refine py_ofZ (own := RX6) YX6_readPictures.2.2.2.2 rfl rfl (Nat.le_of_ble_eq_true rfl) py_b_ok ?_
  show py_Go X RX6 cX6_readPictures 3 5 0 [some (.ref 5), some (.ref 14), none] [] σ (py_vs (some (.int (py_b (py_isok (py_pps B N 6 a0 H0) = true)))) (fun s => py_ps s (py_pps B N 6 a0 H0) ∧ (∀ a9 H9, py_pps B N 6 a0 H0 = .inr (a9, H9) → py_hd s 14 H9) ∧ py_fr [14, 17, 18, 19, 20] [(5, 2), (5, 3), (5, 4)] σ s))
  have loop : ∀ i, i ≤ 6 → ∀ s a H, py_pps B N 6 a0 H0 = py_pps B N (6 - i) a H → py_fr [14, 17, 18, 19, 20] [(5, 2), (5, 3), (5, 4)] σ s → s 5 2 = nI a → a ≤ N → py_hd s 14 H → py_rd H → 1 ≤ H 3 → H 12 = i → py_Go X RX6 cX6_readPictures 3 5 2 [some (.ref 5), some (.ref 14), some (.int (nI i))] [] s (py_vs (some (.int (py_b (py_isok (py_pps B N 6 a0 H0) = true)))) (fun s => py_ps s (py_pps B N 6 a0 H0) ∧ (∀ a9 H9, py_pps B N 6 a0 H0 = .inr (a9, H9) → py_hd s 14 H9) ∧ py_fr [14, 17, 18, 19, 20] [(5, 2), (5, 3), (5, 4)] σ s)) := by
    refine py_loop _ (6) (fun i hi ih s a H hinv hs hat haN hds hrd h31 h12i => ?_)
    have hts := py_tc_fr hs (by decide) (by decide) (by decide) (by decide) ht
    refine go_iload_n (pc := 2) dX6_readPictures_2 rfl ?_
    refine go_iconst (v := nI 5) (pc := 3) dX6_readPictures_3 (by decide) ?_
    refine go_icmp_gtN (tgt := 31) (pc := 4) dX6_readPictures_4 (by omega) (by omega) (by decide) (fun c_4 => ?_) (fun c_4 => ?_)
    · refine go_iconst (v := nI 1) (pc := 31) dX6_readPictures_31 (by decide) ?_
      have hR : py_pps B N 6 a0 H0 = .inr (a, H) := by
        rw [hinv]
        by_cases h6 : i = 6
        · subst h6; rfl
        · rw [show 6 - i = (5 - i) + 1 by omega]
          show (if _ then _ else _) = _
          rw [if_neg (by
            first
              | exact (py_nx_e hB).mp c_12
              | omega)]
      refine go_retI (pc := 32) dX6_readPictures_32 (by rw [hR]; rfl) ⟨by rw [hR]; exact hat, ?_, hs⟩
      intro a9 H9 q
      rw [hR] at q
      injection q with q
      injection q with q1 q2
      subst q2
      exact hds
    · refine go_aload_n (pc := 7) dX6_readPictures_7 rfl ?_
      refine go_cV (pc := 8) dX6_readPictures_8 (ev_next hts hat haN) lX6_55 YX6_next VX6_next rfl rfl rfl (by decide) rfl (Nat.le_of_ble_eq_true rfl) ?_
      refine go_iconst (v := -1) (pc := 11) dX6_readPictures_11 (by decide) ?_
      refine go_icmp_eq (tgt := 31) (pc := 12) dX6_readPictures_12 (by decide) (fun c_12 => ?_) (fun c_12 => ?_)
      · refine go_iconst (v := nI 1) (pc := 31) dX6_readPictures_31 (by decide) ?_
        have hR : py_pps B N 6 a0 H0 = .inr (a, H) := by
          rw [hinv]
          by_cases h6 : i = 6
          · subst h6; rfl
          · rw [show 6 - i = (5 - i) + 1 by omega]
            show (if _ then _ else _) = _
            rw [if_neg (by
              first
                | exact (py_nx_e hB).mp c_12
                | omega)]
        refine go_retI (pc := 32) dX6_readPictures_32 (by rw [hR]; rfl) ⟨by rw [hR]; exact hat, ?_, hs⟩
        intro a9 H9 q
        rw [hR] at q
        injection q with q
        injection q with q1 q2
        subst q2
        exact hds
      · refine go_aload_n (pc := 15) dX6_readPictures_15 rfl ?_
        refine go_aload_n (pc := 16) dX6_readPictures_16 rfl ?_
        have hgo : a < N := Classical.byContradiction (fun z => c_12 ((py_nx_e hB).mpr z))
        have e1b : py_pps B N (6 - i) a H = py_bi (py_ppic B N a H) (fun a H => py_pps B N (5 - i) a H) := by
          rw [show 6 - i = (5 - i) + 1 by omega]
          show (if _ then _ else _) = _
          rw [if_pos hgo]
        refine go_cVi (pc := 17) dX6_readPictures_17 (ev_readPicture hts hat haN hds hrd.2.2.2.2.1 h31 hrd.2.2.2.2.2.1 hrd.2.1 (fun p hp => by have y := (hrd.2.2.2.2.2.2.2.1 p hp).2.2.2.2.2; have y2 := hrd.2.2.2.2.1; omega)) lX6_73 YX6_readPicture VX6_readPicture rfl rfl rfl (by decide) rfl (Nat.le_of_ble_eq_true rfl) (fun s1 e1 => ?_)
        refine go_if_neB (tgt := 25) (pc := 20) dX6_readPictures_20 (by decide) (fun c_20 => ?_) (fun c_20 => ?_)
        · obtain ⟨a1, H1, hr1⟩ := py_ok_t c_20
          have z := py_ppic_v hN hrd h31 hr1
          have hs1 := hs.tr e1.2.2 (by decide) (by decide)
          have hat1 : s1 5 2 = nI a1 := by have y := e1.1; rw [hr1] at y; exact y
          have hds1 := e1.2.1 a1 H1 hr1
          rw [hr1] at e1b
          refine go_iincN (c := 1) (pc := 25) dX6_readPictures_25 rfl (by decide) (by decide) rfl ?_
          refine go_goto (tgt := 2) (pc := 28) dX6_readPictures_28 (by decide) ?_
          exact ih (by omega) s1 a1 H1 (by rw [hinv, e1b]; exact congrArg (fun z => py_pps B N z a1 H1) (by omega)) hs1 hat1 z.1 hds1 z.2.1 (by omega) (by omega)
        · obtain ⟨p9, k9, hr1⟩ := py_ok_f c_20
          have hR : py_pps B N 6 a0 H0 = .inl (p9, k9) := by rw [hinv, e1b, hr1]; rfl
          have hs1 := hs.tr e1.2.2 (by decide) (by decide)
          refine go_iconst (v := nI 0) (pc := 23) dX6_readPictures_23 (by decide) ?_
          exact go_retI (pc := 24) dX6_readPictures_24 (by rw [hR]; rfl) ⟨by rw [hR]; have y := e1.1; rw [hr1] at y; exact y, (fun a H q => by rw [hR] at q; cases q), hs1⟩
  refine go_iconst (v := nI 0) (pc := 0) dX6_readPictures_0 (by decide) ?_
  refine go_istore_n (pc := 1) dX6_readPictures_1 (by decide) rfl ?_
  exact loop 0 (Nat.zero_le _) σ a0 H0 rfl (py_fr.rf _ _ σ) ha haN0 hc hrd0 h30 h120
