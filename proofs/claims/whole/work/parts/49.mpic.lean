/-! contracts: the reference reads pictures -/
theorem py_ppic_b {B : Nat → Nat} {N a : Nat} {H : Nat → Nat} (hk : 0 < py_kd (py_at B N a)) (h : H 12 < 5) : py_ppic B N a H = py_bi (py_num B N (a + 1) 1 9) (fun a2 s => py_bi (py_bi (py_chr B N a2 44) (fun b _ => py_num B N b 1 60)) (fun a3 c => py_bi (py_bi (py_chr B N a3 44) (fun b _ => py_pw B N b H)) (fun a5 w => py_bi (py_chr B N a5 59) (fun a6 _ => .inr (a6, py_ap H (py_kd (py_at B N a)) s c w))))) := by
  unfold py_ppic
  rw [if_neg (by omega), if_neg (by omega)]
  congr 1
  funext a2 s
  rw [py_bi_a]
  congr 1
  funext a3 _
  congr 1
  funext a4 c
  rw [py_bi_a]
theorem py_pl_sp (r2 : py_Re Nat) (f g h : Nat → py_Re Nat) (mk : Nat → Nat → Nat → (Nat → Nat)) : py_sp (py_bi r2 (fun a2 s => py_bi (f a2) (fun a3 c => py_bi (g a3) (fun a5 w => py_bi (h a5) (fun a6 _ => (.inr (a6, mk s c w) : py_Re (Nat → Nat))))))) = py_sp (py_bi (py_bi (py_bi r2 (fun a2 _ => f a2)) (fun a3 _ => g a3)) (fun a5 _ => h a5)) := by
  cases r2 with
  | inl e => rfl
  | inr q =>
    obtain ⟨a2, l⟩ := q
    rw [py_bi_i, py_bi_i]
    cases f a2 with
    | inl e => rfl
    | inr p =>
      obtain ⟨a3, c⟩ := p
      rw [py_bi_i, py_bi_i]
      cases g a3 with
      | inl e => rfl
      | inr u =>
        obtain ⟨a5, w⟩ := u
        rw [py_bi_i, py_bi_i]
        cases h a5 with
        | inl e => rfl
        | inr v => rfl
theorem py_hm_ap {s : py_H} {H : Nat → Nat} {k b c x : Nat} (h12 : H 12 < 5) (h : py_hm (s 54) 0 H) : py_hm ((py_up (py_up (py_up (py_up (py_up s 54 (13 + (4 * (H 12))) (nI k)) 54 ((13 + (4 * (H 12))) + 1) (nI b)) 54 ((13 + (4 * (H 12))) + 2) (nI c)) 54 ((13 + (4 * (H 12))) + 3) (nI x)) 54 12 (nI (H 12 + 1))) 54) 0 (py_ap H k b c x) := by
  intro j hj
  have z := h j hj
  rw [Nat.zero_add] at z ⊢
  unfold py_ap
  by_cases e0 : j = 12
  · rw [if_pos e0, e0, py_up_s]
  · rw [if_neg e0, py_up_j _ _ _ e0]
    by_cases e4 : j = 13 + 4 * H 12 + 3
    · rw [if_neg (by omega), if_neg (by omega), if_neg (by omega), if_pos (by omega), e4, py_up_s]
    · rw [py_up_j _ _ _ e4]
      by_cases e3 : j = 13 + 4 * H 12 + 2
      · rw [if_neg (by omega), if_neg (by omega), if_pos (by omega), e3, py_up_s]
      · rw [py_up_j _ _ _ e3]
        by_cases e2 : j = 13 + 4 * H 12 + 1
        · rw [if_neg (by omega), if_pos (by omega), e2, py_up_s]
        · rw [py_up_j _ _ _ e2]
          by_cases e1 : j = 13 + 4 * H 12
          · rw [if_pos e1, e1, py_up_s]
          · rw [py_up_j _ _ _ e1, if_neg e1, if_neg (by omega), if_neg (by omega), if_neg (by omega)]
            exact z
set_option maxHeartbeats 4000000 in
set_option maxRecDepth 100000 in
theorem ev_readsPicture {X : py_X} {σ : py_H} {B : Nat → Nat} {N : Nat} {ft : Int32} {a : Nat} {H : Nat → Nat} (ht : py_tm σ B N) (h : py_lr σ B N ft (Sum.inr (a, H) : py_Re (Nat → Nat))) (hD : py_hm (σ 54) 0 H) (hk : 0 < py_kd (py_at B N a)) (h34 : H 3 ≤ 4) (h31 : 1 ≤ H 3) (h12 : H 12 ≤ 5) (h0 : H 0 ≤ 5) (hpw : ∀ p, p < H 12 → H (16 + 4 * p) < 4) : py_Ev X 5 yX8_readsPicture cX8_readsPicture 6 none [.ref 47] σ (py_vs none (fun s => py_lr s B N ft (py_ppic B N a H) ∧ (∀ a9 H9, py_ppic B N a H = .inr (a9, H9) → py_hm (s 54) 0 H9) ∧ py_fr [54] py_T6 σ s)) := by
  refine py_ofV (own := RX8) YX8_readsPicture.2.2.2.2 rfl rfl (Nat.le_of_ble_eq_true rfl)  ?_
  show py_Go X RX8 cX8_readsPicture 6 5 0 [some (.ref 47), none, none, none, none, none] [] σ (py_vs none (fun s => py_lr s B N ft (py_ppic B N a H) ∧ (∀ a9 H9, py_ppic B N a H = .inr (a9, H9) → py_hm (s 54) 0 H9) ∧ py_fr [54] py_T6 σ s))
  have hN := ht.2.1
  have hal := py_kd_at hk
  have hB : ∀ i, i < N → B i ≤ 255 := fun i hi => (ht.2.2 i hi).2
  have eat : py_at B N a = B a := by unfold py_at; rw [if_pos hal]
  have hl := py_kd_l hk
  rw [eat] at hl
  have hz := py_tk_o (B := B) hN hal (by omega)
  have ekd : py_kdI (py_vl B N a) = py_kd (py_at B N a) := by rw [hz.2.2.2, ← py_nx_lt hal]; exact py_kdI_at hB
  have hk5 := py_kd_le (py_at B N a)
  by_cases h5 : H 12 < 5
  · have ht0 := ht
    refine go_aload_n (pc := 0) dX8_readsPicture_0 rfl ?_
    refine go_getI (x := (py_vl B N a)) (pc := 1) dX8_readsPicture_1 fX8_98 rfl rfl h.2.1.2.2.2 ?_
    refine go_cS (pc := 4) dX8_readsPicture_4 ev_kindOf lX8_134 YX8_kindOf SX8_kindOf rfl (by decide) rfl (Nat.le_of_ble_eq_true rfl) ?_
    refine go_top (y := nI (py_kd (py_at B N a))) (by rw [ekd]) ?_
    refine go_istore_n (pc := 7) dX8_readsPicture_7 (by decide) rfl ?_
    refine go_aload_n (pc := 8) dX8_readsPicture_8 rfl ?_
    refine go_aload_n (pc := 9) dX8_readsPicture_9 rfl ?_
    refine go_getR (pc := 10) dX8_readsPicture_10 fX8_28 rfl rfl ?_
    refine go_bipush (v := nI 12) (pc := 13) dX8_readsPicture_13 (by decide) ?_
    refine go_aldN (x := (nI (H 12))) (pc := 15) dX8_readsPicture_15 rfl (by show 12 < 33; omega) (py_hm_at hD (show 12 = 12 by omega) (by omega)) ?_
    refine go_iconst (v := nI 5) (pc := 16) dX8_readsPicture_16 (by decide) ?_
    refine go_icmp_geN (tgt := 24) (pc := 17) dX8_readsPicture_17 (by omega) (by omega) (by decide) (fun c_17 => ?_) (fun c_17 => ?_)
    · omega
    · refine go_iconst (v := nI 1) (pc := 20) dX8_readsPicture_20 (by decide) ?_
      refine go_goto (tgt := 25) (pc := 21) dX8_readsPicture_21 (by decide) ?_
      refine go_iconst (v := nI 3) (pc := 25) dX8_readsPicture_25 (by decide) ?_
      refine go_cVi (pc := 26) dX8_readsPicture_26 (ev_takes (b := True) (k := 3) ht h) lX8_117 YX8_takes VX8_takes rfl rfl rfl (by decide) rfl (Nat.le_of_ble_eq_true rfl) (fun s1 hs1 => ?_)
      have h1 : py_lr s1 B N ft (Sum.inr (a + 1, 0) : py_Re Nat) := py_lr_sp (by rw [py_tks_t trivial, hz.2.1]; rfl) hs1.1
      have hf1 := hs1.2
      have ht1 := py_tm_6 hf1 (by decide) ht
      refine go_pop (pc := 29) dX8_readsPicture_29 rfl ?_
      refine go_bipush (v := nI 13) (pc := 30) dX8_readsPicture_30 (by decide) ?_
      refine go_iconst (v := nI 4) (pc := 32) dX8_readsPicture_32 (by decide) ?_
      refine go_aload_n (pc := 33) dX8_readsPicture_33 rfl ?_
      refine go_getR (pc := 34) dX8_readsPicture_34 fX8_28 rfl rfl ?_
      refine go_bipush (v := nI 12) (pc := 37) dX8_readsPicture_37 (by decide) ?_
      refine go_aldN (x := (nI (H 12))) (pc := 39) dX8_readsPicture_39 rfl (by show 12 < 33; omega) (py_hm_at (show py_hm (s1 54) 0 H by rw [hf1.at 54 (by decide) (by decide)]; exact hD) (show 12 = 12 by omega) (by omega)) ?_
      refine go_iconst (v := nI 5) (pc := 40) dX8_readsPicture_40 (by decide) ?_
      refine go_icmp_geN (tgt := 54) (pc := 41) dX8_readsPicture_41 (by omega) (by omega) (by decide) (fun c_41 => ?_) (fun c_41 => ?_)
      · omega
      · refine go_aload_n (pc := 44) dX8_readsPicture_44 rfl ?_
        refine go_getR (pc := 45) dX8_readsPicture_45 fX8_28 rfl rfl ?_
        refine go_bipush (v := nI 12) (pc := 48) dX8_readsPicture_48 (by decide) ?_
        refine go_aldN (x := (nI (H 12))) (pc := 50) dX8_readsPicture_50 rfl (by show 12 < 33; omega) (py_hm_at (show py_hm (s1 54) 0 H by rw [hf1.at 54 (by decide) (by decide)]; exact hD) (show 12 = 12 by omega) (by omega)) ?_
        refine go_goto (tgt := 55) (pc := 51) dX8_readsPicture_51 (by decide) ?_
        refine go_imulN (pc := 55) dX8_readsPicture_55  ?_
        refine go_iaddN (pc := 56) dX8_readsPicture_56  ?_
        refine go_istore_n (pc := 57) dX8_readsPicture_57 (by decide) rfl ?_
        refine go_aload_n (pc := 58) dX8_readsPicture_58 rfl ?_
        refine go_iconst (v := nI 1) (pc := 59) dX8_readsPicture_59 (by decide) ?_
        refine go_bipush (v := nI 9) (pc := 60) dX8_readsPicture_60 (by decide) ?_
        refine go_cVi (pc := 62) dX8_readsPicture_62 (ev_figure ht1 h1 (by decide) (by decide)) lX8_121 YX8_figure VX8_figure rfl rfl rfl (by decide) rfl (Nat.le_of_ble_eq_true rfl) (fun s2 hs2 => ?_)
        have h2r : py_lr s2 B N ft (py_num B N (a + 1) 1 9) := hs2.1
        have hf2 := hf1.tr hs2.2 (by decide) (by decide)
        have ht2 := py_tm_6 hf2 (by decide) ht
        refine go_istore_n (pc := 65) dX8_readsPicture_65 (by decide) rfl ?_
        refine go_aload_n (pc := 66) dX8_readsPicture_66 rfl ?_
        refine go_iconst (v := nI 1) (pc := 67) dX8_readsPicture_67 (by decide) ?_
        refine go_bipush (v := nI 60) (pc := 68) dX8_readsPicture_68 (by decide) ?_
        refine go_cVi (pc := 70) dX8_readsPicture_70 (ev_next2 ht2 h2r (by decide) (by decide)) lX8_124 YX8_next VX8_next rfl rfl rfl (by decide) rfl (Nat.le_of_ble_eq_true rfl) (fun s3 hs3 => ?_)
        have h3r : py_lr s3 B N ft (py_bi (py_num B N (a + 1) 1 9) (fun a _ => py_bi (py_chr B N a 44) (fun a _ => py_num B N a 1 60))) := hs3.1
        have hf3 := hf2.tr hs3.2 (by decide) (by decide)
        have ht3 := py_tm_6 hf3 (by decide) ht
        refine go_istore (pc := 73) dX8_readsPicture_73 (by decide) rfl ?_
        refine go_aload_n (pc := 75) dX8_readsPicture_75 rfl ?_
        refine go_aload_n (pc := 76) dX8_readsPicture_76 rfl ?_
        refine go_getI (x := (s3 47 11)) (pc := 77) dX8_readsPicture_77 fX8_101 rfl rfl rfl ?_
        refine go_iconst (v := nI 3) (pc := 80) dX8_readsPicture_80 (by decide) ?_
        suffices K81 : py_Go X RX8 cX8_readsPicture 6 5 89 [some (.ref 47), some (.int (nI (py_kd (py_at B N a)))), some (.int (nI (13 + (4 * (H 12))))), some (.int (py_rv0 (py_num B N (a + 1) 1 9))), some (.int (py_rv0 (py_bi (py_num B N (a + 1) 1 9) (fun a _ => py_bi (py_chr B N a 44) (fun a _ => py_num B N a 1 60))))), none] [.int (py_b ((s3 47 11) = (nI 3))), .ref 47] s3 (py_vs none (fun s => py_lr s B N ft (py_ppic B N a H) ∧ (∀ a9 H9, py_ppic B N a H = .inr (a9, H9) → py_hm (s 54) 0 H9) ∧ py_fr [54] py_T6 σ s)) by
          refine go_icmp_ne (tgt := 88) (pc := 81) dX8_readsPicture_81 (by decide) (fun c_81 => ?_) (fun c_81 => ?_)
          · refine go_iconst (v := nI 0) (pc := 88) dX8_readsPicture_88 (by decide) ?_
            have e9 := K81
            rw [py_b_f c_81] at e9
            exact e9
          · refine go_iconst (v := nI 1) (pc := 84) dX8_readsPicture_84 (by decide) ?_
            refine go_goto (tgt := 89) (pc := 85) dX8_readsPicture_85 (by decide) ?_
            have e9 := K81
            rw [py_b_t c_81] at e9
            exact e9
        refine go_iconst (v := nI 1) (pc := 89) dX8_readsPicture_89 (by decide) ?_
        refine go_cVi (pc := 90) dX8_readsPicture_90 (ev_takes (b := s3 47 11 = nI 3) (k := 1) ht3 h3r) lX8_117 YX8_takes VX8_takes rfl rfl rfl (by decide) rfl (Nat.le_of_ble_eq_true rfl) (fun s4 hs4 => ?_)
        have h4r : py_lr s4 B N ft (py_bi (py_bi (py_num B N (a + 1) 1 9) (fun a _ => py_bi (py_chr B N a 44) (fun a _ => py_num B N a 1 60))) (fun a _ => py_chr B N a 44)) := py_lr_sp (py_tks_c (c := 44) hN (Or.inl ⟨rfl, rfl⟩) h3r) hs4.1
        have hf4 := hf3.tr hs4.2 (by decide) (by decide)
        have ht4 := py_tm_6 hf4 (by decide) ht
        refine go_pop (pc := 93) dX8_readsPicture_93 rfl ?_
        refine go_aload_n (pc := 94) dX8_readsPicture_94 rfl ?_
        refine go_cVi (pc := 95) dX8_readsPicture_95 (ev_wallFigure ht4 h4r (show py_hm (s4 54) 0 H by rw [hf4.at 54 (by decide) (by decide)]; exact hD) h34 h31 h12 h0 hpw) lX8_137 YX8_wallFigure VX8_wallFigure rfl rfl rfl (by decide) rfl (Nat.le_of_ble_eq_true rfl) (fun s5 hs5 => ?_)
        have h5r : py_lr s5 B N ft (py_bi (py_bi (py_bi (py_num B N (a + 1) 1 9) (fun a _ => py_bi (py_chr B N a 44) (fun a _ => py_num B N a 1 60))) (fun a _ => py_chr B N a 44)) (fun a _ => py_pw B N a H)) := hs5.1
        have hf5 := hf4.tr hs5.2 (by decide) (by decide)
        have ht5 := py_tm_6 hf5 (by decide) ht
        refine go_istore (pc := 98) dX8_readsPicture_98 (by decide) rfl ?_
        refine go_aload_n (pc := 100) dX8_readsPicture_100 rfl ?_
        refine go_aload_n (pc := 101) dX8_readsPicture_101 rfl ?_
        refine go_getI (x := (s5 47 11)) (pc := 102) dX8_readsPicture_102 fX8_101 rfl rfl rfl ?_
        refine go_iconst (v := nI 4) (pc := 105) dX8_readsPicture_105 (by decide) ?_
        suffices K106 : py_Go X RX8 cX8_readsPicture 6 5 114 [some (.ref 47), some (.int (nI (py_kd (py_at B N a)))), some (.int (nI (13 + (4 * (H 12))))), some (.int (py_rv0 (py_num B N (a + 1) 1 9))), some (.int (py_rv0 (py_bi (py_num B N (a + 1) 1 9) (fun a _ => py_bi (py_chr B N a 44) (fun a _ => py_num B N a 1 60))))), some (.int (py_rv0 (py_bi (py_bi (py_bi (py_num B N (a + 1) 1 9) (fun a _ => py_bi (py_chr B N a 44) (fun a _ => py_num B N a 1 60))) (fun a _ => py_chr B N a 44)) (fun a _ => py_pw B N a H))))] [.int (py_b ((s5 47 11) = (nI 4))), .ref 47] s5 (py_vs none (fun s => py_lr s B N ft (py_ppic B N a H) ∧ (∀ a9 H9, py_ppic B N a H = .inr (a9, H9) → py_hm (s 54) 0 H9) ∧ py_fr [54] py_T6 σ s)) by
          refine go_icmp_ne (tgt := 113) (pc := 106) dX8_readsPicture_106 (by decide) (fun c_106 => ?_) (fun c_106 => ?_)
          · refine go_iconst (v := nI 0) (pc := 113) dX8_readsPicture_113 (by decide) ?_
            have e9 := K106
            rw [py_b_f c_106] at e9
            exact e9
          · refine go_iconst (v := nI 1) (pc := 109) dX8_readsPicture_109 (by decide) ?_
            refine go_goto (tgt := 114) (pc := 110) dX8_readsPicture_110 (by decide) ?_
            have e9 := K106
            rw [py_b_t c_106] at e9
            exact e9
        refine go_iconst (v := nI 1) (pc := 114) dX8_readsPicture_114 (by decide) ?_
        refine go_cVi (pc := 115) dX8_readsPicture_115 (ev_takes (b := s5 47 11 = nI 4) (k := 1) ht5 h5r) lX8_117 YX8_takes VX8_takes rfl rfl rfl (by decide) rfl (Nat.le_of_ble_eq_true rfl) (fun s6 hs6 => ?_)
        have h6r : py_lr s6 B N ft (py_bi (py_bi (py_bi (py_bi (py_num B N (a + 1) 1 9) (fun a _ => py_bi (py_chr B N a 44) (fun a _ => py_num B N a 1 60))) (fun a _ => py_chr B N a 44)) (fun a _ => py_pw B N a H)) (fun a _ => py_chr B N a 59)) := py_lr_sp (py_tks_c (c := 59) hN (Or.inr ⟨rfl, rfl⟩) h5r) hs6.1
        have hf6 := hf5.tr hs6.2 (by decide) (by decide)
        have ht6 := py_tm_6 hf6 (by decide) ht
        have hsp : py_sp (py_ppic B N a H) = py_sp (py_bi (py_bi (py_bi (py_bi (py_num B N (a + 1) 1 9) (fun a _ => py_bi (py_chr B N a 44) (fun a _ => py_num B N a 1 60))) (fun a _ => py_chr B N a 44)) (fun a _ => py_pw B N a H)) (fun a _ => py_chr B N a 59)) := by rw [py_ppic_b hk h5]; refine (py_pl_sp _ _ _ _ _).trans ?_; rw [py_bi_a (py_bi (py_num B N (a + 1) 1 9) (fun a _ => py_bi (py_chr B N a 44) (fun a _ => py_num B N a 1 60))) (fun a _ => py_chr B N a 44) (fun a _ => py_pw B N a H)]
        refine go_pop (pc := 118) dX8_readsPicture_118 rfl ?_
        refine go_aload_n (pc := 119) dX8_readsPicture_119 rfl ?_
        refine go_cV (pc := 120) dX8_readsPicture_120 (ev_isWell hN h6r) lX8_107 YX8_isWell VX8_isWell rfl rfl rfl (by decide) rfl (Nat.le_of_ble_eq_true rfl) ?_
        refine go_if_eqB (tgt := 173) (pc := 123) dX8_readsPicture_123 (by decide) (fun c_123 => ?_) (fun c_123 => ?_)
        · exact go_retV (pc := 173) dX8_readsPicture_173 ⟨py_lr_sp hsp.symm h6r, (fun a9 H9 z => absurd ((py_sp_ok hsp).symm.trans (py_isok_r z)) c_123), hf6.wd (by decide) (by decide)⟩
        · obtain ⟨a6, v6, hr6⟩ := py_ok_t c_123
          obtain ⟨a5, x5, hr5, hc6⟩ := py_bi_r hr6
          obtain ⟨a4, v4, hr4, hc5⟩ := py_bi_r hr5
          obtain ⟨a3, c3, hr3, hc4⟩ := py_bi_r hr4
          obtain ⟨a2, b2, hr2, hc3⟩ := py_bi_r hr3
          have e2 : py_rv0 (py_num B N (a + 1) 1 9) = nI b2 := by rw [hr2]; rfl
          have e3 : py_rv0 (py_bi (py_num B N (a + 1) 1 9) (fun a _ => py_bi (py_chr B N a 44) (fun a _ => py_num B N a 1 60))) = nI c3 := by rw [hr3]; rfl
          have e5 : py_rv0 (py_bi (py_bi (py_bi (py_num B N (a + 1) 1 9) (fun a _ => py_bi (py_chr B N a 44) (fun a _ => py_num B N a 1 60))) (fun a _ => py_chr B N a 44)) (fun a _ => py_pw B N a H)) = nI x5 := by rw [hr5]; rfl
          rw [e2, e3, e5]
          have hD6 : py_hm (s6 54) 0 H := by rw [hf6.at 54 (by decide) (by decide)]; exact hD
          refine go_aload_n (pc := 126) dX8_readsPicture_126 rfl ?_
          refine go_getR (pc := 127) dX8_readsPicture_127 fX8_28 rfl rfl ?_
          refine go_iload_n (pc := 130) dX8_readsPicture_130 rfl ?_
          refine go_iload_n (pc := 131) dX8_readsPicture_131 rfl ?_
          refine go_astN (pc := 132) dX8_readsPicture_132 rfl (by show 13 + (4 * (H 12)) < 33; omega) ?_
          refine go_aload_n (pc := 133) dX8_readsPicture_133 rfl ?_
          refine go_getR (pc := 134) dX8_readsPicture_134 fX8_28 rfl rfl ?_
          refine go_iload_n (pc := 137) dX8_readsPicture_137 rfl ?_
          refine go_iconst (v := nI 1) (pc := 138) dX8_readsPicture_138 (by decide) ?_
          refine go_iaddN (pc := 139) dX8_readsPicture_139  ?_
          refine go_iload_n (pc := 140) dX8_readsPicture_140 rfl ?_
          refine go_astN (pc := 141) dX8_readsPicture_141 rfl (by show (13 + (4 * (H 12))) + 1 < 33; omega) ?_
          refine go_aload_n (pc := 142) dX8_readsPicture_142 rfl ?_
          refine go_getR (pc := 143) dX8_readsPicture_143 fX8_28 rfl rfl ?_
          refine go_iload_n (pc := 146) dX8_readsPicture_146 rfl ?_
          refine go_iconst (v := nI 2) (pc := 147) dX8_readsPicture_147 (by decide) ?_
          refine go_iaddN (pc := 148) dX8_readsPicture_148  ?_
          refine go_iload (pc := 149) dX8_readsPicture_149 rfl ?_
          refine go_astN (pc := 151) dX8_readsPicture_151 rfl (by show (13 + (4 * (H 12))) + 2 < 33; omega) ?_
          refine go_aload_n (pc := 152) dX8_readsPicture_152 rfl ?_
          refine go_getR (pc := 153) dX8_readsPicture_153 fX8_28 rfl rfl ?_
          refine go_iload_n (pc := 156) dX8_readsPicture_156 rfl ?_
          refine go_iconst (v := nI 3) (pc := 157) dX8_readsPicture_157 (by decide) ?_
          refine go_iaddN (pc := 158) dX8_readsPicture_158  ?_
          refine go_iload (pc := 159) dX8_readsPicture_159 rfl ?_
          refine go_astN (pc := 161) dX8_readsPicture_161 rfl (by show (13 + (4 * (H 12))) + 3 < 33; omega) ?_
          refine go_aload_n (pc := 162) dX8_readsPicture_162 rfl ?_
          refine go_getR (pc := 163) dX8_readsPicture_163 fX8_28 rfl rfl ?_
          refine go_bipush (v := nI 12) (pc := 166) dX8_readsPicture_166 (by decide) ?_
          refine go_dup2 (pc := 168) dX8_readsPicture_168 rfl rfl ?_
          refine go_aldN (x := (nI (H 12))) (pc := 169) dX8_readsPicture_169 rfl (by show 12 < 33; omega) (by rw [py_up_j _ _ _ (by omega), py_up_j _ _ _ (by omega), py_up_j _ _ _ (by omega), py_up_j _ _ _ (by omega)]; exact py_hm_at hD6 (show 12 = 12 from rfl) (by decide)) ?_
          refine go_iconst (v := nI 1) (pc := 170) dX8_readsPicture_170 (by decide) ?_
          refine go_iaddN (pc := 171) dX8_readsPicture_171  ?_
          refine go_astN (pc := 172) dX8_readsPicture_172 rfl (by show 12 < 33; omega) ?_
          have er : py_ppic B N a H = .inr (a6, py_ap H (py_kd (py_at B N a)) b2 c3 x5) := by rw [py_ppic_b hk h5, hr2, py_bi_i, hc3, py_bi_i, hc4, py_bi_i, hc5, py_bi_i, hc6]; rfl
          have hfu : py_fr [54] [] s6 (py_up (py_up (py_up (py_up (py_up s6 54 (13 + (4 * (H 12))) ((nI (py_kd (py_at B N a))))) 54 ((13 + (4 * (H 12))) + 1) ((nI b2))) 54 ((13 + (4 * (H 12))) + 2) ((nI c3))) 54 ((13 + (4 * (H 12))) + 3) ((nI x5))) 54 12 ((nI ((H 12) + 1)))) := (((((py_fr.rf [54] [] s6).up (by decide) _).up (by decide) _).up (by decide) _).up (by decide) _).up (by decide) _
          have hff := (hf6.wd (S := [54]) (T := py_T6) (by decide) (by decide)).tr hfu (by decide) (by decide)
          have h9 : py_lr (py_up (py_up (py_up (py_up (py_up s6 54 (13 + (4 * (H 12))) ((nI (py_kd (py_at B N a))))) 54 ((13 + (4 * (H 12))) + 1) ((nI b2))) 54 ((13 + (4 * (H 12))) + 2) ((nI c3))) 54 ((13 + (4 * (H 12))) + 3) ((nI x5))) 54 12 ((nI ((H 12) + 1)))) B N ft (py_ppic B N a H) := by
            have z := py_lr_sp hsp.symm h6r
            rw [er] at z ⊢
            have e47 : (py_up (py_up (py_up (py_up (py_up s6 54 (13 + (4 * (H 12))) ((nI (py_kd (py_at B N a))))) 54 ((13 + (4 * (H 12))) + 1) ((nI b2))) 54 ((13 + (4 * (H 12))) + 2) ((nI c3))) 54 ((13 + (4 * (H 12))) + 3) ((nI x5))) 54 12 ((nI ((H 12) + 1)))) 47 = s6 47 := hfu.at 47 (by decide) (by decide)
            unfold py_lr py_lx at z ⊢
            rw [e47]
            exact z
          exact go_retV (pc := 173) dX8_readsPicture_173 ⟨h9, (fun a9 H9 z => by rw [er] at z; injection z with z; injection z with z1 z2; subst z2; exact py_hm_ap h5 hD6), hff⟩
  · have ht0 := ht
    refine go_aload_n (pc := 0) dX8_readsPicture_0 rfl ?_
    refine go_getI (x := (py_vl B N a)) (pc := 1) dX8_readsPicture_1 fX8_98 rfl rfl h.2.1.2.2.2 ?_
    refine go_cS (pc := 4) dX8_readsPicture_4 ev_kindOf lX8_134 YX8_kindOf SX8_kindOf rfl (by decide) rfl (Nat.le_of_ble_eq_true rfl) ?_
    refine go_top (y := nI (py_kd (py_at B N a))) (by rw [ekd]) ?_
    refine go_istore_n (pc := 7) dX8_readsPicture_7 (by decide) rfl ?_
    refine go_aload_n (pc := 8) dX8_readsPicture_8 rfl ?_
    refine go_aload_n (pc := 9) dX8_readsPicture_9 rfl ?_
    refine go_getR (pc := 10) dX8_readsPicture_10 fX8_28 rfl rfl ?_
    refine go_bipush (v := nI 12) (pc := 13) dX8_readsPicture_13 (by decide) ?_
    refine go_aldN (x := (nI (H 12))) (pc := 15) dX8_readsPicture_15 rfl (by show 12 < 33; omega) (py_hm_at hD (show 12 = 12 by omega) (by omega)) ?_
    refine go_iconst (v := nI 5) (pc := 16) dX8_readsPicture_16 (by decide) ?_
    refine go_icmp_geN (tgt := 24) (pc := 17) dX8_readsPicture_17 (by omega) (by omega) (by decide) (fun c_17 => ?_) (fun c_17 => ?_)
    · refine go_iconst (v := nI 0) (pc := 24) dX8_readsPicture_24 (by decide) ?_
      refine go_iconst (v := nI 3) (pc := 25) dX8_readsPicture_25 (by decide) ?_
      refine go_cVi (pc := 26) dX8_readsPicture_26 (ev_takes (b := False) (k := 3) ht h) lX8_117 YX8_takes VX8_takes rfl rfl rfl (by decide) rfl (Nat.le_of_ble_eq_true rfl) (fun s1 hs1 => ?_)
      have h1 : py_lr s1 B N ft (Sum.inl (a, 3) : py_Re Nat) := py_lr_sp (by rw [py_tks_f (fun z => z)]; rfl) hs1.1
      have hf1 := hs1.2
      have ht1 := py_tm_6 hf1 (by decide) ht
      refine go_pop (pc := 29) dX8_readsPicture_29 rfl ?_
      refine go_bipush (v := nI 13) (pc := 30) dX8_readsPicture_30 (by decide) ?_
      refine go_iconst (v := nI 4) (pc := 32) dX8_readsPicture_32 (by decide) ?_
      refine go_aload_n (pc := 33) dX8_readsPicture_33 rfl ?_
      refine go_getR (pc := 34) dX8_readsPicture_34 fX8_28 rfl rfl ?_
      refine go_bipush (v := nI 12) (pc := 37) dX8_readsPicture_37 (by decide) ?_
      refine go_aldN (x := (nI (H 12))) (pc := 39) dX8_readsPicture_39 rfl (by show 12 < 33; omega) (py_hm_at (show py_hm (s1 54) 0 H by rw [hf1.at 54 (by decide) (by decide)]; exact hD) (show 12 = 12 by omega) (by omega)) ?_
      refine go_iconst (v := nI 5) (pc := 40) dX8_readsPicture_40 (by decide) ?_
      refine go_icmp_geN (tgt := 54) (pc := 41) dX8_readsPicture_41 (by omega) (by omega) (by decide) (fun c_41 => ?_) (fun c_41 => ?_)
      · refine go_iconst (v := nI 0) (pc := 54) dX8_readsPicture_54 (by decide) ?_
        refine go_imulN (pc := 55) dX8_readsPicture_55  ?_
        refine go_iaddN (pc := 56) dX8_readsPicture_56  ?_
        refine go_istore_n (pc := 57) dX8_readsPicture_57 (by decide) rfl ?_
        refine go_aload_n (pc := 58) dX8_readsPicture_58 rfl ?_
        refine go_iconst (v := nI 1) (pc := 59) dX8_readsPicture_59 (by decide) ?_
        refine go_bipush (v := nI 9) (pc := 60) dX8_readsPicture_60 (by decide) ?_
        refine go_cVi (pc := 62) dX8_readsPicture_62 (ev_figure ht1 h1 (by decide) (by decide)) lX8_121 YX8_figure VX8_figure rfl rfl rfl (by decide) rfl (Nat.le_of_ble_eq_true rfl) (fun s2 hs2 => ?_)
        have h2r : py_lr s2 B N ft (Sum.inl (a, 3) : py_Re Nat) := hs2.1
        have hf2 := hf1.tr hs2.2 (by decide) (by decide)
        have ht2 := py_tm_6 hf2 (by decide) ht
        refine go_istore_n (pc := 65) dX8_readsPicture_65 (by decide) rfl ?_
        refine go_aload_n (pc := 66) dX8_readsPicture_66 rfl ?_
        refine go_iconst (v := nI 1) (pc := 67) dX8_readsPicture_67 (by decide) ?_
        refine go_bipush (v := nI 60) (pc := 68) dX8_readsPicture_68 (by decide) ?_
        refine go_cVi (pc := 70) dX8_readsPicture_70 (ev_next2 ht2 h2r (by decide) (by decide)) lX8_124 YX8_next VX8_next rfl rfl rfl (by decide) rfl (Nat.le_of_ble_eq_true rfl) (fun s3 hs3 => ?_)
        have h3r : py_lr s3 B N ft (Sum.inl (a, 3) : py_Re Nat) := hs3.1
        have hf3 := hf2.tr hs3.2 (by decide) (by decide)
        have ht3 := py_tm_6 hf3 (by decide) ht
        refine go_istore (pc := 73) dX8_readsPicture_73 (by decide) rfl ?_
        refine go_aload_n (pc := 75) dX8_readsPicture_75 rfl ?_
        refine go_aload_n (pc := 76) dX8_readsPicture_76 rfl ?_
        refine go_getI (x := (s3 47 11)) (pc := 77) dX8_readsPicture_77 fX8_101 rfl rfl rfl ?_
        refine go_iconst (v := nI 3) (pc := 80) dX8_readsPicture_80 (by decide) ?_
        suffices K81 : py_Go X RX8 cX8_readsPicture 6 5 89 [some (.ref 47), some (.int (nI (py_kd (py_at B N a)))), some (.int (nI (13 + (4 * 0)))), some (.int (nI 0)), some (.int (nI 0)), none] [.int (py_b ((s3 47 11) = (nI 3))), .ref 47] s3 (py_vs none (fun s => py_lr s B N ft (py_ppic B N a H) ∧ (∀ a9 H9, py_ppic B N a H = .inr (a9, H9) → py_hm (s 54) 0 H9) ∧ py_fr [54] py_T6 σ s)) by
          refine go_icmp_ne (tgt := 88) (pc := 81) dX8_readsPicture_81 (by decide) (fun c_81 => ?_) (fun c_81 => ?_)
          · refine go_iconst (v := nI 0) (pc := 88) dX8_readsPicture_88 (by decide) ?_
            have e9 := K81
            rw [py_b_f c_81] at e9
            exact e9
          · refine go_iconst (v := nI 1) (pc := 84) dX8_readsPicture_84 (by decide) ?_
            refine go_goto (tgt := 89) (pc := 85) dX8_readsPicture_85 (by decide) ?_
            have e9 := K81
            rw [py_b_t c_81] at e9
            exact e9
        refine go_iconst (v := nI 1) (pc := 89) dX8_readsPicture_89 (by decide) ?_
        refine go_cVi (pc := 90) dX8_readsPicture_90 (ev_takes (b := s3 47 11 = nI 3) (k := 1) ht3 h3r) lX8_117 YX8_takes VX8_takes rfl rfl rfl (by decide) rfl (Nat.le_of_ble_eq_true rfl) (fun s4 hs4 => ?_)
        have h4r : py_lr s4 B N ft (Sum.inl (a, 3) : py_Re Nat) := py_lr_sp rfl hs4.1
        have hf4 := hf3.tr hs4.2 (by decide) (by decide)
        have ht4 := py_tm_6 hf4 (by decide) ht
        refine go_pop (pc := 93) dX8_readsPicture_93 rfl ?_
        refine go_aload_n (pc := 94) dX8_readsPicture_94 rfl ?_
        refine go_cVi (pc := 95) dX8_readsPicture_95 (ev_wallFigure ht4 h4r (show py_hm (s4 54) 0 H by rw [hf4.at 54 (by decide) (by decide)]; exact hD) h34 h31 h12 h0 hpw) lX8_137 YX8_wallFigure VX8_wallFigure rfl rfl rfl (by decide) rfl (Nat.le_of_ble_eq_true rfl) (fun s5 hs5 => ?_)
        have h5r : py_lr s5 B N ft (Sum.inl (a, 3) : py_Re Nat) := hs5.1
        have hf5 := hf4.tr hs5.2 (by decide) (by decide)
        have ht5 := py_tm_6 hf5 (by decide) ht
        refine go_istore (pc := 98) dX8_readsPicture_98 (by decide) rfl ?_
        refine go_aload_n (pc := 100) dX8_readsPicture_100 rfl ?_
        refine go_aload_n (pc := 101) dX8_readsPicture_101 rfl ?_
        refine go_getI (x := (s5 47 11)) (pc := 102) dX8_readsPicture_102 fX8_101 rfl rfl rfl ?_
        refine go_iconst (v := nI 4) (pc := 105) dX8_readsPicture_105 (by decide) ?_
        suffices K106 : py_Go X RX8 cX8_readsPicture 6 5 114 [some (.ref 47), some (.int (nI (py_kd (py_at B N a)))), some (.int (nI (13 + (4 * 0)))), some (.int (nI 0)), some (.int (nI 0)), some (.int (nI 0))] [.int (py_b ((s5 47 11) = (nI 4))), .ref 47] s5 (py_vs none (fun s => py_lr s B N ft (py_ppic B N a H) ∧ (∀ a9 H9, py_ppic B N a H = .inr (a9, H9) → py_hm (s 54) 0 H9) ∧ py_fr [54] py_T6 σ s)) by
          refine go_icmp_ne (tgt := 113) (pc := 106) dX8_readsPicture_106 (by decide) (fun c_106 => ?_) (fun c_106 => ?_)
          · refine go_iconst (v := nI 0) (pc := 113) dX8_readsPicture_113 (by decide) ?_
            have e9 := K106
            rw [py_b_f c_106] at e9
            exact e9
          · refine go_iconst (v := nI 1) (pc := 109) dX8_readsPicture_109 (by decide) ?_
            refine go_goto (tgt := 114) (pc := 110) dX8_readsPicture_110 (by decide) ?_
            have e9 := K106
            rw [py_b_t c_106] at e9
            exact e9
        refine go_iconst (v := nI 1) (pc := 114) dX8_readsPicture_114 (by decide) ?_
        refine go_cVi (pc := 115) dX8_readsPicture_115 (ev_takes (b := s5 47 11 = nI 4) (k := 1) ht5 h5r) lX8_117 YX8_takes VX8_takes rfl rfl rfl (by decide) rfl (Nat.le_of_ble_eq_true rfl) (fun s6 hs6 => ?_)
        have h6r : py_lr s6 B N ft (Sum.inl (a, 3) : py_Re Nat) := py_lr_sp rfl hs6.1
        have hf6 := hf5.tr hs6.2 (by decide) (by decide)
        have ht6 := py_tm_6 hf6 (by decide) ht
        refine go_pop (pc := 118) dX8_readsPicture_118 rfl ?_
        refine go_aload_n (pc := 119) dX8_readsPicture_119 rfl ?_
        refine go_cV (pc := 120) dX8_readsPicture_120 (ev_isWell hN h6r) lX8_107 YX8_isWell VX8_isWell rfl rfl rfl (by decide) rfl (Nat.le_of_ble_eq_true rfl) ?_
        refine go_if_eqB (tgt := 173) (pc := 123) dX8_readsPicture_123 (by decide) (fun c_123 => ?_) (fun c_123 => ?_)
        · have er : py_ppic B N a H = .inl (a, 3) := by unfold py_ppic; rw [if_neg (by omega), if_pos (by omega)]
          rw [er]
          exact go_retV (pc := 173) dX8_readsPicture_173 ⟨py_lr_sp rfl h6r, (fun a9 H9 z => nomatch z), hf6.wd (by decide) (by decide)⟩
        · exact absurd c_123 Bool.false_ne_true
      · omega
    · omega
