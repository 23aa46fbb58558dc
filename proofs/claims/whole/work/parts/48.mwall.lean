/-! contracts: the reference reads walls and pictures -/
theorem py_pw_1 {B : Nat → Nat} {N a : Nat} {H : Nat → Nat} (h : py_tk B N a ≠ 2) : py_pw B N a H = .inl (a, 1) := by
  unfold py_pw
  rw [py_num_1 h]
  rfl
theorem py_pw_2 {B : Nat → Nat} {N a : Nat} {H : Nat → Nat} (h : py_tk B N a = 2) (hn : ¬ (py_nv B N a ≤ H 3 - 1 ∧ py_cn (fun p => decide (H (16 + 4 * p) = py_nv B N a)) (H 12) < H 0)) : py_pw B N a H = .inl (a, 2) := by
  unfold py_pw
  rw [(py_num_t h).1]
  by_cases h1 : 0 ≤ py_nv B N a ∧ py_nv B N a ≤ H 3 - 1
  · rw [if_pos h1]
    show (if py_cn (fun p => decide (H (16 + 4 * p) = py_nv B N a)) (H 12) < H 0 then _ else _) = _
    rw [if_neg (fun z => hn ⟨h1.2, z⟩)]
  · rw [if_neg h1]
    rfl
theorem py_pw_t {B : Nat → Nat} {N a : Nat} {H : Nat → Nat} (h : py_tk B N a = 2) (hn : py_nv B N a ≤ H 3 - 1 ∧ py_cn (fun p => decide (H (16 + 4 * p) = py_nv B N a)) (H 12) < H 0) : py_pw B N a H = .inr (a + py_run B N a, py_nv B N a) := by
  unfold py_pw
  rw [(py_num_t h).1, if_pos ⟨Nat.zero_le _, hn.1⟩]
  show (if py_cn (fun p => decide (H (16 + 4 * p) = py_nv B N a)) (H 12) < H 0 then _ else _) = _
  rw [if_pos hn.2]
set_option maxHeartbeats 4000000 in
set_option maxRecDepth 100000 in
theorem ev_wallFigure {X : py_X} {σ : py_H} {α : Type} {B : Nat → Nat} {N : Nat} {ft : Int32} {r : py_Re α} (ht : py_tm σ B N) (h : py_lr σ B N ft r) {H : Nat → Nat} (hD : py_hm (σ 54) 0 H) (h3 : H 3 ≤ 4) (h31 : 1 ≤ H 3) (h12 : H 12 ≤ 5) (h0 : H 0 ≤ 5) (hpw : ∀ p, p < H 12 → H (16 + 4 * p) < 4) : py_Ev X 3 yX8_wallFigure cX8_wallFigure 1 (some .int) [.ref 47] σ (py_vs (some (.int (py_rv0 (py_bi r (fun a _ => py_pw B N a H))))) (fun s => py_lr s B N ft (py_bi r (fun a _ => py_pw B N a H)) ∧ py_fr [] py_T6 σ s)) := by
  refine py_ofI (own := RX8) YX8_wallFigure.2.2.2.2 rfl rfl (Nat.le_of_ble_eq_true rfl)  ?_
  show py_Go X RX8 cX8_wallFigure 1 3 0 [some (.ref 47)] [] σ (py_vs (some (.int (py_rv0 (py_bi r (fun a _ => py_pw B N a H))))) (fun s => py_lr s B N ft (py_bi r (fun a _ => py_pw B N a H)) ∧ py_fr [] py_T6 σ s))
  have hN := ht.2.1
  match r, h with
  | .inl e, h =>
    refine go_aload_n (pc := 0) dX8_wallFigure_0 rfl ?_
    refine go_cV (pc := 1) dX8_wallFigure_1 (ev_isWell hN h) lX8_107 YX8_isWell VX8_isWell rfl rfl rfl (by decide) rfl (Nat.le_of_ble_eq_true rfl) ?_
    refine go_if_eqB (tgt := 22) (pc := 4) dX8_wallFigure_4 (by decide) (fun c_4 => ?_) (fun c_4 => ?_)
    · refine go_aload_n (pc := 22) dX8_wallFigure_22 rfl ?_
      refine go_aload_n (pc := 23) dX8_wallFigure_23 rfl ?_
      refine go_getI (x := (σ 47 12)) (pc := 24) dX8_wallFigure_24 fX8_98 rfl rfl rfl ?_
      refine go_iconst (v := nI 0) (pc := 27) dX8_wallFigure_27 (by decide) ?_
      refine go_aload_n (pc := 28) dX8_wallFigure_28 rfl ?_
      refine go_getR (pc := 29) dX8_wallFigure_29 fX8_28 rfl rfl ?_
      refine go_iconst (v := nI 3) (pc := 32) dX8_wallFigure_32 (by decide) ?_
      refine go_aldN (x := (nI (H 3))) (pc := 33) dX8_wallFigure_33 rfl (by show 3 < 33; omega) (py_hm_at hD (show 3 = 3 by omega) (by omega)) ?_
      refine go_iconst (v := nI 1) (pc := 34) dX8_wallFigure_34 (by decide) ?_
      refine go_isub (pc := 35) dX8_wallFigure_35  ?_
      refine go_cS (pc := 36) dX8_wallFigure_36 ev_in lX8_59 YX8_in SX8_in rfl (by decide) rfl (Nat.le_of_ble_eq_true rfl) ?_
      refine go_if_eqB (tgt := 69) (pc := 39) dX8_wallFigure_39 (by decide) (fun c_39 => ?_) (fun c_39 => ?_)
      · refine go_iconst (v := nI 0) (pc := 69) dX8_wallFigure_69 (by decide) ?_
        refine go_iconst (v := nI 2) (pc := 70) dX8_wallFigure_70 (by decide) ?_
        refine go_cVi (pc := 71) dX8_wallFigure_71 (ev_takes (b := False) (k := 2) ht h) lX8_117 YX8_takes VX8_takes rfl rfl rfl (by decide) rfl (Nat.le_of_ble_eq_true rfl) (fun s1 hs1 => ?_)
        exact go_retI (pc := 74) dX8_wallFigure_74 rfl hs1
      · obtain ⟨v, hx9, hv, hvI, hvC⟩ := py_pi_of ((py_pi_w (by omega)).mp c_39)
        refine go_aload_n (pc := 42) dX8_wallFigure_42 rfl ?_
        refine go_getR (pc := 43) dX8_wallFigure_43 fX8_28 rfl rfl ?_
        refine go_aload_n (pc := 46) dX8_wallFigure_46 rfl ?_
        refine go_getI (x := (nI v)) (pc := 47) dX8_wallFigure_47 fX8_98 rfl rfl hx9 ?_
        refine go_cS (pc := 50) dX8_wallFigure_50 (ev_hangOn_54 hD h12 hpw (by omega)) lX8_127 YX8_hangOn SX8_hangOn rfl (by decide) rfl (Nat.le_of_ble_eq_true rfl) ?_
        refine go_cS (pc := 53) dX8_wallFigure_53 (ev_ones (Nat.lt_of_lt_of_le (py_bs_lt _ _) (py_p2 h12).2.2)) lX8_131 YX8_ones SX8_ones rfl (by decide) rfl (Nat.le_of_ble_eq_true rfl) ?_
        refine go_top (y := nI (py_cn (fun p => decide (H (16 + 4 * p) = v)) (H 12))) (by rw [py_pc_bs _ h12]) ?_
        have hct : py_cn (fun p => decide (H (16 + 4 * p) = v)) (H 12) ≤ H 12 := py_cn_le _ _
        refine go_aload_n (pc := 56) dX8_wallFigure_56 rfl ?_
        refine go_getR (pc := 57) dX8_wallFigure_57 fX8_28 rfl rfl ?_
        refine go_iconst (v := nI 0) (pc := 60) dX8_wallFigure_60 (by decide) ?_
        refine go_aldN (x := (nI (H 0))) (pc := 61) dX8_wallFigure_61 rfl (by show 0 < 33; omega) (py_hm_at hD (show 0 = 0 by omega) (by omega)) ?_
        refine go_icmp_geN (tgt := 69) (pc := 62) dX8_wallFigure_62 (by omega) (by omega) (by decide) (fun c_62 => ?_) (fun c_62 => ?_)
        · refine go_iconst (v := nI 0) (pc := 69) dX8_wallFigure_69 (by decide) ?_
          refine go_iconst (v := nI 2) (pc := 70) dX8_wallFigure_70 (by decide) ?_
          refine go_cVi (pc := 71) dX8_wallFigure_71 (ev_takes (b := False) (k := 2) ht h) lX8_117 YX8_takes VX8_takes rfl rfl rfl (by decide) rfl (Nat.le_of_ble_eq_true rfl) (fun s1 hs1 => ?_)
          exact go_retI (pc := 74) dX8_wallFigure_74 rfl hs1
        · refine go_iconst (v := nI 1) (pc := 65) dX8_wallFigure_65 (by decide) ?_
          refine go_goto (tgt := 70) (pc := 66) dX8_wallFigure_66 (by decide) ?_
          refine go_iconst (v := nI 2) (pc := 70) dX8_wallFigure_70 (by decide) ?_
          refine go_cVi (pc := 71) dX8_wallFigure_71 (ev_takes (b := True) (k := 2) ht h) lX8_117 YX8_takes VX8_takes rfl rfl rfl (by decide) rfl (Nat.le_of_ble_eq_true rfl) (fun s1 hs1 => ?_)
          exact go_retI (pc := 74) dX8_wallFigure_74 rfl hs1
    · exact absurd c_4 Bool.false_ne_true
  | .inr q, h =>
    refine go_aload_n (pc := 0) dX8_wallFigure_0 rfl ?_
    refine go_cV (pc := 1) dX8_wallFigure_1 (ev_isWell hN h) lX8_107 YX8_isWell VX8_isWell rfl rfl rfl (by decide) rfl (Nat.le_of_ble_eq_true rfl) ?_
    refine go_if_eqB (tgt := 22) (pc := 4) dX8_wallFigure_4 (by decide) (fun c_4 => ?_) (fun c_4 => ?_)
    · exact absurd rfl c_4
    · refine go_aload_n (pc := 7) dX8_wallFigure_7 rfl ?_
      refine go_getI (x := (nI (py_tk B N q.1))) (pc := 8) dX8_wallFigure_8 fX8_101 rfl rfl h.2.1.2.2.1 ?_
      refine go_iconst (v := nI 2) (pc := 11) dX8_wallFigure_11 (by decide) ?_
      have htk5 := py_tk_5 B N q.1
      refine go_icmp_eqN (tgt := 22) (pc := 12) dX8_wallFigure_12 (by omega) (by omega) (by decide) (fun c_12 => ?_) (fun c_12 => ?_)
      · have hnt := py_num_t (lo := 0) (hi := 0) c_12
        have hnv := py_nv_le (B := B) hN (show 0 < py_run B N q.1 by have z := py_tk_2.mp c_12; omega)
        have hnvI : (nI (py_nv B N q.1)).toInt = (py_nv B N q.1 : Int) := nI_toInt (by omega)
        refine go_aload_n (pc := 22) dX8_wallFigure_22 rfl ?_
        refine go_aload_n (pc := 23) dX8_wallFigure_23 rfl ?_
        refine go_getI (x := (nI (py_nv B N q.1))) (pc := 24) dX8_wallFigure_24 fX8_98 rfl rfl (by rw [h.2.1.2.2.2, hnt.2.2]) ?_
        refine go_iconst (v := nI 0) (pc := 27) dX8_wallFigure_27 (by decide) ?_
        refine go_aload_n (pc := 28) dX8_wallFigure_28 rfl ?_
        refine go_getR (pc := 29) dX8_wallFigure_29 fX8_28 rfl rfl ?_
        refine go_iconst (v := nI 3) (pc := 32) dX8_wallFigure_32 (by decide) ?_
        refine go_aldN (x := (nI (H 3))) (pc := 33) dX8_wallFigure_33 rfl (by show 3 < 33; omega) (py_hm_at hD (show 3 = 3 by omega) (by omega)) ?_
        refine go_iconst (v := nI 1) (pc := 34) dX8_wallFigure_34 (by decide) ?_
        refine go_isub (pc := 35) dX8_wallFigure_35  ?_
        refine go_cS (pc := 36) dX8_wallFigure_36 ev_in lX8_59 YX8_in SX8_in rfl (by decide) rfl (Nat.le_of_ble_eq_true rfl) ?_
        refine go_if_eqB (tgt := 69) (pc := 39) dX8_wallFigure_39 (by decide) (fun c_39 => ?_) (fun c_39 => ?_)
        · rw [py_pi_w (by omega)] at c_39
          refine go_iconst (v := nI 0) (pc := 69) dX8_wallFigure_69 (by decide) ?_
          refine go_iconst (v := nI 2) (pc := 70) dX8_wallFigure_70 (by decide) ?_
          refine go_cVi (pc := 71) dX8_wallFigure_71 (ev_takes (b := False) (k := 2) ht h) lX8_117 YX8_takes VX8_takes rfl rfl rfl (by decide) rfl (Nat.le_of_ble_eq_true rfl) (fun s1 hs1 => ?_)
          have er : py_bi (Sum.inr q : py_Re α) (fun a _ => py_pw B N a H) = .inl (q.1, 2) := py_pw_2 c_12 (by omega)
          rw [er]
          rw [py_tks_f (fun z => z)] at hs1
          exact go_retI (pc := 74) dX8_wallFigure_74 rfl hs1
        · have hin := (py_pi_w (by omega)).mp c_39
          refine go_aload_n (pc := 42) dX8_wallFigure_42 rfl ?_
          refine go_getR (pc := 43) dX8_wallFigure_43 fX8_28 rfl rfl ?_
          refine go_aload_n (pc := 46) dX8_wallFigure_46 rfl ?_
          refine go_getI (x := (nI (py_nv B N q.1))) (pc := 47) dX8_wallFigure_47 fX8_98 rfl rfl (by rw [h.2.1.2.2.2, hnt.2.2]) ?_
          refine go_cS (pc := 50) dX8_wallFigure_50 (ev_hangOn_54 hD h12 hpw (by omega)) lX8_127 YX8_hangOn SX8_hangOn rfl (by decide) rfl (Nat.le_of_ble_eq_true rfl) ?_
          refine go_cS (pc := 53) dX8_wallFigure_53 (ev_ones (Nat.lt_of_lt_of_le (py_bs_lt _ _) (py_p2 h12).2.2)) lX8_131 YX8_ones SX8_ones rfl (by decide) rfl (Nat.le_of_ble_eq_true rfl) ?_
          refine go_top (y := nI (py_cn (fun p => decide (H (16 + 4 * p) = py_nv B N q.1)) (H 12))) (by rw [py_pc_bs _ h12]) ?_
          have hct : py_cn (fun p => decide (H (16 + 4 * p) = py_nv B N q.1)) (H 12) ≤ H 12 := py_cn_le _ _
          refine go_aload_n (pc := 56) dX8_wallFigure_56 rfl ?_
          refine go_getR (pc := 57) dX8_wallFigure_57 fX8_28 rfl rfl ?_
          refine go_iconst (v := nI 0) (pc := 60) dX8_wallFigure_60 (by decide) ?_
          refine go_aldN (x := (nI (H 0))) (pc := 61) dX8_wallFigure_61 rfl (by show 0 < 33; omega) (py_hm_at hD (show 0 = 0 by omega) (by omega)) ?_
          refine go_icmp_geN (tgt := 69) (pc := 62) dX8_wallFigure_62 (by omega) (by omega) (by decide) (fun c_62 => ?_) (fun c_62 => ?_)
          · refine go_iconst (v := nI 0) (pc := 69) dX8_wallFigure_69 (by decide) ?_
            refine go_iconst (v := nI 2) (pc := 70) dX8_wallFigure_70 (by decide) ?_
            refine go_cVi (pc := 71) dX8_wallFigure_71 (ev_takes (b := False) (k := 2) ht h) lX8_117 YX8_takes VX8_takes rfl rfl rfl (by decide) rfl (Nat.le_of_ble_eq_true rfl) (fun s1 hs1 => ?_)
            have er : py_bi (Sum.inr q : py_Re α) (fun a _ => py_pw B N a H) = .inl (q.1, 2) := py_pw_2 c_12 (by omega)
            rw [er]
            rw [py_tks_f (fun z => z)] at hs1
            exact go_retI (pc := 74) dX8_wallFigure_74 rfl hs1
          · refine go_iconst (v := nI 1) (pc := 65) dX8_wallFigure_65 (by decide) ?_
            refine go_goto (tgt := 70) (pc := 66) dX8_wallFigure_66 (by decide) ?_
            refine go_iconst (v := nI 2) (pc := 70) dX8_wallFigure_70 (by decide) ?_
            refine go_cVi (pc := 71) dX8_wallFigure_71 (ev_takes (b := True) (k := 2) ht h) lX8_117 YX8_takes VX8_takes rfl rfl rfl (by decide) rfl (Nat.le_of_ble_eq_true rfl) (fun s1 hs1 => ?_)
            have er : py_bi (Sum.inr q : py_Re α) (fun a _ => py_pw B N a H) = .inr (q.1 + py_run B N q.1, py_nv B N q.1) := py_pw_t c_12 (by omega)
            rw [er]
            rw [py_tks_t trivial, hnt.2.1, hnt.2.2] at hs1
            exact go_retI (pc := 74) dX8_wallFigure_74 hnt.2.2 hs1
      · refine go_aload_n (pc := 15) dX8_wallFigure_15 rfl ?_
        refine go_iconst (v := nI 0) (pc := 16) dX8_wallFigure_16 (by decide) ?_
        refine go_iconst (v := nI 1) (pc := 17) dX8_wallFigure_17 (by decide) ?_
        refine go_cVi (pc := 18) dX8_wallFigure_18 (ev_takes (b := False) (k := 1) ht h) lX8_117 YX8_takes VX8_takes rfl rfl rfl (by decide) rfl (Nat.le_of_ble_eq_true rfl) (fun s1 hs1 => ?_)
        have er : py_bi (Sum.inr q : py_Re α) (fun a _ => py_pw B N a H) = .inl (q.1, 1) := py_pw_1 c_12
        rw [er]
        rw [py_tks_f (fun z => z)] at hs1
        exact go_retI (pc := 21) dX8_wallFigure_21 rfl hs1
theorem py_bi_i {α β : Type} (a : Nat) (v : α) (f : Nat → α → py_Re β) : py_bi (.inr (a, v)) f = f a v := rfl
theorem py_pwall_b {B : Nat → Nat} {N a : Nat} {H : Nat → Nat} (ha : a < N ∧ B a = 119) (h : H 3 < 4) : py_pwall B N a H = py_bi (py_num B N (a + 1) 0 9) (fun a2 l => py_bi (py_bi (py_chr B N a2 44) (fun b _ => py_num B N b 0 9)) (fun a3 d => py_bi (py_chr B N a3 59) (fun a4 _ => .inr (a4, py_aw H l d)))) := by
  unfold py_pwall
  rw [if_neg (by omega)]
  have e : py_chr B N a 119 = .inr (a + 1, 0) := by unfold py_chr; rw [if_pos ha]
  rw [e, py_bi_i]
  congr 1
  funext a2 l
  rw [py_bi_a]
theorem py_wl_sp (r2 : py_Re Nat) (f : Nat → py_Re Nat) (g : Nat → py_Re Nat) (mk : Nat → Nat → (Nat → Nat)) : py_sp (py_bi r2 (fun a2 l => py_bi (f a2) (fun a3 d => py_bi (g a3) (fun a4 _ => (.inr (a4, mk l d) : py_Re (Nat → Nat)))))) = py_sp (py_bi (py_bi r2 (fun a2 _ => f a2)) (fun a3 _ => g a3)) := by
  cases r2 with
  | inl e => rfl
  | inr q =>
    obtain ⟨a2, l⟩ := q
    rw [py_bi_i, py_bi_i]
    cases f a2 with
    | inl e => rfl
    | inr p =>
      obtain ⟨a3, d⟩ := p
      rw [py_bi_i, py_bi_i]
      cases g a3 with
      | inl e => rfl
      | inr u => rfl
theorem py_sp_ok {α β : Type} {r : py_Re α} {r2 : py_Re β} (e : py_sp r = py_sp r2) : py_isok r = py_isok r2 := by
  match r, r2, e with
  | .inl _, .inl _, _ => rfl
  | .inr _, .inr _, _ => rfl
theorem py_isok_r {α : Type} {a : Nat} {v : α} {r : py_Re α} (h : r = .inr (a, v)) : py_isok r = true := by rw [h]; rfl
theorem py_hm_aw {s : py_H} {H : Nat → Nat} {l d : Nat} (h3 : H 3 < 4) (h : py_hm (s 54) 0 H) : py_hm ((py_up (py_up (py_up s 54 (4 + (2 * (H 3))) (nI l)) 54 ((4 + (2 * (H 3))) + 1) (nI d)) 54 3 (nI (H 3 + 1))) 54) 0 (py_aw H l d) := by
  intro j hj
  have z := h j hj
  rw [Nat.zero_add] at z ⊢
  unfold py_aw
  by_cases e3 : j = 3
  · rw [if_pos e3, e3, py_up_s]
  · rw [if_neg e3, py_up_j _ _ _ e3]
    by_cases e5 : j = 4 + 2 * H 3 + 1
    · rw [if_neg (by omega), if_pos (by omega), e5, py_up_s]
    · rw [py_up_j _ _ _ e5]
      by_cases e4 : j = 4 + 2 * H 3
      · rw [if_pos e4, e4, py_up_s]
      · rw [py_up_j _ _ _ e4, if_neg e4, if_neg (by omega)]
        exact z
set_option maxHeartbeats 4000000 in
set_option maxRecDepth 100000 in
theorem ev_readsWall {X : py_X} {σ : py_H} {B : Nat → Nat} {N : Nat} {ft : Int32} {a : Nat} {H : Nat → Nat} (ht : py_tm σ B N) (h : py_lr σ B N ft (Sum.inr (a, H) : py_Re (Nat → Nat))) (hD : py_hm (σ 54) 0 H) (ha : a < N ∧ B a = 119) (h3 : H 3 ≤ 4) : py_Ev X 5 yX8_readsWall cX8_readsWall 4 none [.ref 47] σ (py_vs none (fun s => py_lr s B N ft (py_pwall B N a H) ∧ (∀ a9 H9, py_pwall B N a H = .inr (a9, H9) → py_hm (s 54) 0 H9) ∧ py_fr [54] py_T6 σ s)) := by
  refine py_ofV (own := RX8) YX8_readsWall.2.2.2.2 rfl rfl (Nat.le_of_ble_eq_true rfl)  ?_
  show py_Go X RX8 cX8_readsWall 4 5 0 [some (.ref 47), none, none, none] [] σ (py_vs none (fun s => py_lr s B N ft (py_pwall B N a H) ∧ (∀ a9 H9, py_pwall B N a H = .inr (a9, H9) → py_hm (s 54) 0 H9) ∧ py_fr [54] py_T6 σ s))
  have hN := ht.2.1
  have hz := py_tk_o (B := B) hN ha.1 (by omega)
  by_cases h34 : H 3 < 4
  · have ht0 := ht
    refine go_aload_n (pc := 0) dX8_readsWall_0 rfl ?_
    refine go_aload_n (pc := 1) dX8_readsWall_1 rfl ?_
    refine go_getR (pc := 2) dX8_readsWall_2 fX8_28 rfl rfl ?_
    refine go_iconst (v := nI 3) (pc := 5) dX8_readsWall_5 (by decide) ?_
    refine go_aldN (x := (nI (H 3))) (pc := 6) dX8_readsWall_6 rfl (by show 3 < 33; omega) (py_hm_at hD (show 3 = 3 by omega) (by omega)) ?_
    refine go_iconst (v := nI 4) (pc := 7) dX8_readsWall_7 (by decide) ?_
    refine go_icmp_geN (tgt := 15) (pc := 8) dX8_readsWall_8 (by omega) (by omega) (by decide) (fun c_8 => ?_) (fun c_8 => ?_)
    · omega
    · refine go_iconst (v := nI 1) (pc := 11) dX8_readsWall_11 (by decide) ?_
      refine go_goto (tgt := 16) (pc := 12) dX8_readsWall_12 (by decide) ?_
      refine go_iconst (v := nI 3) (pc := 16) dX8_readsWall_16 (by decide) ?_
      refine go_cVi (pc := 17) dX8_readsWall_17 (ev_takes (b := True) (k := 3) ht h) lX8_117 YX8_takes VX8_takes rfl rfl rfl (by decide) rfl (Nat.le_of_ble_eq_true rfl) (fun s1 hs1 => ?_)
      have h1 : py_lr s1 B N ft (Sum.inr (a + 1, 0) : py_Re Nat) := py_lr_sp (by rw [py_tks_t trivial, hz.2.1]; rfl) hs1.1
      have hf1 := hs1.2
      have ht1 := py_tm_6 hf1 (by decide) ht
      refine go_pop (pc := 20) dX8_readsWall_20 rfl ?_
      refine go_iconst (v := nI 4) (pc := 21) dX8_readsWall_21 (by decide) ?_
      refine go_iconst (v := nI 2) (pc := 22) dX8_readsWall_22 (by decide) ?_
      refine go_aload_n (pc := 23) dX8_readsWall_23 rfl ?_
      refine go_getR (pc := 24) dX8_readsWall_24 fX8_28 rfl rfl ?_
      refine go_iconst (v := nI 3) (pc := 27) dX8_readsWall_27 (by decide) ?_
      refine go_aldN (x := (nI (H 3))) (pc := 28) dX8_readsWall_28 rfl (by show 3 < 33; omega) (py_hm_at (show py_hm (s1 54) 0 H by rw [hf1.at 54 (by decide) (by decide)]; exact hD) (show 3 = 3 by omega) (by omega)) ?_
      refine go_iconst (v := nI 4) (pc := 29) dX8_readsWall_29 (by decide) ?_
      refine go_icmp_geN (tgt := 42) (pc := 30) dX8_readsWall_30 (by omega) (by omega) (by decide) (fun c_30 => ?_) (fun c_30 => ?_)
      · omega
      · refine go_aload_n (pc := 33) dX8_readsWall_33 rfl ?_
        refine go_getR (pc := 34) dX8_readsWall_34 fX8_28 rfl rfl ?_
        refine go_iconst (v := nI 3) (pc := 37) dX8_readsWall_37 (by decide) ?_
        refine go_aldN (x := (nI (H 3))) (pc := 38) dX8_readsWall_38 rfl (by show 3 < 33; omega) (py_hm_at (show py_hm (s1 54) 0 H by rw [hf1.at 54 (by decide) (by decide)]; exact hD) (show 3 = 3 by omega) (by omega)) ?_
        refine go_goto (tgt := 43) (pc := 39) dX8_readsWall_39 (by decide) ?_
        refine go_imulN (pc := 43) dX8_readsWall_43  ?_
        refine go_iaddN (pc := 44) dX8_readsWall_44  ?_
        refine go_istore_n (pc := 45) dX8_readsWall_45 (by decide) rfl ?_
        refine go_aload_n (pc := 46) dX8_readsWall_46 rfl ?_
        refine go_iconst (v := nI 0) (pc := 47) dX8_readsWall_47 (by decide) ?_
        refine go_bipush (v := nI 9) (pc := 48) dX8_readsWall_48 (by decide) ?_
        refine go_cVi (pc := 50) dX8_readsWall_50 (ev_figure ht1 h1 (by decide) (by decide)) lX8_121 YX8_figure VX8_figure rfl rfl rfl (by decide) rfl (Nat.le_of_ble_eq_true rfl) (fun s2 hs2 => ?_)
        have h2 : py_lr s2 B N ft (py_num B N (a + 1) 0 9) := hs2.1
        have hf2 := hf1.tr hs2.2 (by decide) (by decide)
        have ht2 := py_tm_6 hf2 (by decide) ht
        refine go_istore_n (pc := 53) dX8_readsWall_53 (by decide) rfl ?_
        refine go_aload_n (pc := 54) dX8_readsWall_54 rfl ?_
        refine go_iconst (v := nI 0) (pc := 55) dX8_readsWall_55 (by decide) ?_
        refine go_bipush (v := nI 9) (pc := 56) dX8_readsWall_56 (by decide) ?_
        refine go_cVi (pc := 58) dX8_readsWall_58 (ev_next2 ht2 h2 (by decide) (by decide)) lX8_124 YX8_next VX8_next rfl rfl rfl (by decide) rfl (Nat.le_of_ble_eq_true rfl) (fun s3 hs3 => ?_)
        have h3 : py_lr s3 B N ft (py_bi (py_num B N (a + 1) 0 9) (fun a _ => py_bi (py_chr B N a 44) (fun a _ => py_num B N a 0 9))) := hs3.1
        have hf3 := hf2.tr hs3.2 (by decide) (by decide)
        have ht3 := py_tm_6 hf3 (by decide) ht
        refine go_istore_n (pc := 61) dX8_readsWall_61 (by decide) rfl ?_
        refine go_aload_n (pc := 62) dX8_readsWall_62 rfl ?_
        refine go_aload_n (pc := 63) dX8_readsWall_63 rfl ?_
        refine go_getI (x := (s3 47 11)) (pc := 64) dX8_readsWall_64 fX8_101 rfl rfl rfl ?_
        refine go_iconst (v := nI 4) (pc := 67) dX8_readsWall_67 (by decide) ?_
        suffices K68 : py_Go X RX8 cX8_readsWall 4 5 76 [some (.ref 47), some (.int (nI (4 + (2 * (H 3))))), some (.int (py_rv0 (py_num B N (a + 1) 0 9))), some (.int (py_rv0 (py_bi (py_num B N (a + 1) 0 9) (fun a _ => py_bi (py_chr B N a 44) (fun a _ => py_num B N a 0 9)))))] [.int (py_b ((s3 47 11) = (nI 4))), .ref 47] s3 (py_vs none (fun s => py_lr s B N ft (py_pwall B N a H) ∧ (∀ a9 H9, py_pwall B N a H = .inr (a9, H9) → py_hm (s 54) 0 H9) ∧ py_fr [54] py_T6 σ s)) by
          refine go_icmp_ne (tgt := 75) (pc := 68) dX8_readsWall_68 (by decide) (fun c_68 => ?_) (fun c_68 => ?_)
          · refine go_iconst (v := nI 0) (pc := 75) dX8_readsWall_75 (by decide) ?_
            have e9 := K68
            rw [py_b_f c_68] at e9
            exact e9
          · refine go_iconst (v := nI 1) (pc := 71) dX8_readsWall_71 (by decide) ?_
            refine go_goto (tgt := 76) (pc := 72) dX8_readsWall_72 (by decide) ?_
            have e9 := K68
            rw [py_b_t c_68] at e9
            exact e9
        refine go_iconst (v := nI 1) (pc := 76) dX8_readsWall_76 (by decide) ?_
        refine go_cVi (pc := 77) dX8_readsWall_77 (ev_takes (b := s3 47 11 = nI 4) (k := 1) ht3 h3) lX8_117 YX8_takes VX8_takes rfl rfl rfl (by decide) rfl (Nat.le_of_ble_eq_true rfl) (fun s4 hs4 => ?_)
        have h4 : py_lr s4 B N ft (py_bi (py_bi (py_num B N (a + 1) 0 9) (fun a _ => py_bi (py_chr B N a 44) (fun a _ => py_num B N a 0 9))) (fun a _ => py_chr B N a 59)) := py_lr_sp (py_tks_c (c := 59) hN (Or.inr ⟨rfl, rfl⟩) h3) hs4.1
        have hf4 := hf3.tr hs4.2 (by decide) (by decide)
        have hsp : py_sp (py_pwall B N a H) = py_sp (py_bi (py_bi (py_num B N (a + 1) 0 9) (fun a _ => py_bi (py_chr B N a 44) (fun a _ => py_num B N a 0 9))) (fun a _ => py_chr B N a 59)) := by rw [py_pwall_b ha h34]; exact py_wl_sp _ _ _ _
        refine go_pop (pc := 80) dX8_readsWall_80 rfl ?_
        refine go_aload_n (pc := 81) dX8_readsWall_81 rfl ?_
        refine go_cV (pc := 82) dX8_readsWall_82 (ev_isWell hN h4) lX8_107 YX8_isWell VX8_isWell rfl rfl rfl (by decide) rfl (Nat.le_of_ble_eq_true rfl) ?_
        refine go_if_eqB (tgt := 114) (pc := 85) dX8_readsWall_85 (by decide) (fun c_85 => ?_) (fun c_85 => ?_)
        · exact go_retV (pc := 114) dX8_readsWall_114 ⟨py_lr_sp hsp.symm h4, (fun a9 H9 z => absurd ((py_sp_ok hsp).symm.trans (py_isok_r z)) c_85), hf4.wd (by decide) (by decide)⟩
        · obtain ⟨a4, v4, hr4⟩ := py_ok_t c_85
          obtain ⟨a3, d, hr3, hc4⟩ := py_bi_r hr4
          obtain ⟨a2, l, hr2, hc3⟩ := py_bi_r hr3
          have el : py_rv0 (py_num B N (a + 1) 0 9) = nI l := by rw [hr2]; rfl
          have ed : py_rv0 (py_bi (py_num B N (a + 1) 0 9) (fun a _ => py_bi (py_chr B N a 44) (fun a _ => py_num B N a 0 9))) = nI d := by rw [hr3]; rfl
          rw [el, ed]
          have hD4 : py_hm (s4 54) 0 H := by rw [hf4.at 54 (by decide) (by decide)]; exact hD
          refine go_aload_n (pc := 88) dX8_readsWall_88 rfl ?_
          refine go_getR (pc := 89) dX8_readsWall_89 fX8_28 rfl rfl ?_
          refine go_iload_n (pc := 92) dX8_readsWall_92 rfl ?_
          refine go_iload_n (pc := 93) dX8_readsWall_93 rfl ?_
          refine go_astN (pc := 94) dX8_readsWall_94 rfl (by show 4 + (2 * (H 3)) < 33; omega) ?_
          refine go_aload_n (pc := 95) dX8_readsWall_95 rfl ?_
          refine go_getR (pc := 96) dX8_readsWall_96 fX8_28 rfl rfl ?_
          refine go_iload_n (pc := 99) dX8_readsWall_99 rfl ?_
          refine go_iconst (v := nI 1) (pc := 100) dX8_readsWall_100 (by decide) ?_
          refine go_iaddN (pc := 101) dX8_readsWall_101  ?_
          refine go_iload_n (pc := 102) dX8_readsWall_102 rfl ?_
          refine go_astN (pc := 103) dX8_readsWall_103 rfl (by show (4 + (2 * (H 3))) + 1 < 33; omega) ?_
          refine go_aload_n (pc := 104) dX8_readsWall_104 rfl ?_
          refine go_getR (pc := 105) dX8_readsWall_105 fX8_28 rfl rfl ?_
          refine go_iconst (v := nI 3) (pc := 108) dX8_readsWall_108 (by decide) ?_
          refine go_dup2 (pc := 109) dX8_readsWall_109 rfl rfl ?_
          refine go_aldN (x := (nI (H 3))) (pc := 110) dX8_readsWall_110 rfl (by show 3 < 33; omega) (by rw [py_up_j _ _ _ (by omega), py_up_j _ _ _ (by omega)]; exact py_hm_at hD4 (show 3 = 3 from rfl) (by decide)) ?_
          refine go_iconst (v := nI 1) (pc := 111) dX8_readsWall_111 (by decide) ?_
          refine go_iaddN (pc := 112) dX8_readsWall_112  ?_
          refine go_astN (pc := 113) dX8_readsWall_113 rfl (by show 3 < 33; omega) ?_
          have er : py_pwall B N a H = .inr (a4, py_aw H l d) := by rw [py_pwall_b ha h34, hr2, py_bi_i, hc3, py_bi_i, hc4]; rfl
          have hfu : py_fr [54] [] s4 (py_up (py_up (py_up s4 54 (4 + (2 * (H 3))) ((nI l))) 54 ((4 + (2 * (H 3))) + 1) ((nI d))) 54 3 ((nI ((H 3) + 1)))) := (((py_fr.rf [54] [] s4).up (by decide) _).up (by decide) _).up (by decide) _
          have hff := (hf4.wd (S := [54]) (T := py_T6) (by decide) (by decide)).tr hfu (by decide) (by decide)
          have h9 : py_lr (py_up (py_up (py_up s4 54 (4 + (2 * (H 3))) ((nI l))) 54 ((4 + (2 * (H 3))) + 1) ((nI d))) 54 3 ((nI ((H 3) + 1)))) B N ft (py_pwall B N a H) := by
            have z := py_lr_sp hsp.symm h4
            rw [er] at z ⊢
            have e47 : (py_up (py_up (py_up s4 54 (4 + (2 * (H 3))) ((nI l))) 54 ((4 + (2 * (H 3))) + 1) ((nI d))) 54 3 ((nI ((H 3) + 1)))) 47 = s4 47 := hfu.at 47 (by decide) (by decide)
            unfold py_lr py_lx at z ⊢
            rw [e47]
            exact z
          exact go_retV (pc := 114) dX8_readsWall_114 ⟨h9, (fun a9 H9 z => by rw [er] at z; injection z with z; injection z with z1 z2; subst z2; exact py_hm_aw h34 hD4), hff⟩
  · have ht0 := ht
    refine go_aload_n (pc := 0) dX8_readsWall_0 rfl ?_
    refine go_aload_n (pc := 1) dX8_readsWall_1 rfl ?_
    refine go_getR (pc := 2) dX8_readsWall_2 fX8_28 rfl rfl ?_
    refine go_iconst (v := nI 3) (pc := 5) dX8_readsWall_5 (by decide) ?_
    refine go_aldN (x := (nI (H 3))) (pc := 6) dX8_readsWall_6 rfl (by show 3 < 33; omega) (py_hm_at hD (show 3 = 3 by omega) (by omega)) ?_
    refine go_iconst (v := nI 4) (pc := 7) dX8_readsWall_7 (by decide) ?_
    refine go_icmp_geN (tgt := 15) (pc := 8) dX8_readsWall_8 (by omega) (by omega) (by decide) (fun c_8 => ?_) (fun c_8 => ?_)
    · refine go_iconst (v := nI 0) (pc := 15) dX8_readsWall_15 (by decide) ?_
      refine go_iconst (v := nI 3) (pc := 16) dX8_readsWall_16 (by decide) ?_
      refine go_cVi (pc := 17) dX8_readsWall_17 (ev_takes (b := False) (k := 3) ht h) lX8_117 YX8_takes VX8_takes rfl rfl rfl (by decide) rfl (Nat.le_of_ble_eq_true rfl) (fun s1 hs1 => ?_)
      have h1 : py_lr s1 B N ft (Sum.inl (a, 3) : py_Re Nat) := py_lr_sp (by rw [py_tks_f (fun z => z)]; rfl) hs1.1
      have hf1 := hs1.2
      have ht1 := py_tm_6 hf1 (by decide) ht
      refine go_pop (pc := 20) dX8_readsWall_20 rfl ?_
      refine go_iconst (v := nI 4) (pc := 21) dX8_readsWall_21 (by decide) ?_
      refine go_iconst (v := nI 2) (pc := 22) dX8_readsWall_22 (by decide) ?_
      refine go_aload_n (pc := 23) dX8_readsWall_23 rfl ?_
      refine go_getR (pc := 24) dX8_readsWall_24 fX8_28 rfl rfl ?_
      refine go_iconst (v := nI 3) (pc := 27) dX8_readsWall_27 (by decide) ?_
      refine go_aldN (x := (nI (H 3))) (pc := 28) dX8_readsWall_28 rfl (by show 3 < 33; omega) (py_hm_at (show py_hm (s1 54) 0 H by rw [hf1.at 54 (by decide) (by decide)]; exact hD) (show 3 = 3 by omega) (by omega)) ?_
      refine go_iconst (v := nI 4) (pc := 29) dX8_readsWall_29 (by decide) ?_
      refine go_icmp_geN (tgt := 42) (pc := 30) dX8_readsWall_30 (by omega) (by omega) (by decide) (fun c_30 => ?_) (fun c_30 => ?_)
      · refine go_iconst (v := nI 0) (pc := 42) dX8_readsWall_42 (by decide) ?_
        refine go_imulN (pc := 43) dX8_readsWall_43  ?_
        refine go_iaddN (pc := 44) dX8_readsWall_44  ?_
        refine go_istore_n (pc := 45) dX8_readsWall_45 (by decide) rfl ?_
        refine go_aload_n (pc := 46) dX8_readsWall_46 rfl ?_
        refine go_iconst (v := nI 0) (pc := 47) dX8_readsWall_47 (by decide) ?_
        refine go_bipush (v := nI 9) (pc := 48) dX8_readsWall_48 (by decide) ?_
        refine go_cVi (pc := 50) dX8_readsWall_50 (ev_figure ht1 h1 (by decide) (by decide)) lX8_121 YX8_figure VX8_figure rfl rfl rfl (by decide) rfl (Nat.le_of_ble_eq_true rfl) (fun s2 hs2 => ?_)
        have h2 : py_lr s2 B N ft (Sum.inl (a, 3) : py_Re Nat) := hs2.1
        have hf2 := hf1.tr hs2.2 (by decide) (by decide)
        have ht2 := py_tm_6 hf2 (by decide) ht
        refine go_istore_n (pc := 53) dX8_readsWall_53 (by decide) rfl ?_
        refine go_aload_n (pc := 54) dX8_readsWall_54 rfl ?_
        refine go_iconst (v := nI 0) (pc := 55) dX8_readsWall_55 (by decide) ?_
        refine go_bipush (v := nI 9) (pc := 56) dX8_readsWall_56 (by decide) ?_
        refine go_cVi (pc := 58) dX8_readsWall_58 (ev_next2 ht2 h2 (by decide) (by decide)) lX8_124 YX8_next VX8_next rfl rfl rfl (by decide) rfl (Nat.le_of_ble_eq_true rfl) (fun s3 hs3 => ?_)
        have h3 : py_lr s3 B N ft (Sum.inl (a, 3) : py_Re Nat) := hs3.1
        have hf3 := hf2.tr hs3.2 (by decide) (by decide)
        have ht3 := py_tm_6 hf3 (by decide) ht
        refine go_istore_n (pc := 61) dX8_readsWall_61 (by decide) rfl ?_
        refine go_aload_n (pc := 62) dX8_readsWall_62 rfl ?_
        refine go_aload_n (pc := 63) dX8_readsWall_63 rfl ?_
        refine go_getI (x := (s3 47 11)) (pc := 64) dX8_readsWall_64 fX8_101 rfl rfl rfl ?_
        refine go_iconst (v := nI 4) (pc := 67) dX8_readsWall_67 (by decide) ?_
        suffices K68 : py_Go X RX8 cX8_readsWall 4 5 76 [some (.ref 47), some (.int (nI (4 + (2 * 0)))), some (.int (nI 0)), some (.int (nI 0))] [.int (py_b ((s3 47 11) = (nI 4))), .ref 47] s3 (py_vs none (fun s => py_lr s B N ft (py_pwall B N a H) ∧ (∀ a9 H9, py_pwall B N a H = .inr (a9, H9) → py_hm (s 54) 0 H9) ∧ py_fr [54] py_T6 σ s)) by
          refine go_icmp_ne (tgt := 75) (pc := 68) dX8_readsWall_68 (by decide) (fun c_68 => ?_) (fun c_68 => ?_)
          · refine go_iconst (v := nI 0) (pc := 75) dX8_readsWall_75 (by decide) ?_
            have e9 := K68
            rw [py_b_f c_68] at e9
            exact e9
          · refine go_iconst (v := nI 1) (pc := 71) dX8_readsWall_71 (by decide) ?_
            refine go_goto (tgt := 76) (pc := 72) dX8_readsWall_72 (by decide) ?_
            have e9 := K68
            rw [py_b_t c_68] at e9
            exact e9
        refine go_iconst (v := nI 1) (pc := 76) dX8_readsWall_76 (by decide) ?_
        refine go_cVi (pc := 77) dX8_readsWall_77 (ev_takes (b := s3 47 11 = nI 4) (k := 1) ht3 h3) lX8_117 YX8_takes VX8_takes rfl rfl rfl (by decide) rfl (Nat.le_of_ble_eq_true rfl) (fun s4 hs4 => ?_)
        have h4 : py_lr s4 B N ft (Sum.inl (a, 3) : py_Re Nat) := py_lr_sp rfl hs4.1
        have hf4 := hf3.tr hs4.2 (by decide) (by decide)
        refine go_pop (pc := 80) dX8_readsWall_80 rfl ?_
        refine go_aload_n (pc := 81) dX8_readsWall_81 rfl ?_
        refine go_cV (pc := 82) dX8_readsWall_82 (ev_isWell hN h4) lX8_107 YX8_isWell VX8_isWell rfl rfl rfl (by decide) rfl (Nat.le_of_ble_eq_true rfl) ?_
        refine go_if_eqB (tgt := 114) (pc := 85) dX8_readsWall_85 (by decide) (fun c_85 => ?_) (fun c_85 => ?_)
        · have er : py_pwall B N a H = .inl (a, 3) := by unfold py_pwall; rw [if_pos ⟨ha, by omega⟩]
          rw [er]
          exact go_retV (pc := 114) dX8_readsWall_114 ⟨py_lr_sp rfl h4, (fun a9 H9 z => nomatch z), hf4.wd (by decide) (by decide)⟩
        · exact absurd c_85 Bool.false_ne_true
      · omega
    · omega
