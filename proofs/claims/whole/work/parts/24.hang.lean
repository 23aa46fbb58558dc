/-! contracts: hanging, the class's way -/
/-- what is left of p behind d years, were it on wall w -/
def py_lw (H : Nat → Nat) (d p w : Nat) : Nat := H (15 + 4 * p) - py_fs (H (13 + 4 * p)) (H (14 + 4 * p)) (H (4 + 2 * w)) (H (5 + 2 * w)) (H 2) d
theorem py_lw_le {H : Nat → Nat} (hw : py_wf H) {d p w : Nat} (hp : p < H 12) : py_lw H d p w ≤ 60 := Nat.le_trans (Nat.sub_le _ _) (hw.2.2.2.2.2.2.2.2.1 p hp).2.2.2.2.1
abbrev py_B : Type := Option (Nat × Nat × (Nat → Nat))
def py_wg (B : py_B) (l c : Nat) (tw : Nat → Nat) : py_B := match B with
  | none => some (l, c, tw)
  | some q => if q.1 < l ∨ (q.1 = l ∧ q.2.1 < c) then some (l, c, tw) else some q
def py_lp (g : Nat → py_B → py_B) : Nat → py_B → py_B
  | 0, B => B
  | n + 1, B => g n (py_lp g n B)
def py_hf (H : Nat → Nat) (d : Nat) : Nat → Nat → (Nat → Nat) → (Nat → Nat) → Nat → Nat → py_B → py_B
  | 0, _, _, tw, l, c, B => py_wg B l c tw
  | r + 1, p, cr, tw, l, c, B => py_lp (fun w B => if cr w < H 0 then py_hf H d r (p + 1) (va_up cr w (cr w + 1)) (va_up tw p w) (l + (if 0 < py_lw H d p w then 1 else 0)) (c + py_lw H d p w) B else B) (H 3) B
def py_rb (σ : py_H) (n : Nat) (B : py_B) : Prop := match B with
  | none => σ 37 7 = -1 ∧ σ 37 8 = -1
  | some q => σ 37 7 = nI q.1 ∧ σ 37 8 = nI q.2.1 ∧ q.1 ≤ 5 ∧ q.2.1 ≤ 300 ∧ ∀ i, i < n → σ 43 i = nI (q.2.2 i)
theorem py_ol_fr {s : py_H} {K S C L D Y j : Nat} {v : Int32} (h : py_ol s K S C L D Y) : py_ol (py_up s 40 j v) K S C L D Y := by
  unfold py_ol
  rw [py_up_k _ _ _ (by decide)]
  exact h
set_option maxHeartbeats 4000000 in
set_option maxRecDepth 100000 in
theorem ev_foretellAll {X : py_X} {σ : py_H} {H : Nat → Nat} (hc : py_hd σ 7 H) (hw : py_wf H) {n : Nat} (hn : n ≤ 60) : py_Ev X 4 yX5_foretellAllWalls cX5_foretellAllWalls 5 none [.ref 37, .ref 7, .int (nI n)] σ (py_vs none (fun s => (∀ p, p < H 12 → ∀ q, q < H 3 → s 40 (p * 4 + q) = nI (py_lw H n p q)) ∧ py_fr [38, 40] [] σ s)) := by
  obtain ⟨w0, w1, w2, w3, w12, w03, w00, wW, wP, wR⟩ := id hw
  refine py_ofV (own := RX5) YX5_foretellAllWalls.2.2.2.2 rfl rfl (Nat.le_of_ble_eq_true rfl)  ?_
  show py_Go X RX5 cX5_foretellAllWalls 5 4 0 [some (.ref 37), some (.ref 7), some (.int (nI n)), none, none] [] σ (py_vs none (fun s => (∀ p, p < H 12 → ∀ q, q < H 3 → s 40 (p * 4 + q) = nI (py_lw H n p q)) ∧ py_fr [38, 40] [] σ s))
  have loop : ∀ i, i ≤ H 12 → ∀ s, py_fr [38, 40] [] σ s → (∀ p, p < i → ∀ q, q < H 3 → s 40 (p * 4 + q) = nI (py_lw H n p q)) → py_Go X RX5 cX5_foretellAllWalls 5 4 2 [some (.ref 37), some (.ref 7), some (.int (nI n)), some (.int (nI i)), none] [] s (py_vs none (fun s => (∀ p, p < H 12 → ∀ q, q < H 3 → s 40 (p * 4 + q) = nI (py_lw H n p q)) ∧ py_fr [38, 40] [] σ s)) := by
    refine py_loop _ (H 12) (fun i hi ih s hs hold => ?_)
    have hcs := py_hd_fr hs (by decide) (by decide) hc
    refine go_iload_n (pc := 2) dX5_foretellAllWalls_2 rfl ?_
    refine go_aload_n (pc := 3) dX5_foretellAllWalls_3 rfl ?_
    refine go_getI (x := (nI (H 12))) (pc := 4) dX5_foretellAllWalls_4 fX5_37 rfl rfl hcs.2.2.2.2.1 ?_
    refine go_icmp_geN (tgt := 72) (pc := 7) dX5_foretellAllWalls_7 (by omega) (by omega) (by decide) (fun c_7 => ?_) (fun c_7 => ?_)
    · exact go_retV (pc := 72) dX5_foretellAllWalls_72 ⟨fun p hp q hq => hold p (by omega) q hq, hs⟩
    · refine go_aload_n (pc := 10) dX5_foretellAllWalls_10 rfl ?_
      refine go_getR (pc := 11) dX5_foretellAllWalls_11 fX5_12 rfl rfl ?_
      refine go_aload_n (pc := 14) dX5_foretellAllWalls_14 rfl ?_
      refine go_iload_n (pc := 15) dX5_foretellAllWalls_15 rfl ?_
      refine go_cVv (pc := 16) dX5_foretellAllWalls_16 (ev_takeFrom hcs hw c_7) lX5_53 YX3_takeFrom VX3_takeFrom rfl rfl rfl (by decide) rfl (Nat.le_of_ble_eq_true rfl) (fun s1 e1 => ?_)
      obtain ⟨e2, e3⟩ := e1
      have hs1 := hs.tr e3 (by decide) (by decide)
      have hq := wP i c_7
      have hbd := py_bd_of hw c_7
      have inner : ∀ k, k ≤ H 3 → ∀ s, (∃ L9 D9, py_ol s (H (13 + 4 * i)) (H (14 + 4 * i)) (H (15 + 4 * i)) L9 D9 (H 2)) → py_fr [38, 40] [] σ s → (∀ p, p < i → ∀ q, q < H 3 → s 40 (p * 4 + q) = nI (py_lw H n p q)) → (∀ q, q < k → s 40 (i * 4 + q) = nI (py_lw H n i q)) → py_Go X RX5 cX5_foretellAllWalls 5 4 22 [some (.ref 37), some (.ref 7), some (.int (nI n)), some (.int (nI i)), some (.int (nI k))] [] s (py_vs none (fun s => (∀ p, p < H 12 → ∀ q, q < H 3 → s 40 (p * 4 + q) = nI (py_lw H n p q)) ∧ py_fr [38, 40] [] σ s)) := by
        refine py_loop _ (H 3) (fun k hk ihk s hox hs hold hrow => ?_)
        obtain ⟨L9, D9, ho⟩ := hox
        have hcs2 := py_hd_fr hs (by decide) (by decide) hc
        refine go_iload (pc := 22) dX5_foretellAllWalls_22 rfl ?_
        refine go_aload_n (pc := 24) dX5_foretellAllWalls_24 rfl ?_
        refine go_getI (x := (nI (H 3))) (pc := 25) dX5_foretellAllWalls_25 fX5_81 rfl rfl hcs2.2.2.2.1 ?_
        refine go_icmp_geN (tgt := 66) (pc := 28) dX5_foretellAllWalls_28 (by omega) (by omega) (by decide) (fun c_28 => ?_) (fun c_28 => ?_)
        · refine go_iincN (c := 1) (pc := 66) dX5_foretellAllWalls_66 rfl (by decide) (by decide) rfl ?_
          refine go_goto (tgt := 2) (pc := 69) dX5_foretellAllWalls_69 (by decide) ?_
          refine go_mask [true, true, true, true, false] rfl (ih c_7 s hs ?_)
          intro p hp q hq2
          by_cases hpi : p = i
          · subst hpi; exact hrow q (by omega)
          · exact hold p (by omega) q hq2
        · refine go_aload_n (pc := 31) dX5_foretellAllWalls_31 rfl ?_
          refine go_getR (pc := 32) dX5_foretellAllWalls_32 fX5_12 rfl rfl ?_
          refine go_aload_n (pc := 35) dX5_foretellAllWalls_35 rfl ?_
          refine go_iload (pc := 36) dX5_foretellAllWalls_36 rfl ?_
          refine go_cVv (pc := 38) dX5_foretellAllWalls_38 (ev_takeWall hcs2 hw c_28) lX5_84 YX3_takeWall VX3_takeWall rfl rfl rfl (by decide) rfl (Nat.le_of_ble_eq_true rfl) (fun s2 f1 => ?_)
          subst f1
          have ho2 := (ho.k3 (H (4 + 2 * k))).k4 (H (5 + 2 * k))
          have hs2 := (hs.up (k := 38) (j := 3) (by decide) (nI (H (4 + 2 * k)))).up (k := 38) (j := 4) (by decide) (nI (H (5 + 2 * k)))
          have hwi := wW k c_28
          refine go_aload_n (pc := 41) dX5_foretellAllWalls_41 rfl ?_
          refine go_getR (pc := 42) dX5_foretellAllWalls_42 fX5_22 rfl rfl ?_
          refine go_iload_n (pc := 45) dX5_foretellAllWalls_45 rfl ?_
          refine go_iconst (v := nI 4) (pc := 46) dX5_foretellAllWalls_46 (by decide) ?_
          refine go_imulN (pc := 47) dX5_foretellAllWalls_47  ?_
          refine go_iload (pc := 48) dX5_foretellAllWalls_48 rfl ?_
          refine go_iaddN (pc := 50) dX5_foretellAllWalls_50  ?_
          refine go_aload_n (pc := 51) dX5_foretellAllWalls_51 rfl ?_
          refine go_getR (pc := 52) dX5_foretellAllWalls_52 fX5_12 rfl rfl ?_
          refine go_iload_n (pc := 55) dX5_foretellAllWalls_55 rfl ?_
          refine go_cV (pc := 56) dX5_foretellAllWalls_56 (ev_cellsBehind ho2 ⟨hbd.1, hbd.2.1, hwi.1, hwi.2, hbd.2.2.2.2⟩ (by omega) hq.2.1 hq.2.2.2.2.1) lX5_61 YX3_cellsBehind VX3_cellsBehind rfl rfl rfl (by decide) rfl (Nat.le_of_ble_eq_true rfl) ?_
          refine go_top (y := (nI (py_lw H n i k))) rfl ?_
          refine go_astN (pc := 59) dX5_foretellAllWalls_59 rfl (by show (i * 4) + k < 20; omega) ?_
          refine go_iincN (c := 1) (pc := 60) dX5_foretellAllWalls_60 rfl (by decide) (by decide) rfl ?_
          refine go_goto (tgt := 22) (pc := 63) dX5_foretellAllWalls_63 (by decide) ?_
          refine ihk c_28 _ ⟨_, _, (py_ol_fr ho2 : py_ol (py_up (py_up (py_up s 38 3 (nI (H (4 + 2 * k)))) 38 4 (nI (H (5 + 2 * k)))) 40 (i * 4 + k) (nI (py_lw H n i k))) _ _ _ _ _ _)⟩ (hs2.up (by decide) _) ?_ ?_
          · intro p hp q hq2
            rw [py_up_j _ _ _ (by omega), py_up_k _ _ _ (by decide), py_up_k _ _ _ (by decide)]
            exact hold p hp q hq2
          · intro q hq2
            by_cases hqk : q = k
            · subst hqk; rw [py_up_s]
            · rw [py_up_j _ _ _ (by omega), py_up_k _ _ _ (by decide), py_up_k _ _ _ (by decide)]
              exact hrow q (by omega)
      refine go_iconst (v := nI 0) (pc := 19) dX5_foretellAllWalls_19 (by decide) ?_
      refine go_istore (pc := 20) dX5_foretellAllWalls_20 (by decide) rfl ?_
      refine inner 0 (Nat.zero_le _) s1 ⟨_, _, e2⟩ hs1 ?_ (fun q hq2 => absurd hq2 (Nat.not_lt_zero q))
      intro p hp q hq2
      rw [e3.at 40 (by decide) (by decide)]
      exact hold p hp q hq2
  refine go_iconst (v := nI 0) (pc := 0) dX5_foretellAllWalls_0 (by decide) ?_
  refine go_istore_n (pc := 1) dX5_foretellAllWalls_1 (by decide) rfl ?_
  exact loop 0 (Nat.zero_le _) σ (py_fr.rf _ _ σ) (fun p hp => absurd hp (Nat.not_lt_zero p))
set_option maxHeartbeats 4000000 in
set_option maxRecDepth 100000 in
theorem ev_weigh0 {X : py_X} {σ : py_H} {n l c : Nat} {tw : Nat → Nat} (hn : n ≤ 5) (hl : l ≤ 5) (hcl : c ≤ 300) (htw : ∀ i, i < n → σ 42 i = nI (tw i)) (hb : py_rb σ n none) : py_Ev X 1 yX5_weigh cX5_weigh 3 none [.ref 37, .int (nI l), .int (nI c)] σ (py_vs none (fun s => py_rb s n (py_wg none l c tw) ∧ py_fr [43] [(37, 7), (37, 8)] σ s)) := by
  refine py_ofV (own := RX5) YX5_weigh.2.2.2.2 rfl rfl (Nat.le_of_ble_eq_true rfl)  ?_
  show py_Go X RX5 cX5_weigh 3 1 0 [some (.ref 37), some (.int (nI l)), some (.int (nI c))] [] σ (py_vs none (fun s => py_rb s n (py_wg none l c tw) ∧ py_fr [43] [(37, 7), (37, 8)] σ s))
  refine go_iload_n (pc := 0) dX5_weigh_0 rfl ?_
  refine go_aload_n (pc := 1) dX5_weigh_1 rfl ?_
  refine go_getI (x := (-1)) (pc := 2) dX5_weigh_2 fX5_68 rfl rfl hb.1 ?_
  refine go_icmp_gtNJ (tgt := 24) (pc := 5) dX5_weigh_5 (by omega) (by decide) (fun c_5 => ?_) (fun c_5 => ?_)
  · refine go_aload_n (pc := 24) dX5_weigh_24 rfl ?_
    refine go_iload_n (pc := 25) dX5_weigh_25 rfl ?_
    refine go_putI (pc := 26) dX5_weigh_26 fX5_68 rfl rfl ?_
    refine go_aload_n (pc := 29) dX5_weigh_29 rfl ?_
    refine go_iload_n (pc := 30) dX5_weigh_30 rfl ?_
    refine go_putI (pc := 31) dX5_weigh_31 fX5_71 rfl rfl ?_
    refine go_aload_n (pc := 34) dX5_weigh_34 rfl ?_
    refine go_getR (pc := 35) dX5_weigh_35 fX5_28 rfl rfl ?_
    refine go_iconst (v := nI 0) (pc := 38) dX5_weigh_38 (by decide) ?_
    refine go_aload_n (pc := 39) dX5_weigh_39 rfl ?_
    refine go_getR (pc := 40) dX5_weigh_40 fX5_31 rfl rfl ?_
    refine go_iconst (v := nI 0) (pc := 43) dX5_weigh_43 (by decide) ?_
    refine go_iconst (v := nI 5) (pc := 44) dX5_weigh_44 (by decide) ?_
    refine go_copy (pc := 45) dX5_weigh_45 lX5_94 Ncpy Scpy Isys (by decide) (Nat.le_of_ble_eq_true rfl) rfl rfl (nI_pos (by omega)) (nI_pos (by omega)) (nI_pos (by omega)) (by rw [nI_clamp (by omega), nI_clamp (by omega)]; show 0 + (5) ≤ 5; omega) (by rw [nI_clamp (by omega), nI_clamp (by omega)]; show 0 + (5) ≤ 5; omega) ?_
    simp only [nI_clamp (show 0 < 2 ^ 31 by omega), nI_clamp (show 5 < 2 ^ 31 by omega)]
    exact go_retV (pc := 48) dX5_weigh_48 ⟨⟨by rw [py_row_ne _ _ (by decide), py_up_j _ _ _ (by decide), py_up_s], by rw [py_row_ne _ _ (by decide), py_up_s], hl, hcl, fun i hi => by rw [py_row_self, py_cpy_ap (by omega), py_up_k _ _ _ (by decide), py_up_k _ _ _ (by decide)]; exact htw i hi⟩, ((((py_fr.rf [43] [(37, 7), (37, 8)] σ).ut (by decide) _).ut (by decide) _).row (by decide) _)⟩
  · (have e9 : (-1 : Int32).toInt = -1 := by decide); omega
set_option maxHeartbeats 4000000 in
set_option maxRecDepth 100000 in
theorem ev_weigh1 {X : py_X} {σ : py_H} {n l c : Nat} {tw : Nat → Nat} (hn : n ≤ 5) (hl : l ≤ 5) (hcl : c ≤ 300) (htw : ∀ i, i < n → σ 42 i = nI (tw i)) {q : Nat × Nat × (Nat → Nat)} (hb : py_rb σ n (some q)) : py_Ev X 1 yX5_weigh cX5_weigh 3 none [.ref 37, .int (nI l), .int (nI c)] σ (py_vs none (fun s => py_rb s n (py_wg (some q) l c tw) ∧ py_fr [43] [(37, 7), (37, 8)] σ s)) := by
  have hq5 := hb.2.2.1
  have hq3 := hb.2.2.2.1
  refine py_ofV (own := RX5) YX5_weigh.2.2.2.2 rfl rfl (Nat.le_of_ble_eq_true rfl)  ?_
  show py_Go X RX5 cX5_weigh 3 1 0 [some (.ref 37), some (.int (nI l)), some (.int (nI c))] [] σ (py_vs none (fun s => py_rb s n (py_wg (some q) l c tw) ∧ py_fr [43] [(37, 7), (37, 8)] σ s))
  refine go_iload_n (pc := 0) dX5_weigh_0 rfl ?_
  refine go_aload_n (pc := 1) dX5_weigh_1 rfl ?_
  refine go_getI (x := (nI (q.1))) (pc := 2) dX5_weigh_2 fX5_68 rfl rfl hb.1 ?_
  refine go_icmp_gtN (tgt := 24) (pc := 5) dX5_weigh_5 (by omega) (by omega) (by decide) (fun c_5 => ?_) (fun c_5 => ?_)
  · refine go_aload_n (pc := 24) dX5_weigh_24 rfl ?_
    refine go_iload_n (pc := 25) dX5_weigh_25 rfl ?_
    refine go_putI (pc := 26) dX5_weigh_26 fX5_68 rfl rfl ?_
    refine go_aload_n (pc := 29) dX5_weigh_29 rfl ?_
    refine go_iload_n (pc := 30) dX5_weigh_30 rfl ?_
    refine go_putI (pc := 31) dX5_weigh_31 fX5_71 rfl rfl ?_
    refine go_aload_n (pc := 34) dX5_weigh_34 rfl ?_
    refine go_getR (pc := 35) dX5_weigh_35 fX5_28 rfl rfl ?_
    refine go_iconst (v := nI 0) (pc := 38) dX5_weigh_38 (by decide) ?_
    refine go_aload_n (pc := 39) dX5_weigh_39 rfl ?_
    refine go_getR (pc := 40) dX5_weigh_40 fX5_31 rfl rfl ?_
    refine go_iconst (v := nI 0) (pc := 43) dX5_weigh_43 (by decide) ?_
    refine go_iconst (v := nI 5) (pc := 44) dX5_weigh_44 (by decide) ?_
    refine go_copy (pc := 45) dX5_weigh_45 lX5_94 Ncpy Scpy Isys (by decide) (Nat.le_of_ble_eq_true rfl) rfl rfl (nI_pos (by omega)) (nI_pos (by omega)) (nI_pos (by omega)) (by rw [nI_clamp (by omega), nI_clamp (by omega)]; show 0 + (5) ≤ 5; omega) (by rw [nI_clamp (by omega), nI_clamp (by omega)]; show 0 + (5) ≤ 5; omega) ?_
    simp only [nI_clamp (show 0 < 2 ^ 31 by omega), nI_clamp (show 5 < 2 ^ 31 by omega)]
    have e9 : py_wg (some q) l c tw = some (l, c, tw) := by show (if _ then _ else _) = _; rw [if_pos (by omega)]
    refine go_retV (pc := 48) dX5_weigh_48 ⟨by rw [e9]; exact (show py_rb _ n (some (l, c, tw)) from ⟨by rw [py_row_ne _ _ (by decide), py_up_j _ _ _ (by decide), py_up_s], by rw [py_row_ne _ _ (by decide), py_up_s], hl, hcl, fun i hi => by rw [py_row_self, py_cpy_ap (by omega), py_up_k _ _ _ (by decide), py_up_k _ _ _ (by decide)]; exact htw i hi⟩), ((((py_fr.rf [43] [(37, 7), (37, 8)] σ).ut (by decide) _).ut (by decide) _).row (by decide) _)⟩
  · refine go_iload_n (pc := 8) dX5_weigh_8 rfl ?_
    refine go_aload_n (pc := 9) dX5_weigh_9 rfl ?_
    refine go_getI (x := (nI (q.1))) (pc := 10) dX5_weigh_10 fX5_68 rfl rfl hb.1 ?_
    refine go_icmp_neN (tgt := 48) (pc := 13) dX5_weigh_13 (by omega) (by omega) (by decide) (fun c_13 => ?_) (fun c_13 => ?_)
    · have e9 : py_wg (some q) l c tw = some q := by show (if _ then _ else _) = _; rw [if_neg (by omega)]
      exact go_retV (pc := 48) dX5_weigh_48 ⟨by rw [e9]; exact hb, py_fr.rf _ _ σ⟩
    · refine go_iload_n (pc := 16) dX5_weigh_16 rfl ?_
      refine go_aload_n (pc := 17) dX5_weigh_17 rfl ?_
      refine go_getI (x := (nI (q.2.1))) (pc := 18) dX5_weigh_18 fX5_71 rfl rfl hb.2.1 ?_
      refine go_icmp_leN (tgt := 48) (pc := 21) dX5_weigh_21 (by omega) (by omega) (by decide) (fun c_21 => ?_) (fun c_21 => ?_)
      · have e9 : py_wg (some q) l c tw = some q := by show (if _ then _ else _) = _; rw [if_neg (by omega)]
        exact go_retV (pc := 48) dX5_weigh_48 ⟨by rw [e9]; exact hb, py_fr.rf _ _ σ⟩
      · refine go_aload_n (pc := 24) dX5_weigh_24 rfl ?_
        refine go_iload_n (pc := 25) dX5_weigh_25 rfl ?_
        refine go_putI (pc := 26) dX5_weigh_26 fX5_68 rfl rfl ?_
        refine go_aload_n (pc := 29) dX5_weigh_29 rfl ?_
        refine go_iload_n (pc := 30) dX5_weigh_30 rfl ?_
        refine go_putI (pc := 31) dX5_weigh_31 fX5_71 rfl rfl ?_
        refine go_aload_n (pc := 34) dX5_weigh_34 rfl ?_
        refine go_getR (pc := 35) dX5_weigh_35 fX5_28 rfl rfl ?_
        refine go_iconst (v := nI 0) (pc := 38) dX5_weigh_38 (by decide) ?_
        refine go_aload_n (pc := 39) dX5_weigh_39 rfl ?_
        refine go_getR (pc := 40) dX5_weigh_40 fX5_31 rfl rfl ?_
        refine go_iconst (v := nI 0) (pc := 43) dX5_weigh_43 (by decide) ?_
        refine go_iconst (v := nI 5) (pc := 44) dX5_weigh_44 (by decide) ?_
        refine go_copy (pc := 45) dX5_weigh_45 lX5_94 Ncpy Scpy Isys (by decide) (Nat.le_of_ble_eq_true rfl) rfl rfl (nI_pos (by omega)) (nI_pos (by omega)) (nI_pos (by omega)) (by rw [nI_clamp (by omega), nI_clamp (by omega)]; show 0 + (5) ≤ 5; omega) (by rw [nI_clamp (by omega), nI_clamp (by omega)]; show 0 + (5) ≤ 5; omega) ?_
        simp only [nI_clamp (show 0 < 2 ^ 31 by omega), nI_clamp (show 5 < 2 ^ 31 by omega)]
        have e9 : py_wg (some q) l c tw = some (l, c, tw) := by show (if _ then _ else _) = _; rw [if_pos (by omega)]
        refine go_retV (pc := 48) dX5_weigh_48 ⟨by rw [e9]; exact (show py_rb _ n (some (l, c, tw)) from ⟨by rw [py_row_ne _ _ (by decide), py_up_j _ _ _ (by decide), py_up_s], by rw [py_row_ne _ _ (by decide), py_up_s], hl, hcl, fun i hi => by rw [py_row_self, py_cpy_ap (by omega), py_up_k _ _ _ (by decide), py_up_k _ _ _ (by decide)]; exact htw i hi⟩), ((((py_fr.rf [43] [(37, 7), (37, 8)] σ).ut (by decide) _).ut (by decide) _).row (by decide) _)⟩
theorem ev_weigh {X : py_X} {σ : py_H} {n l c : Nat} {tw : Nat → Nat} (hn : n ≤ 5) (hl : l ≤ 5) (hcl : c ≤ 300) (htw : ∀ i, i < n → σ 42 i = nI (tw i)) {B : py_B} (hb : py_rb σ n B) : py_Ev X 1 yX5_weigh cX5_weigh 3 none [.ref 37, .int (nI l), .int (nI c)] σ (py_vs none (fun s => py_rb s n (py_wg B l c tw) ∧ py_fr [43] [(37, 7), (37, 8)] σ s)) := by
  match B, hb with
  | none, hb => exact ev_weigh0 hn hl hcl htw hb
  | some q, hb => exact ev_weigh1 hn hl hcl htw hb
theorem py_rb_up {s s2 : py_H} {n : Nat} {B : py_B} (hf : py_fr [41, 42] [] s s2) (hb : py_rb s n B) : py_rb s2 n B := by
  have e37 := hf.at 37 (by decide) (by decide)
  have e43 := hf.at 43 (by decide) (by decide)
  match B, hb with
  | none, hb =>
    show s2 37 7 = -1 ∧ s2 37 8 = -1
    rw [e37]
    exact hb
  | some q, hb =>
    show s2 37 7 = nI q.1 ∧ s2 37 8 = nI q.2.1 ∧ q.1 ≤ 5 ∧ q.2.1 ≤ 300 ∧ ∀ i, i < n → s2 43 i = nI (q.2.2 i)
    rw [e37, e43]
    exact hb
set_option maxHeartbeats 4000000 in
set_option maxRecDepth 100000 in
theorem ev_hangFrom : ∀ (r : Nat), ∀ {X : py_X} {σ : py_H} {H : Nat → Nat} (_ : py_hd σ 7 H) (_ : py_wf H) {n p l c : Nat} {cr tw : Nat → Nat} {B : py_B} (_ : p + r = H 12) (_ : l ≤ p) (_ : c ≤ 60 * p) (_ : ∀ w, cr w ≤ p) (_ : ∀ w, w < 4 → σ 41 w = nI (cr w)) (_ : ∀ q, q < p → σ 42 q = nI (tw q)) (_ : ∀ a, a < H 12 → ∀ b, b < H 3 → σ 40 (a * 4 + b) = nI (py_lw H n a b)) (_ : py_rb σ (H 12) B), py_Ev X (r + 2) yX5_hangFrom cX5_hangFrom 7 none [.ref 37, .ref 7, .int (nI p), .int (nI l), .int (nI c)] σ (py_vs none (fun s => (∀ w, w < 4 → s 41 w = nI (cr w)) ∧ (∀ q, q < p → s 42 q = nI (tw q)) ∧ py_rb s (H 12) (py_hf H n r p cr tw l c B) ∧ py_fr [41, 42, 43] [(37, 7), (37, 8)] σ s)) := by
  intro r
  induction r with
  | zero =>
    intro X σ H hc hw n p l c cr tw B hpr hlp hcp hcrp hcr htw hbh hb
    obtain ⟨w0, w1, w2, w3, w12, w03, w00, wW, wP, wR⟩ := id hw
    refine py_ofV (own := RX5) YX5_hangFrom.2.2.2.2 rfl rfl (Nat.le_of_ble_eq_true rfl) ?_
    refine go_iload_n (pc := 0) dX5_hangFrom_0 rfl ?_
    refine go_aload_n (pc := 1) dX5_hangFrom_1 rfl ?_
    refine go_getI (x := (nI (H 12))) (pc := 2) dX5_hangFrom_2 fX5_37 rfl rfl hc.2.2.2.2.1 ?_
    refine go_icmp_geN (tgt := 13) (pc := 5) dX5_hangFrom_5 (by omega) (by omega) (by decide) (fun c_5 => ?_) (fun c_5 => ?_)
    · refine go_aload_n (pc := 13) dX5_hangFrom_13 rfl ?_
      refine go_iload_n (pc := 14) dX5_hangFrom_14 rfl ?_
      refine go_iload (pc := 15) dX5_hangFrom_15 rfl ?_
      refine go_cVv (pc := 17) dX5_hangFrom_17 (ev_weigh (tw := tw) (by omega) (by omega) (by omega) (fun i hi => htw i (by omega)) hb) lX5_87 YX5_weigh VX5_weigh rfl rfl rfl (by omega) rfl (Nat.le_of_ble_eq_true rfl) (fun s1 e1 => ?_)
      exact go_retV (pc := 20) dX5_hangFrom_20 ⟨fun w hw => by rw [e1.2.at 41 (by decide) (by decide)]; exact hcr w hw, fun q hq => by rw [e1.2.at 42 (by decide) (by decide)]; exact htw q hq, e1.1, e1.2.wd (by decide) (by decide)⟩
    · omega
  | succ r ihr =>
    intro X σ H hc hw n p l c cr tw B hpr hlp hcp hcrp hcr htw hbh hb
    obtain ⟨w0, w1, w2, w3, w12, w03, w00, wW, wP, wR⟩ := id hw
    refine py_ofV (own := RX5) YX5_hangFrom.2.2.2.2 rfl rfl (Nat.le_of_ble_eq_true rfl) ?_
    have loop : ∀ i, i ≤ H 3 → ∀ s, py_fr [41, 42, 43] [(37, 7), (37, 8)] σ s → (∀ w, w < 4 → s 41 w = nI (cr w)) → (∀ q, q < p → s 42 q = nI (tw q)) → py_rb s (H 12) (py_lp (fun w B => if cr w < H 0 then py_hf H n r (p + 1) (va_up cr w (cr w + 1)) (va_up tw p w) (l + (if 0 < py_lw H n p w then 1 else 0)) (c + py_lw H n p w) B else B) i B) → py_Go X RX5 cX5_hangFrom 7 ((r + 1) + 2) 24 [some (.ref 37), some (.ref 7), some (.int (nI p)), some (.int (nI l)), some (.int (nI c)), some (.int (nI i)), none] [] s (py_vs none (fun s => (∀ w, w < 4 → s 41 w = nI (cr w)) ∧ (∀ q, q < p → s 42 q = nI (tw q)) ∧ py_rb s (H 12) (py_hf H n (r + 1) p cr tw l c B) ∧ py_fr [41, 42, 43] [(37, 7), (37, 8)] σ s)) := by
      refine py_loop _ (H 3) (fun i hi ih s hs hcs1 htws hbs => ?_)
      have hcs := py_hd_fr hs (by decide) (by decide) hc
      have hcri := hcrp i
      refine go_iload (pc := 24) dX5_hangFrom_24 rfl ?_
      refine go_aload_n (pc := 26) dX5_hangFrom_26 rfl ?_
      refine go_getI (x := (nI (H 3))) (pc := 27) dX5_hangFrom_27 fX5_81 rfl rfl hcs.2.2.2.1 ?_
      refine go_icmp_geN (tgt := 121) (pc := 30) dX5_hangFrom_30 (by omega) (by omega) (by decide) (fun c_30 => ?_) (fun c_30 => ?_)
      · have e9 : i = H 3 := by omega
        rw [e9] at hbs
        exact go_retV (pc := 121) dX5_hangFrom_121 ⟨hcs1, htws, hbs, hs⟩
      · refine go_aload_n (pc := 33) dX5_hangFrom_33 rfl ?_
        refine go_getR (pc := 34) dX5_hangFrom_34 fX5_25 rfl rfl ?_
        refine go_iload (pc := 37) dX5_hangFrom_37 rfl ?_
        refine go_aldN (x := (nI (cr i))) (pc := 39) dX5_hangFrom_39 rfl (by show i < 4; omega) (hcs1 i (by omega)) ?_
        refine go_aload_n (pc := 40) dX5_hangFrom_40 rfl ?_
        refine go_getI (x := (nI (H 0))) (pc := 41) dX5_hangFrom_41 fX5_91 rfl rfl hcs.1 ?_
        refine go_icmp_geN (tgt := 115) (pc := 44) dX5_hangFrom_44 (by omega) (by omega) (by decide) (fun c_44 => ?_) (fun c_44 => ?_)
        · refine go_iincN (c := 1) (pc := 115) dX5_hangFrom_115 rfl (by decide) (by decide) rfl ?_
          refine go_goto (tgt := 24) (pc := 118) dX5_hangFrom_118 (by decide) ?_
          have e7 : py_lp (fun w B => if cr w < H 0 then py_hf H n r (p + 1) (va_up cr w (cr w + 1)) (va_up tw p w) (l + (if 0 < py_lw H n p w then 1 else 0)) (c + py_lw H n p w) B else B) (i + 1) B = py_lp (fun w B => if cr w < H 0 then py_hf H n r (p + 1) (va_up cr w (cr w + 1)) (va_up tw p w) (l + (if 0 < py_lw H n p w then 1 else 0)) (c + py_lw H n p w) B else B) i B := by show (if _ then _ else _) = _; rw [if_neg (by omega)]
          refine ih c_30 s hs hcs1 htws ?_
          rw [e7]
          exact hbs
        · refine go_aload_n (pc := 47) dX5_hangFrom_47 rfl ?_
          refine go_getR (pc := 48) dX5_hangFrom_48 fX5_22 rfl rfl ?_
          refine go_iload_n (pc := 51) dX5_hangFrom_51 rfl ?_
          refine go_iconst (v := nI 4) (pc := 52) dX5_hangFrom_52 (by decide) ?_
          refine go_imulN (pc := 53) dX5_hangFrom_53  ?_
          refine go_iload (pc := 54) dX5_hangFrom_54 rfl ?_
          refine go_iaddN (pc := 56) dX5_hangFrom_56  ?_
          refine go_aldN (x := (nI (py_lw H n p i))) (pc := 57) dX5_hangFrom_57 rfl (by show (p * 4) + i < 20; omega) (by rw [hs.at 40 (by decide) (by decide)]; exact hbh p (by omega) i c_30) ?_
          have hlw := py_lw_le (d := n) (p := p) (w := i) hw (by omega)
          refine go_istore (pc := 58) dX5_hangFrom_58 (by decide) rfl ?_
          refine go_aload_n (pc := 60) dX5_hangFrom_60 rfl ?_
          refine go_getR (pc := 61) dX5_hangFrom_61 fX5_28 rfl rfl ?_
          refine go_iload_n (pc := 64) dX5_hangFrom_64 rfl ?_
          refine go_iload (pc := 65) dX5_hangFrom_65 rfl ?_
          refine go_astN (pc := 67) dX5_hangFrom_67 rfl (by show p < 5; omega) ?_
          refine go_aload_n (pc := 68) dX5_hangFrom_68 rfl ?_
          refine go_getR (pc := 69) dX5_hangFrom_69 fX5_25 rfl rfl ?_
          refine go_iload (pc := 72) dX5_hangFrom_72 rfl ?_
          refine go_dup2 (pc := 74) dX5_hangFrom_74 rfl rfl ?_
          refine go_aldN (x := (nI (cr i))) (pc := 75) dX5_hangFrom_75 rfl (by show i < 4; omega) (by rw [py_up_k _ _ _ (by decide)]; exact hcs1 i (by omega)) ?_
          refine go_iconst (v := nI 1) (pc := 76) dX5_hangFrom_76 (by decide) ?_
          refine go_iaddN (pc := 77) dX5_hangFrom_77  ?_
          refine go_astN (pc := 78) dX5_hangFrom_78 rfl (by show i < 4; omega) ?_
          refine go_aload_n (pc := 79) dX5_hangFrom_79 rfl ?_
          refine go_aload_n (pc := 80) dX5_hangFrom_80 rfl ?_
          refine go_iload_n (pc := 81) dX5_hangFrom_81 rfl ?_
          refine go_iconst (v := nI 1) (pc := 82) dX5_hangFrom_82 (by decide) ?_
          refine go_iaddN (pc := 83) dX5_hangFrom_83  ?_
          refine go_iload_n (pc := 84) dX5_hangFrom_84 rfl ?_
          refine go_iload (pc := 85) dX5_hangFrom_85 rfl ?_
          refine go_if_leN (tgt := 94) (pc := 87) dX5_hangFrom_87 (by omega) (by decide) (fun c_87 => ?_) (fun c_87 => ?_)
          · refine go_iconst (v := nI 0) (pc := 94) dX5_hangFrom_94 (by decide) ?_
            refine go_iaddN (pc := 95) dX5_hangFrom_95  ?_
            refine go_iload (pc := 96) dX5_hangFrom_96 rfl ?_
            refine go_iload (pc := 98) dX5_hangFrom_98 rfl ?_
            refine go_iaddN (pc := 100) dX5_hangFrom_100  ?_
            have hsx := (hs.up (k := 42) (j := p) (by decide) (nI i)).up (k := 41) (j := i) (by decide) (nI (cr i + 1))
            have hcx := py_hd_fr hsx (by decide) (by decide) hc
            have eif : (if 0 < py_lw H n p i then 1 else 0) = 0 := by split <;> omega
            have hcrx : ∀ w, w < 4 → (py_up (py_up s 42 p ((nI i))) 41 i ((nI ((cr i) + 1)))) 41 w = nI (va_up cr i (cr i + 1) w) := by
              intro w hw4
              unfold va_up
              by_cases hwi : w = i
              · subst hwi; rw [if_pos rfl, py_up_s]
              · rw [if_neg hwi, py_up_j _ _ _ hwi, py_up_k _ _ _ (by decide)]; exact hcs1 w hw4
            have htwx : ∀ q, q < p + 1 → (py_up (py_up s 42 p ((nI i))) 41 i ((nI ((cr i) + 1)))) 42 q = nI (va_up tw p i q) := by
              intro q hq
              unfold va_up
              rw [py_up_k _ _ _ (by decide)]
              by_cases hqp : q = p
              · subst hqp; rw [if_pos rfl, py_up_s]
              · rw [if_neg hqp, py_up_j _ _ _ hqp]; exact htws q (by omega)
            have hbhx : ∀ a, a < H 12 → ∀ b, b < H 3 → (py_up (py_up s 42 p ((nI i))) 41 i ((nI ((cr i) + 1)))) 40 (a * 4 + b) = nI (py_lw H n a b) := by
              intro a ha b hb2
              rw [py_up_k _ _ _ (by decide), py_up_k _ _ _ (by decide), hs.at 40 (by decide) (by decide)]
              exact hbh a ha b hb2
            have hbx : py_rb (py_up (py_up s 42 p ((nI i))) 41 i ((nI ((cr i) + 1)))) (H 12) (py_lp (fun w B => if cr w < H 0 then py_hf H n r (p + 1) (va_up cr w (cr w + 1)) (va_up tw p w) (l + (if 0 < py_lw H n p w then 1 else 0)) (c + py_lw H n p w) B else B) i B) := by
              refine py_rb_up ?_ hbs
              exact ((py_fr.rf [41, 42] [] s).up (by decide) _).up (by decide) _
            refine go_cVv (pc := 101) dX5_hangFrom_101 (ihr (p := p + 1) (l := l + 0) (c := c + py_lw H n p i) hcx hw (by omega) (by omega) (by omega) (fun w => by unfold va_up; have z := hcrp w; split <;> omega) hcrx htwx hbhx hbx) lX5_77 YX5_hangFrom VX5_hangFrom rfl rfl rfl (by omega) rfl (Nat.le_of_ble_eq_true rfl) (fun s3 f1 => ?_)
            have hs3 := hsx.tr f1.2.2.2 (by decide) (by decide)
            refine go_aload_n (pc := 104) dX5_hangFrom_104 rfl ?_
            refine go_getR (pc := 105) dX5_hangFrom_105 fX5_25 rfl rfl ?_
            refine go_iload (pc := 108) dX5_hangFrom_108 rfl ?_
            refine go_dup2 (pc := 110) dX5_hangFrom_110 rfl rfl ?_
            refine go_aldN (x := (nI (cr i + 1))) (pc := 111) dX5_hangFrom_111 rfl (by show i < 4; omega) ((f1.1 i (by omega)).trans (by rw [va_up, if_pos rfl])) ?_
            refine go_iconst (v := nI 1) (pc := 112) dX5_hangFrom_112 (by decide) ?_
            refine go_isubN (pc := 113) dX5_hangFrom_113 (by omega) ?_
            refine go_astN (pc := 114) dX5_hangFrom_114 rfl (by show i < 4; omega) ?_
            refine go_iincN (c := 1) (pc := 115) dX5_hangFrom_115 rfl (by decide) (by decide) rfl ?_
            refine go_goto (tgt := 24) (pc := 118) dX5_hangFrom_118 (by decide) ?_
            have e7 : py_lp (fun w B => if cr w < H 0 then py_hf H n r (p + 1) (va_up cr w (cr w + 1)) (va_up tw p w) (l + (if 0 < py_lw H n p w then 1 else 0)) (c + py_lw H n p w) B else B) (i + 1) B = py_hf H n r (p + 1) (va_up cr i (cr i + 1)) (va_up tw p i) (l + (if 0 < py_lw H n p i then 1 else 0)) (c + py_lw H n p i) (py_lp (fun w B => if cr w < H 0 then py_hf H n r (p + 1) (va_up cr w (cr w + 1)) (va_up tw p w) (l + (if 0 < py_lw H n p w then 1 else 0)) (c + py_lw H n p w) B else B) i B) := by show (if _ then _ else _) = _; rw [if_pos c_44]
            rw [eif] at e7
            refine go_mask [true, true, true, true, true, true, false] rfl (ih c_30 _ (hs3.up (by decide) _) ?_ ?_ ?_)
            · intro w hw4
              by_cases hwi : w = i
              · subst hwi; rw [py_up_s]; rfl
              · rw [py_up_j _ _ _ hwi, f1.1 w hw4, va_up, if_neg hwi]
            · intro q hq
              rw [py_up_k _ _ _ (by decide), f1.2.1 q (by omega), va_up, if_neg (by omega)]
            · rw [e7]
              exact py_rb_up ((py_fr.rf [41, 42] [] s3).up (by decide) _) f1.2.2.1
          · refine go_iconst (v := nI 1) (pc := 90) dX5_hangFrom_90 (by decide) ?_
            refine go_goto (tgt := 95) (pc := 91) dX5_hangFrom_91 (by decide) ?_
            refine go_iaddN (pc := 95) dX5_hangFrom_95  ?_
            refine go_iload (pc := 96) dX5_hangFrom_96 rfl ?_
            refine go_iload (pc := 98) dX5_hangFrom_98 rfl ?_
            refine go_iaddN (pc := 100) dX5_hangFrom_100  ?_
            have hsx := (hs.up (k := 42) (j := p) (by decide) (nI i)).up (k := 41) (j := i) (by decide) (nI (cr i + 1))
            have hcx := py_hd_fr hsx (by decide) (by decide) hc
            have eif : (if 0 < py_lw H n p i then 1 else 0) = 1 := by split <;> omega
            have hcrx : ∀ w, w < 4 → (py_up (py_up s 42 p ((nI i))) 41 i ((nI ((cr i) + 1)))) 41 w = nI (va_up cr i (cr i + 1) w) := by
              intro w hw4
              unfold va_up
              by_cases hwi : w = i
              · subst hwi; rw [if_pos rfl, py_up_s]
              · rw [if_neg hwi, py_up_j _ _ _ hwi, py_up_k _ _ _ (by decide)]; exact hcs1 w hw4
            have htwx : ∀ q, q < p + 1 → (py_up (py_up s 42 p ((nI i))) 41 i ((nI ((cr i) + 1)))) 42 q = nI (va_up tw p i q) := by
              intro q hq
              unfold va_up
              rw [py_up_k _ _ _ (by decide)]
              by_cases hqp : q = p
              · subst hqp; rw [if_pos rfl, py_up_s]
              · rw [if_neg hqp, py_up_j _ _ _ hqp]; exact htws q (by omega)
            have hbhx : ∀ a, a < H 12 → ∀ b, b < H 3 → (py_up (py_up s 42 p ((nI i))) 41 i ((nI ((cr i) + 1)))) 40 (a * 4 + b) = nI (py_lw H n a b) := by
              intro a ha b hb2
              rw [py_up_k _ _ _ (by decide), py_up_k _ _ _ (by decide), hs.at 40 (by decide) (by decide)]
              exact hbh a ha b hb2
            have hbx : py_rb (py_up (py_up s 42 p ((nI i))) 41 i ((nI ((cr i) + 1)))) (H 12) (py_lp (fun w B => if cr w < H 0 then py_hf H n r (p + 1) (va_up cr w (cr w + 1)) (va_up tw p w) (l + (if 0 < py_lw H n p w then 1 else 0)) (c + py_lw H n p w) B else B) i B) := by
              refine py_rb_up ?_ hbs
              exact ((py_fr.rf [41, 42] [] s).up (by decide) _).up (by decide) _
            refine go_cVv (pc := 101) dX5_hangFrom_101 (ihr (p := p + 1) (l := l + 1) (c := c + py_lw H n p i) hcx hw (by omega) (by omega) (by omega) (fun w => by unfold va_up; have z := hcrp w; split <;> omega) hcrx htwx hbhx hbx) lX5_77 YX5_hangFrom VX5_hangFrom rfl rfl rfl (by omega) rfl (Nat.le_of_ble_eq_true rfl) (fun s3 f1 => ?_)
            have hs3 := hsx.tr f1.2.2.2 (by decide) (by decide)
            refine go_aload_n (pc := 104) dX5_hangFrom_104 rfl ?_
            refine go_getR (pc := 105) dX5_hangFrom_105 fX5_25 rfl rfl ?_
            refine go_iload (pc := 108) dX5_hangFrom_108 rfl ?_
            refine go_dup2 (pc := 110) dX5_hangFrom_110 rfl rfl ?_
            refine go_aldN (x := (nI (cr i + 1))) (pc := 111) dX5_hangFrom_111 rfl (by show i < 4; omega) ((f1.1 i (by omega)).trans (by rw [va_up, if_pos rfl])) ?_
            refine go_iconst (v := nI 1) (pc := 112) dX5_hangFrom_112 (by decide) ?_
            refine go_isubN (pc := 113) dX5_hangFrom_113 (by omega) ?_
            refine go_astN (pc := 114) dX5_hangFrom_114 rfl (by show i < 4; omega) ?_
            refine go_iincN (c := 1) (pc := 115) dX5_hangFrom_115 rfl (by decide) (by decide) rfl ?_
            refine go_goto (tgt := 24) (pc := 118) dX5_hangFrom_118 (by decide) ?_
            have e7 : py_lp (fun w B => if cr w < H 0 then py_hf H n r (p + 1) (va_up cr w (cr w + 1)) (va_up tw p w) (l + (if 0 < py_lw H n p w then 1 else 0)) (c + py_lw H n p w) B else B) (i + 1) B = py_hf H n r (p + 1) (va_up cr i (cr i + 1)) (va_up tw p i) (l + (if 0 < py_lw H n p i then 1 else 0)) (c + py_lw H n p i) (py_lp (fun w B => if cr w < H 0 then py_hf H n r (p + 1) (va_up cr w (cr w + 1)) (va_up tw p w) (l + (if 0 < py_lw H n p w then 1 else 0)) (c + py_lw H n p w) B else B) i B) := by show (if _ then _ else _) = _; rw [if_pos c_44]
            rw [eif] at e7
            refine go_mask [true, true, true, true, true, true, false] rfl (ih c_30 _ (hs3.up (by decide) _) ?_ ?_ ?_)
            · intro w hw4
              by_cases hwi : w = i
              · subst hwi; rw [py_up_s]; rfl
              · rw [py_up_j _ _ _ hwi, f1.1 w hw4, va_up, if_neg hwi]
            · intro q hq
              rw [py_up_k _ _ _ (by decide), f1.2.1 q (by omega), va_up, if_neg (by omega)]
            · rw [e7]
              exact py_rb_up ((py_fr.rf [41, 42] [] s3).up (by decide) _) f1.2.2.1
    refine go_iload_n (pc := 0) dX5_hangFrom_0 rfl ?_
    refine go_aload_n (pc := 1) dX5_hangFrom_1 rfl ?_
    refine go_getI (x := (nI (H 12))) (pc := 2) dX5_hangFrom_2 fX5_37 rfl rfl hc.2.2.2.2.1 ?_
    refine go_icmp_geN (tgt := 13) (pc := 5) dX5_hangFrom_5 (by omega) (by omega) (by decide) (fun c_5 => ?_) (fun c_5 => ?_)
    · omega
    · refine go_iload_n (pc := 8) dX5_hangFrom_8 rfl ?_
      refine go_iconst (v := nI 5) (pc := 9) dX5_hangFrom_9 (by decide) ?_
      refine go_icmp_ltN (tgt := 21) (pc := 10) dX5_hangFrom_10 (by omega) (by omega) (by decide) (fun c_10 => ?_) (fun c_10 => ?_)
      · refine go_iconst (v := nI 0) (pc := 21) dX5_hangFrom_21 (by decide) ?_
        refine go_istore (pc := 22) dX5_hangFrom_22 (by decide) rfl ?_
        exact loop 0 (Nat.zero_le _) σ (py_fr.rf _ _ σ) hcr htw hb
      · omega
theorem py_Ev.dn {X : py_X} {d d2 : Nat} {y : MethodName} {cc : ByteArray} {nL : Nat} {ret : Option FieldType} {av : List Value} {σ : py_H} {P : py_P} (h : py_Ev X d y cc nL ret av σ P) (hd : d ≤ d2) : py_Ev X d2 y cc nL ret av σ P := fun l D ad cI cZ n hn => h l D ad cI cZ n (Nat.le_trans hd hn)
set_option maxHeartbeats 4000000 in
set_option maxRecDepth 100000 in
theorem ev_seekHanging {X : py_X} {σ : py_H} {H : Nat → Nat} (hc : py_hd σ 7 H) (hw : py_wf H) {n : Nat} (hn : n ≤ 60) (hcr : ∀ w, w < 4 → σ 41 w = nI 0) : py_Ev X 8 yX5_seekHanging cX5_seekHanging 3 none [.ref 37, .ref 7, .int (nI n)] σ (py_vs none (fun s => (∀ w, w < 4 → s 41 w = nI 0) ∧ py_rb s (H 12) (py_hf H n (H 12) 0 (fun _ => 0) (fun _ => 0) 0 0 none) ∧ py_fr [38, 40, 41, 42, 43] [(37, 7), (37, 8)] σ s)) := by
  obtain ⟨w0, w1, w2, w3, w12, w03, w00, wW, wP, wR⟩ := id hw
  refine py_ofV (own := RX5) YX5_seekHanging.2.2.2.2 rfl rfl (Nat.le_of_ble_eq_true rfl)  ?_
  show py_Go X RX5 cX5_seekHanging 3 8 0 [some (.ref 37), some (.ref 7), some (.int (nI n))] [] σ (py_vs none (fun s => (∀ w, w < 4 → s 41 w = nI 0) ∧ py_rb s (H 12) (py_hf H n (H 12) 0 (fun _ => 0) (fun _ => 0) 0 0 none) ∧ py_fr [38, 40, 41, 42, 43] [(37, 7), (37, 8)] σ s))
  refine go_aload_n (pc := 0) dX5_seekHanging_0 rfl ?_
  refine go_iconst (v := -1) (pc := 1) dX5_seekHanging_1 (by decide) ?_
  refine go_putI (pc := 2) dX5_seekHanging_2 fX5_68 rfl rfl ?_
  refine go_aload_n (pc := 5) dX5_seekHanging_5 rfl ?_
  refine go_iconst (v := -1) (pc := 6) dX5_seekHanging_6 (by decide) ?_
  refine go_putI (pc := 7) dX5_seekHanging_7 fX5_71 rfl rfl ?_
  refine go_aload_n (pc := 10) dX5_seekHanging_10 rfl ?_
  refine go_aload_n (pc := 11) dX5_seekHanging_11 rfl ?_
  refine go_iload_n (pc := 12) dX5_seekHanging_12 rfl ?_
  have f0 := ((py_fr.rf [38, 40, 41, 42, 43] [(37, 7), (37, 8)] σ).ut (k := 37) (j := 7) (by decide) (-1)).ut (k := 37) (j := 8) (by decide) (-1)
  have hc0 := py_hd_fr f0 (by decide) (by decide) hc
  refine go_cVv (pc := 13) dX5_seekHanging_13 (ev_foretellAll hc0 hw hn) lX5_74 YX5_foretellAllWalls VX5_foretellAllWalls rfl rfl rfl (by decide) rfl (Nat.le_of_ble_eq_true rfl) (fun s1 e1 => ?_)
  have hs1 := f0.tr e1.2 (by decide) (by decide)
  have hc1 := py_hd_fr hs1 (by decide) (by decide) hc
  have h41 : s1 41 = σ 41 := by rw [e1.2.at 41 (by decide) (by decide), py_up_k _ _ _ (by decide), py_up_k _ _ _ (by decide)]
  have hb1 : py_rb s1 (H 12) none := by
    show s1 37 7 = -1 ∧ s1 37 8 = -1
    rw [e1.2.at 37 (by decide) (by decide)]
    exact ⟨by rw [py_up_j _ _ _ (by decide), py_up_s], py_up_s _ _ _ _⟩
  refine go_aload_n (pc := 16) dX5_seekHanging_16 rfl ?_
  refine go_aload_n (pc := 17) dX5_seekHanging_17 rfl ?_
  refine go_iconst (v := nI 0) (pc := 18) dX5_seekHanging_18 (by decide) ?_
  refine go_iconst (v := nI 0) (pc := 19) dX5_seekHanging_19 (by decide) ?_
  refine go_iconst (v := nI 0) (pc := 20) dX5_seekHanging_20 (by decide) ?_
  refine go_cVv (pc := 21) dX5_seekHanging_21 ((ev_hangFrom (H 12) (n := n) (p := 0) (l := 0) (c := 0) (cr := fun _ => 0) (tw := fun _ => 0) (B := none) hc1 hw (Nat.zero_add _) (Nat.le_refl _) (Nat.le_refl _) (fun _ => Nat.le_refl _) (fun w hw4 => by rw [h41]; exact hcr w hw4) (fun q hq => absurd hq (Nat.not_lt_zero q)) e1.1 hb1).dn (show H 12 + 2 ≤ 7 by omega)) lX5_77 YX5_hangFrom VX5_hangFrom rfl rfl rfl (by decide) rfl (Nat.le_of_ble_eq_true rfl) (fun s2 e2 => ?_)
  exact go_retV (pc := 24) dX5_seekHanging_24 ⟨e2.1, e2.2.2.1, hs1.tr e2.2.2.2 (by decide) (by decide)⟩
