/-! contracts: the reference's hanging -/
theorem py_dec (x : Int32) : x + Int32.ofInt (-1) = x - nI 1 := by
  rw [Int32.sub_eq_add_neg]
  congr 1
def py_nxp (s : py_H) (n : Nat) (o : Option (Nat → Nat)) : Prop := match o with
  | none => True
  | some t => ∀ q, q < n → s 59 q = nI (t q)

set_option maxHeartbeats 4000000 in
set_option maxRecDepth 100000 in
theorem ev_nextHanging {X : py_X} {σ : py_H} {H tw : Nat → Nat} (h5 : py_hm (σ 53) 0 H) (w12 : H 12 ≤ 5) (w3 : H 3 ≤ 4) (ht : ∀ q, q < H 12 → σ 59 q = nI (tw q)) (hv : ∀ q, q < H 12 → tw q < H 3) : py_Ev X 0 yX8_nextHanging cX8_nextHanging 2 (some .boolean) [.ref 47] σ (py_vs (some (.int (py_b ((py_nx2 (H 3) (H 12) tw).isSome = true)))) (fun s => py_nxp s (H 12) (py_nx2 (H 3) (H 12) tw) ∧ py_fr [59] [] σ s)) := by
  refine py_ofZ (own := RX8) YX8_nextHanging.2.2.2.2 rfl rfl (Nat.le_of_ble_eq_true rfl) py_b_ok ?_
  show py_Go X RX8 cX8_nextHanging 2 0 0 [some (.ref 47), none] [] σ (py_vs (some (.int (py_b ((py_nx2 (H 3) (H 12) tw).isSome = true)))) (fun s => py_nxp s (H 12) (py_nx2 (H 3) (H 12) tw) ∧ py_fr [59] [] σ s))
  have loop : ∀ i, i ≤ H 12 → ∀ (t : Nat → Nat) s, (∀ q, q < H 12 → s 59 q = nI (t q)) → (∀ q, q < H 12 → t q < H 3) → py_nx2 (H 3) (H 12) tw = py_nx2 (H 3) i t → py_fr [59] [] σ s → py_Go X RX8 cX8_nextHanging 2 0 10 [some (.ref 47), some (.int (nI i - nI 1))] [] s (py_vs (some (.int (py_b ((py_nx2 (H 3) (H 12) tw).isSome = true)))) (fun s => py_nxp s (H 12) (py_nx2 (H 3) (H 12) tw) ∧ py_fr [59] [] σ s)) := by
    intro i
    induction i with
    | zero =>
      intro hi t s ht hv he hs
      refine go_iload_n (pc := 10) dX8_nextHanging_10 rfl ?_
      refine go_if_ltJ (tgt := 54) (pc := 11) dX8_nextHanging_11 (by decide) (fun c_11 => ?_) (fun c_11 => ?_)
      · refine go_iconst (v := nI 0) (pc := 54) dX8_nextHanging_54 (by decide) ?_
        exact go_retI (pc := 55) dX8_nextHanging_55 (by rw [he]; rfl) ⟨by rw [he]; trivial, hs⟩
      · exact absurd c_11 (by decide)
    | succ j ih =>
      intro hi t s ht hv he hs
      have e1 : nI (j + 1) - nI 1 = nI j := pk_sub (by omega)
      rw [e1]
      have h5s : py_hm (s 53) 0 H := by rw [hs.at 53 (by decide) (by decide)]; exact h5
      have hj := hv j (by omega)
      refine go_iload_n (pc := 10) dX8_nextHanging_10 rfl ?_
      refine go_if_ltN (tgt := 54) (pc := 11) dX8_nextHanging_11 (by omega) (by decide) ?_
      refine go_aload_n (pc := 14) dX8_nextHanging_14 rfl ?_
      refine go_getR (pc := 15) dX8_nextHanging_15 fX8_44 rfl rfl ?_
      refine go_iload_n (pc := 18) dX8_nextHanging_18 rfl ?_
      refine go_dup2 (pc := 19) dX8_nextHanging_19 rfl rfl ?_
      refine go_aldN (x := (nI (t j))) (pc := 20) dX8_nextHanging_20 rfl (by show j < 5; omega) (ht j (by omega)) ?_
      refine go_iconst (v := nI 1) (pc := 21) dX8_nextHanging_21 (by decide) ?_
      refine go_iaddN (pc := 22) dX8_nextHanging_22  ?_
      refine go_astN (pc := 23) dX8_nextHanging_23 rfl (by show j < 5; omega) ?_
      refine go_aload_n (pc := 24) dX8_nextHanging_24 rfl ?_
      refine go_getR (pc := 25) dX8_nextHanging_25 fX8_44 rfl rfl ?_
      refine go_iload_n (pc := 28) dX8_nextHanging_28 rfl ?_
      refine go_aldN (x := (nI (t j + 1))) (pc := 29) dX8_nextHanging_29 rfl (by show j < 5; omega) (py_up_s _ _ _ _) ?_
      refine go_aload_n (pc := 30) dX8_nextHanging_30 rfl ?_
      refine go_getR (pc := 31) dX8_nextHanging_31 fX8_25 rfl rfl ?_
      refine go_iconst (v := nI 3) (pc := 34) dX8_nextHanging_34 (by decide) ?_
      refine go_aldN (x := (nI (H 3))) (pc := 35) dX8_nextHanging_35 rfl (by show 3 < 33; omega) (py_hm_at (show py_hm ((py_up s 59 j (nI (t j + 1))) 53) 0 H by rw [py_up_k _ _ _ (by decide)]; exact h5s) (show 3 = 3 by omega) (by omega)) ?_
      refine go_icmp_geN (tgt := 41) (pc := 36) dX8_nextHanging_36 (by omega) (by omega) (by decide) (fun c_36 => ?_) (fun c_36 => ?_)
      · refine go_aload_n (pc := 41) dX8_nextHanging_41 rfl ?_
        refine go_getR (pc := 42) dX8_nextHanging_42 fX8_44 rfl rfl ?_
        refine go_iload_n (pc := 45) dX8_nextHanging_45 rfl ?_
        refine go_iconst (v := nI 0) (pc := 46) dX8_nextHanging_46 (by decide) ?_
        refine go_astN (pc := 47) dX8_nextHanging_47 rfl (by show j < 5; omega) ?_
        refine go_iinc (pc := 48) dX8_nextHanging_48 rfl rfl (by decide) rfl ?_
        refine go_goto (tgt := 10) (pc := 51) dX8_nextHanging_51 (by decide) ?_
        rw [py_dec]
        refine ih (by omega) (va_up t j 0) _ (fun q hq => ?_) (fun q hq => ?_) ?_ ((hs.up (by decide) _).up (by decide) _)
        · by_cases e : q = j
          · subst e; rw [py_up_s, py_vu_s]
          · rw [py_up_j _ _ _ e, py_up_j _ _ _ e, py_vu_o e]; exact ht q hq
        · by_cases e : q = j
          · subst e; rw [py_vu_s]; omega
          · rw [py_vu_o e]; exact hv q hq
        · rw [he]; show (if t j + 1 < H 3 then _ else _) = _; rw [if_neg (by omega)]
      · refine go_iconst (v := nI 1) (pc := 39) dX8_nextHanging_39 (by decide) ?_
        have en : py_nx2 (H 3) (H 12) tw = some (va_up t j (t j + 1)) := by rw [he]; show (if t j + 1 < H 3 then _ else _) = _; rw [if_pos (by omega)]
        refine go_retI (pc := 40) dX8_nextHanging_40 (by rw [en]; rfl) ⟨?_, hs.up (by decide) _⟩
        rw [en]
        intro q hq
        by_cases e : q = j
        · subst e; rw [py_up_s, py_vu_s]
        · rw [py_up_j _ _ _ e, py_vu_o e]; exact ht q hq
  refine go_aload_n (pc := 0) dX8_nextHanging_0 rfl ?_
  refine go_getR (pc := 1) dX8_nextHanging_1 fX8_25 rfl rfl ?_
  refine go_bipush (v := nI 12) (pc := 4) dX8_nextHanging_4 (by decide) ?_
  refine go_aldN (x := (nI (H 12))) (pc := 6) dX8_nextHanging_6 rfl (by show 12 < 33; omega) (py_hm_at h5 (show 12 = 12 by omega) (by omega)) ?_
  refine go_iconst (v := nI 1) (pc := 7) dX8_nextHanging_7 (by decide) ?_
  refine go_isub (pc := 8) dX8_nextHanging_8  ?_
  refine go_istore_n (pc := 9) dX8_nextHanging_9 (by decide) rfl ?_
  exact loop (H 12) (Nat.le_refl _) tw σ ht hv rfl (py_fr.rf _ _ σ)
theorem py_room_s (H tw : Nat → Nat) (i : Nat) : py_all (fun k => decide (py_cn (fun p => decide (tw p = k)) (H 12) ≤ H 0)) (i + 1) = true ↔ py_all (fun k => decide (py_cn (fun p => decide (tw p = k)) (H 12) ≤ H 0)) i = true ∧ py_cn (fun p => decide (tw p = i)) (H 12) ≤ H 0 := by
  rw [py_all_s]
  simp
set_option maxHeartbeats 4000000 in
set_option maxRecDepth 100000 in
theorem ev_isRoom {X : py_X} {σ : py_H} {H tw : Nat → Nat} (h5 : py_hm (σ 53) 0 H) (hT : py_hm (σ 55) 0 (py_hw H tw (H 12))) (w0 : H 0 ≤ 5) (w12 : H 12 ≤ 5) (w3 : H 3 ≤ 4) (hv : ∀ q, q < H 12 → tw q < H 3) : py_Ev X 1 yX8_isRoom cX8_isRoom 3 (some .boolean) [.ref 47] σ (py_ret (.int (py_b (py_room H tw = true))) σ) := by
  refine py_ofZ (own := RX8) YX8_isRoom.2.2.2.2 rfl rfl (Nat.le_of_ble_eq_true rfl) py_b_ok ?_
  show py_Go X RX8 cX8_isRoom 3 1 0 [some (.ref 47), none, none] [] σ (py_ret (.int (py_b (py_room H tw = true))) σ)
  have e12 : py_hw H tw (H 12) 12 = H 12 := py_hw_o (fun p => by omega)
  have loop : ∀ i, i ≤ H 3 → py_Go X RX8 cX8_isRoom 3 1 4 [some (.ref 47), some (.int (py_b (py_all (fun k => decide (py_cn (fun p => decide (tw p = k)) (H 12) ≤ H 0)) i = true))), some (.int (nI i))] [] σ (py_ret (.int (py_b (py_room H tw = true))) σ) := by
    refine py_loop _ (H 3) (fun i hi ih => ?_)
    refine go_iload_n (pc := 4) dX8_isRoom_4 rfl ?_
    refine go_aload_n (pc := 5) dX8_isRoom_5 rfl ?_
    refine go_getR (pc := 6) dX8_isRoom_6 fX8_25 rfl rfl ?_
    refine go_iconst (v := nI 3) (pc := 9) dX8_isRoom_9 (by decide) ?_
    refine go_aldN (x := (nI (H 3))) (pc := 10) dX8_isRoom_10 rfl (by show 3 < 33; omega) (py_hm_at h5 (show 3 = 3 by omega) (by omega)) ?_
    refine go_icmp_geN (tgt := 50) (pc := 11) dX8_isRoom_11 (by omega) (by omega) (by decide) (fun c_11 => ?_) (fun c_11 => ?_)
    · refine go_iload_n (pc := 50) dX8_isRoom_50 rfl ?_
      exact go_retI (pc := 51) dX8_isRoom_51 (by rw [show i = H 3 by omega]; rfl) rfl
    · refine go_iload_n (pc := 14) dX8_isRoom_14 rfl ?_
      refine go_if_eqB (tgt := 42) (pc := 15) dX8_isRoom_15 (by decide) (fun c_15 => ?_) (fun c_15 => ?_)
      · refine go_iconst (v := nI 0) (pc := 42) dX8_isRoom_42 (by decide) ?_
        refine go_istore_n (pc := 43) dX8_isRoom_43 (by decide) rfl ?_
        refine go_iincN (c := 1) (pc := 44) dX8_isRoom_44 rfl (by decide) (by decide) rfl ?_
        refine go_goto (tgt := 4) (pc := 47) dX8_isRoom_47 (by decide) ?_
        have e4 : py_b (py_all (fun k => decide (py_cn (fun p => decide (tw p = k)) (H 12) ≤ H 0)) (i + 1) = true) = nI 0 := py_b_f (fun z => by have z2 := (py_room_s H tw i).mp z; first | exact c_15 z2.1 | omega)
        have e8 := ih (by omega)
        rw [e4] at e8
        exact e8
      · refine go_aload_n (pc := 18) dX8_isRoom_18 rfl ?_
        refine go_getR (pc := 19) dX8_isRoom_19 fX8_31 rfl rfl ?_
        refine go_iload_n (pc := 22) dX8_isRoom_22 rfl ?_
        refine go_cS (pc := 23) dX8_isRoom_23 (ev_hangOn_55 hT (by rw [e12]; exact w12) (fun p hp => by rw [e12] at hp; rw [py_hw_l hp]; have z := hv p hp; omega) (by omega)) lX8_127 YX8_hangOn SX8_hangOn rfl (by decide) rfl (Nat.le_of_ble_eq_true rfl) ?_
        refine go_cS (pc := 26) dX8_isRoom_26 (ev_ones (Nat.lt_of_lt_of_le (py_bs_lt _ _) (by rw [e12]; exact (py_p2 w12).2.2))) lX8_131 YX8_ones SX8_ones rfl (by decide) rfl (Nat.le_of_ble_eq_true rfl) ?_
        refine go_top (y := nI (py_cn (fun p => decide (tw p = i)) (H 12))) (by rw [e12, py_pc_bs _ w12, py_hw_ct]) ?_
        have hct : py_cn (fun p => decide (tw p = i)) (H 12) ≤ H 12 := py_cn_le _ _
        refine go_aload_n (pc := 29) dX8_isRoom_29 rfl ?_
        refine go_getR (pc := 30) dX8_isRoom_30 fX8_25 rfl rfl ?_
        refine go_iconst (v := nI 0) (pc := 33) dX8_isRoom_33 (by decide) ?_
        refine go_aldN (x := (nI (H 0))) (pc := 34) dX8_isRoom_34 rfl (by show 0 < 33; omega) (py_hm_at h5 (show 0 = 0 by omega) (by omega)) ?_
        refine go_icmp_gtN (tgt := 42) (pc := 35) dX8_isRoom_35 (by omega) (by omega) (by decide) (fun c_35 => ?_) (fun c_35 => ?_)
        · refine go_iconst (v := nI 0) (pc := 42) dX8_isRoom_42 (by decide) ?_
          refine go_istore_n (pc := 43) dX8_isRoom_43 (by decide) rfl ?_
          refine go_iincN (c := 1) (pc := 44) dX8_isRoom_44 rfl (by decide) (by decide) rfl ?_
          refine go_goto (tgt := 4) (pc := 47) dX8_isRoom_47 (by decide) ?_
          have e4 : py_b (py_all (fun k => decide (py_cn (fun p => decide (tw p = k)) (H 12) ≤ H 0)) (i + 1) = true) = nI 0 := py_b_f (fun z => by have z2 := (py_room_s H tw i).mp z; first | exact c_15 z2.1 | omega)
          have e8 := ih (by omega)
          rw [e4] at e8
          exact e8
        · refine go_iconst (v := nI 1) (pc := 38) dX8_isRoom_38 (by decide) ?_
          refine go_goto (tgt := 43) (pc := 39) dX8_isRoom_39 (by decide) ?_
          refine go_istore_n (pc := 43) dX8_isRoom_43 (by decide) rfl ?_
          refine go_iincN (c := 1) (pc := 44) dX8_isRoom_44 rfl (by decide) (by decide) rfl ?_
          refine go_goto (tgt := 4) (pc := 47) dX8_isRoom_47 (by decide) ?_
          have e4 : py_b (py_all (fun k => decide (py_cn (fun p => decide (tw p = k)) (H 12) ≤ H 0)) (i + 1) = true) = nI 1 := py_b_t ((py_room_s H tw i).mpr ⟨c_15, by omega⟩)
          have e8 := ih (by omega)
          rw [e4] at e8
          exact e8
  refine go_iconst (v := nI 1) (pc := 0) dX8_isRoom_0 (by decide) ?_
  refine go_istore_n (pc := 1) dX8_isRoom_1 (by decide) rfl ?_
  refine go_iconst (v := nI 0) (pc := 2) dX8_isRoom_2 (by decide) ?_
  refine go_istore_n (pc := 3) dX8_isRoom_3 (by decide) rfl ?_
  have e8 := loop 0 (Nat.zero_le _)
  rw [show py_b (py_all (fun k => decide (py_cn (fun p => decide (tw p = k)) (H 12) ≤ H 0)) 0 = true) = nI 1 from py_b_t rfl] at e8
  exact e8
