/-! contracts: the class's small methods -/
set_option maxHeartbeats 4000000 in
set_option maxRecDepth 100000 in
theorem ev_isWithin {X : py_X} {σ : py_H} {x a b : Int32} : py_Ev X 0 yX7_isWithin cX7_isWithin 3 (some .boolean) [.int (x), .int (a), .int (b)] σ (py_ret (.int (py_b (a.toInt ≤ x.toInt ∧ x.toInt ≤ b.toInt))) σ) := by
  refine py_ofZ (own := RX7) YX7_isWithin.2.2.2.2 rfl rfl (Nat.le_of_ble_eq_true rfl) py_b_ok ?_
  show py_Go X RX7 cX7_isWithin 3 0 0 [some (.int (x)), some (.int (a)), some (.int (b))] [] σ (py_ret (.int (py_b (a.toInt ≤ x.toInt ∧ x.toInt ≤ b.toInt))) σ)
  refine go_iload_n (pc := 0) dX7_isWithin_0 rfl ?_
  refine go_iload_n (pc := 1) dX7_isWithin_1 rfl ?_
  refine go_icmp_ltJI (tgt := 14) (pc := 2) dX7_isWithin_2  (by decide) (fun c_2 => ?_) (fun c_2 => ?_)
  · refine go_iconst (v := nI 0) (pc := 14) dX7_isWithin_14 (by decide) ?_
    exact go_retI (pc := 15) dX7_isWithin_15 (py_b_f (by omega)).symm rfl
  · refine go_iload_n (pc := 5) dX7_isWithin_5 rfl ?_
    refine go_iload_n (pc := 6) dX7_isWithin_6 rfl ?_
    refine go_icmp_gtJI (tgt := 14) (pc := 7) dX7_isWithin_7  (by decide) (fun c_7 => ?_) (fun c_7 => ?_)
    · refine go_iconst (v := nI 0) (pc := 14) dX7_isWithin_14 (by decide) ?_
      exact go_retI (pc := 15) dX7_isWithin_15 (py_b_f (by omega)).symm rfl
    · refine go_iconst (v := nI 1) (pc := 10) dX7_isWithin_10 (by decide) ?_
      refine go_goto (tgt := 15) (pc := 11) dX7_isWithin_11 (by decide) ?_
      exact go_retI (pc := 15) dX7_isWithin_15 (py_b_t (by omega)).symm rfl
theorem ev_isWithinN {X : py_X} {σ : py_H} {x : Int32} {a b : Nat} (ha : a < 2 ^ 31 := by decide) (hb : b < 2 ^ 31 := by decide) : py_Ev X 0 yX7_isWithin cX7_isWithin 3 (some .boolean) [.int x, .int (nI a), .int (nI b)] σ (py_ret (.int (py_b ((a : Int) ≤ x.toInt ∧ x.toInt ≤ (b : Int)))) σ) := by
  have h := ev_isWithin (X := X) (σ := σ) (x := x) (a := nI a) (b := nI b)
  simp only [nI_toInt ha, nI_toInt hb] at h
  exact h
set_option maxHeartbeats 4000000 in
set_option maxRecDepth 100000 in
theorem ev_isAhead {X : py_X} {σ : py_H} {x : Int32} : py_Ev X 1 yX7_isAhead cX7_isAhead 1 (some .boolean) [.int (x)] σ (py_ret (.int (py_b (((0 : Nat) : Int) ≤ x.toInt ∧ x.toInt ≤ ((60 : Nat) : Int)))) σ) := by
  refine py_ofZ (own := RX7) YX7_isAhead.2.2.2.2 rfl rfl (Nat.le_of_ble_eq_true rfl) py_b_ok ?_
  show py_Go X RX7 cX7_isAhead 1 1 0 [some (.int (x))] [] σ (py_ret (.int (py_b (((0 : Nat) : Int) ≤ x.toInt ∧ x.toInt ≤ ((60 : Nat) : Int)))) σ)
  refine go_iload_n (pc := 0) dX7_isAhead_0 rfl ?_
  refine go_iconst (v := nI 0) (pc := 1) dX7_isAhead_1 (by decide) ?_
  refine go_bipush (v := nI 60) (pc := 2) dX7_isAhead_2 (by decide) ?_
  refine go_cS (pc := 4) dX7_isAhead_4 ev_isWithinN lX7_101 YX7_isWithin SX7_isWithin rfl (by decide) rfl (Nat.le_of_ble_eq_true rfl) ?_
  exact go_retI (pc := 7) dX7_isAhead_7 rfl rfl
set_option maxHeartbeats 4000000 in
set_option maxRecDepth 100000 in
theorem ev_found {X : py_X} {σ : py_H} {x : Int32} : py_Ev X 0 yX7_found cX7_found 2 (some .int) [.ref 0, .int (x)] σ (py_ret (.int (-1000010 - x)) (py_up σ 0 10 x)) := by
  refine py_ofI (own := RX7) YX7_found.2.2.2.2 rfl rfl (Nat.le_of_ble_eq_true rfl)  ?_
  show py_Go X RX7 cX7_found 2 0 0 [some (.ref 0), some (.int (x))] [] σ (py_ret (.int (-1000010 - x)) (py_up σ 0 10 x))
  refine go_aload_n (pc := 0) dX7_found_0 rfl ?_
  refine go_iload_n (pc := 1) dX7_found_1 rfl ?_
  refine go_putI (pc := 2) dX7_found_2 fX7_319 rfl rfl ?_
  refine go_ldcw (pc := 5) dX7_found_5 kX7_322 ?_
  refine go_iload_n (pc := 8) dX7_found_8 rfl ?_
  refine go_isub (pc := 9) dX7_found_9  ?_
  exact go_retI (pc := 10) dX7_found_10 rfl rfl
set_option maxHeartbeats 4000000 in
set_option maxRecDepth 100000 in
theorem ev_foundNothing {X : py_X} {σ : py_H} {x : Int32} : py_Ev X 0 yX7_foundNothing cX7_foundNothing 2 (some .int) [.ref 0, .int (x)] σ (py_ret (.int (x)) (py_up σ 0 10 (nI 0))) := by
  refine py_ofI (own := RX7) YX7_foundNothing.2.2.2.2 rfl rfl (Nat.le_of_ble_eq_true rfl)  ?_
  show py_Go X RX7 cX7_foundNothing 2 0 0 [some (.ref 0), some (.int (x))] [] σ (py_ret (.int (x)) (py_up σ 0 10 (nI 0)))
  refine go_aload_n (pc := 0) dX7_foundNothing_0 rfl ?_
  refine go_iconst (v := nI 0) (pc := 1) dX7_foundNothing_1 (by decide) ?_
  refine go_putI (pc := 2) dX7_foundNothing_2 fX7_319 rfl rfl ?_
  refine go_iload_n (pc := 5) dX7_foundNothing_5 rfl ?_
  exact go_retI (pc := 6) dX7_foundNothing_6 rfl rfl
set_option maxHeartbeats 4000000 in
set_option maxRecDepth 100000 in
theorem ev_imageOf0 {X : py_X} {σ : py_H} : py_Ev X 0 yX7_imageOf cX7_imageOf 2 (some (.object "PortraitYears$House")) [.ref 0, .int (nI 0)] σ (py_ret (.ref 21) σ) := by
  refine py_ofR (own := RX7) YX7_imageOf.2.2.2.2 rfl rfl (Nat.le_of_ble_eq_true rfl)  ?_
  show py_Go X RX7 cX7_imageOf 2 0 0 [some (.ref 0), some (.int (nI 0))] [] σ (py_ret (.ref 21) σ)
  refine go_iload_n (pc := 0) dX7_imageOf_0 rfl ?_
  refine go_if_neN (tgt := 11) (pc := 1) dX7_imageOf_1 (by omega) (by decide) (fun c_1 => ?_) (fun c_1 => ?_)
  · exact absurd c_1 (by decide)
  · refine go_aload_n (pc := 4) dX7_imageOf_4 rfl ?_
    refine go_getR (pc := 5) dX7_imageOf_5 fX7_33 rfl rfl ?_
    refine go_goto (tgt := 15) (pc := 8) dX7_imageOf_8 (by decide) ?_
    exact go_retR (pc := 15) dX7_imageOf_15 rfl rfl
set_option maxHeartbeats 4000000 in
set_option maxRecDepth 100000 in
theorem ev_imageOf1 {X : py_X} {σ : py_H} : py_Ev X 0 yX7_imageOf cX7_imageOf 2 (some (.object "PortraitYears$House")) [.ref 0, .int (nI 1)] σ (py_ret (.ref 28) σ) := by
  refine py_ofR (own := RX7) YX7_imageOf.2.2.2.2 rfl rfl (Nat.le_of_ble_eq_true rfl)  ?_
  show py_Go X RX7 cX7_imageOf 2 0 0 [some (.ref 0), some (.int (nI 1))] [] σ (py_ret (.ref 28) σ)
  refine go_iload_n (pc := 0) dX7_imageOf_0 rfl ?_
  refine go_if_neN (tgt := 11) (pc := 1) dX7_imageOf_1 (by omega) (by decide) (fun c_1 => ?_) (fun c_1 => ?_)
  · refine go_aload_n (pc := 11) dX7_imageOf_11 rfl ?_
    refine go_getR (pc := 12) dX7_imageOf_12 fX7_36 rfl rfl ?_
    exact go_retR (pc := 15) dX7_imageOf_15 rfl rfl
  · exact absurd c_1 (by decide)
set_option maxHeartbeats 4000000 in
set_option maxRecDepth 100000 in
theorem ev_isRow {X : py_X} {σ : py_H} {x : Int32} : py_Ev X 1 yX4_isRow cX4_isRow 2 (some .boolean) [.ref 1, .int (x)] σ (py_ret (.int (py_b (py_pi x 8))) σ) := by
  refine py_ofZ (own := RX4) YX4_isRow.2.2.2.2 rfl rfl (Nat.le_of_ble_eq_true rfl) py_b_ok ?_
  show py_Go X RX4 cX4_isRow 2 1 0 [some (.ref 1), some (.int (x))] [] σ (py_ret (.int (py_b (py_pi x 8))) σ)
  refine go_iload_n (pc := 0) dX4_isRow_0 rfl ?_
  refine go_iconst (v := nI 0) (pc := 1) dX4_isRow_1 (by decide) ?_
  refine go_bipush (v := nI 7) (pc := 2) dX4_isRow_2 (by decide) ?_
  refine go_cN (pc := 4) dX4_isRow_4 ev_isWithin nX4_19 YX7_isWithin SX7_isWithin rfl (by decide) rfl (Nat.le_of_ble_eq_true rfl) ?_
  exact go_retI (pc := 7) dX4_isRow_7 (py_b_c (py_pi_c rfl (by decide))) rfl
set_option maxHeartbeats 4000000 in
set_option maxRecDepth 100000 in
theorem ev_isLane {X : py_X} {σ : py_H} {x : Int32} : py_Ev X 1 yX4_isLane cX4_isLane 2 (some .boolean) [.ref 1, .int (x)] σ (py_ret (.int (py_b (py_pi x 3))) σ) := by
  refine py_ofZ (own := RX4) YX4_isLane.2.2.2.2 rfl rfl (Nat.le_of_ble_eq_true rfl) py_b_ok ?_
  show py_Go X RX4 cX4_isLane 2 1 0 [some (.ref 1), some (.int (x))] [] σ (py_ret (.int (py_b (py_pi x 3))) σ)
  refine go_iload_n (pc := 0) dX4_isLane_0 rfl ?_
  refine go_iconst (v := nI 0) (pc := 1) dX4_isLane_1 (by decide) ?_
  refine go_iconst (v := nI 2) (pc := 2) dX4_isLane_2 (by decide) ?_
  refine go_cN (pc := 3) dX4_isLane_3 ev_isWithin nX4_19 YX7_isWithin SX7_isWithin rfl (by decide) rfl (Nat.le_of_ble_eq_true rfl) ?_
  exact go_retI (pc := 6) dX4_isLane_6 (py_b_c (py_pi_c rfl (by decide))) rfl
set_option maxHeartbeats 4000000 in
set_option maxRecDepth 100000 in
theorem ev_isMissing {X : py_X} {σ : py_H} {r l : Nat} (hr : r < 8) (hl : σ 3 r = (if l = 3 then -1 else nI l)) (h3 : l ≤ 3) : py_Ev X 0 yX4_isMissing cX4_isMissing 2 (some .boolean) [.ref 1, .int (nI r)] σ (py_ret (.int (py_b (l = 3))) σ) := by
  refine py_ofZ (own := RX4) YX4_isMissing.2.2.2.2 rfl rfl (Nat.le_of_ble_eq_true rfl) py_b_ok ?_
  show py_Go X RX4 cX4_isMissing 2 0 0 [some (.ref 1), some (.int (nI r))] [] σ (py_ret (.int (py_b (l = 3))) σ)
  refine go_aload_n (pc := 0) dX4_isMissing_0 rfl ?_
  refine go_getR (pc := 1) dX4_isMissing_1 fX4_13 rfl rfl ?_
  refine go_iload_n (pc := 4) dX4_isMissing_4 rfl ?_
  refine go_aldN (x := (if l = 3 then -1 else nI l)) (pc := 5) dX4_isMissing_5 rfl (by show r < 8; omega) hl ?_
  refine go_iconst (v := -1) (pc := 6) dX4_isMissing_6 (by decide) ?_
  refine go_icmp_ne (tgt := 14) (pc := 7) dX4_isMissing_7 (by decide) (fun c_7 => ?_) (fun c_7 => ?_)
  · refine go_iconst (v := nI 0) (pc := 14) dX4_isMissing_14 (by decide) ?_
    exact go_retI (pc := 15) dX4_isMissing_15 (py_b_f (fun q => c_7 ((py_ln_m h3).mpr q))).symm rfl
  · refine go_iconst (v := nI 1) (pc := 10) dX4_isMissing_10 (by decide) ?_
    refine go_goto (tgt := 15) (pc := 11) dX4_isMissing_11 (by decide) ?_
    exact go_retI (pc := 15) dX4_isMissing_15 (py_b_t ((py_ln_m h3).mp c_7)).symm rfl
set_option maxHeartbeats 4000000 in
set_option maxRecDepth 100000 in
theorem ev_areOfOneLane {X : py_X} {σ : py_H} {a b la lb : Nat} (ha : a < 8) (hb : b < 8) (hal : σ 3 a = (if la = 3 then -1 else nI la)) (ha3 : la ≤ 3) (hbl : σ 3 b = (if lb = 3 then -1 else nI lb)) (hb3 : lb ≤ 3) : py_Ev X 0 yX4_areOfOneLane cX4_areOfOneLane 3 (some .boolean) [.ref 1, .int (nI a), .int (nI b)] σ (py_ret (.int (py_b (la = lb))) σ) := by
  refine py_ofZ (own := RX4) YX4_areOfOneLane.2.2.2.2 rfl rfl (Nat.le_of_ble_eq_true rfl) py_b_ok ?_
  show py_Go X RX4 cX4_areOfOneLane 3 0 0 [some (.ref 1), some (.int (nI a)), some (.int (nI b))] [] σ (py_ret (.int (py_b (la = lb))) σ)
  refine go_aload_n (pc := 0) dX4_areOfOneLane_0 rfl ?_
  refine go_getR (pc := 1) dX4_areOfOneLane_1 fX4_13 rfl rfl ?_
  refine go_iload_n (pc := 4) dX4_areOfOneLane_4 rfl ?_
  refine go_aldN (x := (if la = 3 then -1 else nI la)) (pc := 5) dX4_areOfOneLane_5 rfl (by show a < 8; omega) hal ?_
  refine go_aload_n (pc := 6) dX4_areOfOneLane_6 rfl ?_
  refine go_getR (pc := 7) dX4_areOfOneLane_7 fX4_13 rfl rfl ?_
  refine go_iload_n (pc := 10) dX4_areOfOneLane_10 rfl ?_
  refine go_aldN (x := (if lb = 3 then -1 else nI lb)) (pc := 11) dX4_areOfOneLane_11 rfl (by show b < 8; omega) hbl ?_
  refine go_icmp_ne (tgt := 19) (pc := 12) dX4_areOfOneLane_12 (by decide) (fun c_12 => ?_) (fun c_12 => ?_)
  · refine go_iconst (v := nI 0) (pc := 19) dX4_areOfOneLane_19 (by decide) ?_
    exact go_retI (pc := 20) dX4_areOfOneLane_20 (py_b_f (fun q => c_12 ((py_ln_e ha3 hb3).mpr q))).symm rfl
  · refine go_iconst (v := nI 1) (pc := 15) dX4_areOfOneLane_15 (by decide) ?_
    refine go_goto (tgt := 20) (pc := 16) dX4_areOfOneLane_16 (by decide) ?_
    exact go_retI (pc := 20) dX4_areOfOneLane_20 (py_b_t ((py_ln_e ha3 hb3).mp c_12)).symm rfl
set_option maxHeartbeats 4000000 in
set_option maxRecDepth 100000 in
theorem ev_hasPlaces {X : py_X} {σ : py_H} {r m : Nat} {i n : Int32} (hr : r < 8) (hm : σ 4 r = nI m) (h40 : m ≤ 40) : py_Ev X 0 yX4_hasPlaces cX4_hasPlaces 4 (some .boolean) [.ref 1, .int (nI r), .int (i), .int (n)] σ (py_ret (.int (py_b (py_hp i n m))) σ) := by
  refine py_ofZ (own := RX4) YX4_hasPlaces.2.2.2.2 rfl rfl (Nat.le_of_ble_eq_true rfl) py_b_ok ?_
  show py_Go X RX4 cX4_hasPlaces 4 0 0 [some (.ref 1), some (.int (nI r)), some (.int (i)), some (.int (n))] [] σ (py_ret (.int (py_b (py_hp i n m))) σ)
  refine go_iload_n (pc := 0) dX4_hasPlaces_0 rfl ?_
  refine go_if_ltJ (tgt := 34) (pc := 1) dX4_hasPlaces_1 (by decide) (fun c_1 => ?_) (fun c_1 => ?_)
  · refine go_iconst (v := nI 0) (pc := 34) dX4_hasPlaces_34 (by decide) ?_
    exact go_retI (pc := 35) dX4_hasPlaces_35 (py_b_f (by have e9 := fb_subI (x := nI m) (y := n); rw [nI_toInt (show m < 2 ^ 31 by omega)] at e9; omega)).symm rfl
  · refine go_iload_n (pc := 4) dX4_hasPlaces_4 rfl ?_
    refine go_if_ltJ (tgt := 34) (pc := 5) dX4_hasPlaces_5 (by decide) (fun c_5 => ?_) (fun c_5 => ?_)
    · refine go_iconst (v := nI 0) (pc := 34) dX4_hasPlaces_34 (by decide) ?_
      exact go_retI (pc := 35) dX4_hasPlaces_35 (py_b_f (by have e9 := fb_subI (x := nI m) (y := n); rw [nI_toInt (show m < 2 ^ 31 by omega)] at e9; omega)).symm rfl
    · refine go_iload_n (pc := 8) dX4_hasPlaces_8 rfl ?_
      refine go_aload_n (pc := 9) dX4_hasPlaces_9 rfl ?_
      refine go_getR (pc := 10) dX4_hasPlaces_10 fX4_16 rfl rfl ?_
      refine go_iload_n (pc := 13) dX4_hasPlaces_13 rfl ?_
      refine go_aldN (x := (nI m)) (pc := 14) dX4_hasPlaces_14 rfl (by show r < 8; omega) hm ?_
      refine go_icmp_gtJN (tgt := 34) (pc := 15) dX4_hasPlaces_15 (by omega) (by decide) (fun c_15 => ?_) (fun c_15 => ?_)
      · refine go_iconst (v := nI 0) (pc := 34) dX4_hasPlaces_34 (by decide) ?_
        exact go_retI (pc := 35) dX4_hasPlaces_35 (py_b_f (by have e9 := fb_subI (x := nI m) (y := n); rw [nI_toInt (show m < 2 ^ 31 by omega)] at e9; omega)).symm rfl
      · refine go_iload_n (pc := 18) dX4_hasPlaces_18 rfl ?_
        refine go_aload_n (pc := 19) dX4_hasPlaces_19 rfl ?_
        refine go_getR (pc := 20) dX4_hasPlaces_20 fX4_16 rfl rfl ?_
        refine go_iload_n (pc := 23) dX4_hasPlaces_23 rfl ?_
        refine go_aldN (x := (nI m)) (pc := 24) dX4_hasPlaces_24 rfl (by show r < 8; omega) hm ?_
        refine go_iload_n (pc := 25) dX4_hasPlaces_25 rfl ?_
        refine go_isub (pc := 26) dX4_hasPlaces_26  ?_
        refine go_icmp_gtJI (tgt := 34) (pc := 27) dX4_hasPlaces_27  (by decide) (fun c_27 => ?_) (fun c_27 => ?_)
        · refine go_iconst (v := nI 0) (pc := 34) dX4_hasPlaces_34 (by decide) ?_
          exact go_retI (pc := 35) dX4_hasPlaces_35 (py_b_f (by have e9 := fb_subI (x := nI m) (y := n); rw [nI_toInt (show m < 2 ^ 31 by omega)] at e9; omega)).symm rfl
        · refine go_iconst (v := nI 1) (pc := 30) dX4_hasPlaces_30 (by decide) ?_
          refine go_goto (tgt := 35) (pc := 31) dX4_hasPlaces_31 (by decide) ?_
          exact go_retI (pc := 35) dX4_hasPlaces_35 (py_b_t (by have e9 := fb_subI (x := nI m) (y := n); rw [nI_toInt (show m < 2 ^ 31 by omega)] at e9; omega)).symm rfl
set_option maxHeartbeats 4000000 in
set_option maxRecDepth 100000 in
theorem ev_make {X : py_X} {σ : py_H} {r l n : Nat} (hr : r < 8) (hn : n ≤ 40) : py_Ev X 0 yX4_make cX4_make 5 none [.ref 1, .int (nI r), .int (nI l), .int (nI n)] σ (py_vs none (fun s => s = (py_row (py_up (py_up σ 3 r (nI l)) 4 r (nI n)) 2 (py_zs (σ 2) (r * 40) n)))) := by
  refine py_ofV (own := RX4) YX4_make.2.2.2.2 rfl rfl (Nat.le_of_ble_eq_true rfl)  ?_
  show py_Go X RX4 cX4_make 5 0 0 [some (.ref 1), some (.int (nI r)), some (.int (nI l)), some (.int (nI n)), none] [] σ (py_vs none (fun s => s = (py_row (py_up (py_up σ 3 r (nI l)) 4 r (nI n)) 2 (py_zs (σ 2) (r * 40) n))))
  have loop : ∀ i, i ≤ n → py_Go X RX4 cX4_make 5 0 17 [some (.ref 1), some (.int (nI r)), some (.int (nI l)), some (.int (nI n)), some (.int (nI i))] [] (py_row (py_up (py_up σ 3 r (nI l)) 4 r (nI n)) 2 (py_zs (σ 2) (r * 40) i)) (py_vs none (fun s => s = (py_row (py_up (py_up σ 3 r (nI l)) 4 r (nI n)) 2 (py_zs (σ 2) (r * 40) n)))) := by
    refine py_loop _ n (fun i hi ih => ?_)
    refine go_iload (pc := 17) dX4_make_17 rfl ?_
    refine go_iload_n (pc := 19) dX4_make_19 rfl ?_
    refine go_icmp_geN (tgt := 49) (pc := 20) dX4_make_20 (by omega) (by omega) (by decide) (fun c_20 => ?_) (fun c_20 => ?_)
    · exact go_retV (pc := 49) dX4_make_49 (by show _ = _; rw [show i = n by omega])
    · refine go_iload (pc := 23) dX4_make_23 rfl ?_
      refine go_bipush (v := nI 40) (pc := 25) dX4_make_25 (by decide) ?_
      refine go_icmp_geN (tgt := 49) (pc := 27) dX4_make_27 (by omega) (by omega) (by decide) (fun c_27 => ?_) (fun c_27 => ?_)
      · omega
      · refine go_aload_n (pc := 30) dX4_make_30 rfl ?_
        refine go_getR (pc := 31) dX4_make_31 fX4_9 rfl rfl ?_
        refine go_iload_n (pc := 34) dX4_make_34 rfl ?_
        refine go_bipush (v := nI 40) (pc := 35) dX4_make_35 (by decide) ?_
        refine go_imulN (pc := 37) dX4_make_37  ?_
        refine go_iload (pc := 38) dX4_make_38 rfl ?_
        refine go_iaddN (pc := 40) dX4_make_40  ?_
        refine go_iconst (v := nI 0) (pc := 41) dX4_make_41 (by decide) ?_
        refine go_astN (pc := 42) dX4_make_42 rfl (by show (r * 40) + i < 320; omega) ?_
        refine go_iincN (c := 1) (pc := 43) dX4_make_43 rfl (by decide) (by decide) rfl ?_
        refine go_goto (tgt := 17) (pc := 46) dX4_make_46 (by decide) ?_
        have e8 := ih c_20
        rw [py_up_row, py_zs_s]
        exact e8
  refine go_aload_n (pc := 0) dX4_make_0 rfl ?_
  refine go_getR (pc := 1) dX4_make_1 fX4_13 rfl rfl ?_
  refine go_iload_n (pc := 4) dX4_make_4 rfl ?_
  refine go_iload_n (pc := 5) dX4_make_5 rfl ?_
  refine go_astN (pc := 6) dX4_make_6 rfl (by show r < 8; omega) ?_
  refine go_aload_n (pc := 7) dX4_make_7 rfl ?_
  refine go_getR (pc := 8) dX4_make_8 fX4_16 rfl rfl ?_
  refine go_iload_n (pc := 11) dX4_make_11 rfl ?_
  refine go_iload_n (pc := 12) dX4_make_12 rfl ?_
  refine go_astN (pc := 13) dX4_make_13 rfl (by show r < 8; omega) ?_
  refine go_iconst (v := nI 0) (pc := 14) dX4_make_14 (by decide) ?_
  refine go_istore (pc := 15) dX4_make_15 (by decide) rfl ?_
  have e8 := loop 0 (Nat.zero_le n)
  rw [py_zs_0, show σ 2 = (py_up (py_up σ 3 r (nI l)) 4 r (nI n)) 2 by rw [py_up_k _ _ _ (by decide), py_up_k _ _ _ (by decide)], py_row_id] at e8
  exact e8
set_option maxHeartbeats 4000000 in
set_option maxRecDepth 100000 in
theorem ev_put {X : py_X} {σ : py_H} {r i l : Nat} {v : Int32} (hr : r < 8) (hi : i < 40) (hl : σ 3 r = nI l) (h3 : l ≤ 2) : py_Ev X 0 yX4_put cX4_put 5 (some .int) [.ref 1, .int (nI r), .int (nI i), .int (v)] σ (py_ret (.int (py_cut l v)) (py_up σ 2 (r * 40 + i) (py_cut l v))) := by
  refine py_ofI (own := RX4) YX4_put.2.2.2.2 rfl rfl (Nat.le_of_ble_eq_true rfl)  ?_
  show py_Go X RX4 cX4_put 5 0 0 [some (.ref 1), some (.int (nI r)), some (.int (nI i)), some (.int (v)), none] [] σ (py_ret (.int (py_cut l v)) (py_up σ 2 (r * 40 + i) (py_cut l v)))
  refine go_iload_n (pc := 0) dX4_put_0 rfl ?_
  refine go_istore (pc := 1) dX4_put_1 (by decide) rfl ?_
  refine go_aload_n (pc := 3) dX4_put_3 rfl ?_
  refine go_getR (pc := 4) dX4_put_4 fX4_13 rfl rfl ?_
  refine go_iload_n (pc := 7) dX4_put_7 rfl ?_
  refine go_aldN (x := (nI l)) (pc := 8) dX4_put_8 rfl (by show r < 8; omega) hl ?_
  refine go_if_neN (tgt := 19) (pc := 9) dX4_put_9 (by omega) (by decide) (fun c_9 => ?_) (fun c_9 => ?_)
  · refine go_aload_n (pc := 19) dX4_put_19 rfl ?_
    refine go_getR (pc := 20) dX4_put_20 fX4_13 rfl rfl ?_
    refine go_iload_n (pc := 23) dX4_put_23 rfl ?_
    refine go_aldN (x := (nI l)) (pc := 24) dX4_put_24 rfl (by show r < 8; omega) hl ?_
    refine go_iconst (v := nI 1) (pc := 25) dX4_put_25 (by decide) ?_
    refine go_icmp_neN (tgt := 33) (pc := 26) dX4_put_26 (by omega) (by omega) (by decide) (fun c_26 => ?_) (fun c_26 => ?_)
    · refine go_aload_n (pc := 33) dX4_put_33 rfl ?_
      refine go_getR (pc := 34) dX4_put_34 fX4_9 rfl rfl ?_
      refine go_iload_n (pc := 37) dX4_put_37 rfl ?_
      refine go_bipush (v := nI 40) (pc := 38) dX4_put_38 (by decide) ?_
      refine go_imulN (pc := 40) dX4_put_40  ?_
      refine go_iload_n (pc := 41) dX4_put_41 rfl ?_
      refine go_iaddN (pc := 42) dX4_put_42  ?_
      refine go_iload (pc := 43) dX4_put_43 rfl ?_
      refine go_astN (pc := 45) dX4_put_45 rfl (by show (r * 40) + i < 320; omega) ?_
      refine go_iload (pc := 46) dX4_put_46 rfl ?_
      exact go_retI (pc := 48) dX4_put_48 (by unfold py_cut; first | rw [if_pos (by omega)] | rw [if_neg (by omega), if_pos (by omega)] | rw [if_neg (by omega), if_neg (by omega)]) (by show _ = _; unfold py_cut; first | rw [if_pos (by omega)] | rw [if_neg (by omega), if_pos (by omega)] | rw [if_neg (by omega), if_neg (by omega)])
    · refine go_iload_n (pc := 29) dX4_put_29 rfl ?_
      refine go_i2s (pc := 30) dX4_put_30 ?_
      refine go_istore (pc := 31) dX4_put_31 (by decide) rfl ?_
      refine go_aload_n (pc := 33) dX4_put_33 rfl ?_
      refine go_getR (pc := 34) dX4_put_34 fX4_9 rfl rfl ?_
      refine go_iload_n (pc := 37) dX4_put_37 rfl ?_
      refine go_bipush (v := nI 40) (pc := 38) dX4_put_38 (by decide) ?_
      refine go_imulN (pc := 40) dX4_put_40  ?_
      refine go_iload_n (pc := 41) dX4_put_41 rfl ?_
      refine go_iaddN (pc := 42) dX4_put_42  ?_
      refine go_iload (pc := 43) dX4_put_43 rfl ?_
      refine go_astN (pc := 45) dX4_put_45 rfl (by show (r * 40) + i < 320; omega) ?_
      refine go_iload (pc := 46) dX4_put_46 rfl ?_
      exact go_retI (pc := 48) dX4_put_48 (by unfold py_cut; first | rw [if_pos (by omega)] | rw [if_neg (by omega), if_pos (by omega)] | rw [if_neg (by omega), if_neg (by omega)]) (by show _ = _; unfold py_cut; first | rw [if_pos (by omega)] | rw [if_neg (by omega), if_pos (by omega)] | rw [if_neg (by omega), if_neg (by omega)])
  · refine go_iload_n (pc := 12) dX4_put_12 rfl ?_
    refine go_i2b (pc := 13) dX4_put_13 ?_
    refine go_istore (pc := 14) dX4_put_14 (by decide) rfl ?_
    refine go_goto (tgt := 33) (pc := 16) dX4_put_16 (by decide) ?_
    refine go_aload_n (pc := 33) dX4_put_33 rfl ?_
    refine go_getR (pc := 34) dX4_put_34 fX4_9 rfl rfl ?_
    refine go_iload_n (pc := 37) dX4_put_37 rfl ?_
    refine go_bipush (v := nI 40) (pc := 38) dX4_put_38 (by decide) ?_
    refine go_imulN (pc := 40) dX4_put_40  ?_
    refine go_iload_n (pc := 41) dX4_put_41 rfl ?_
    refine go_iaddN (pc := 42) dX4_put_42  ?_
    refine go_iload (pc := 43) dX4_put_43 rfl ?_
    refine go_astN (pc := 45) dX4_put_45 rfl (by show (r * 40) + i < 320; omega) ?_
    refine go_iload (pc := 46) dX4_put_46 rfl ?_
    exact go_retI (pc := 48) dX4_put_48 (by unfold py_cut; first | rw [if_pos (by omega)] | rw [if_neg (by omega), if_pos (by omega)] | rw [if_neg (by omega), if_neg (by omega)]) (by show _ = _; unfold py_cut; first | rw [if_pos (by omega)] | rw [if_neg (by omega), if_pos (by omega)] | rw [if_neg (by omega), if_neg (by omega)])
set_option maxHeartbeats 4000000 in
set_option maxRecDepth 100000 in
theorem ev_move {X : py_X} {σ : py_H} {a i b j n : Nat} (ha : a < 8) (hb : b < 8) (hi : i + n ≤ 40) (hj : j + n ≤ 40) : py_Ev X 1 yX4_move cX4_move 6 none [.ref 1, .int (nI a), .int (nI i), .int (nI b), .int (nI j), .int (nI n)] σ (py_vs none (fun s => s = (py_row σ 2 (va_cpy (σ 2) (σ 2) (a * 40 + i) (b * 40 + j) n)))) := by
  refine py_ofV (own := RX4) YX4_move.2.2.2.2 rfl rfl (Nat.le_of_ble_eq_true rfl)  ?_
  show py_Go X RX4 cX4_move 6 1 0 [some (.ref 1), some (.int (nI a)), some (.int (nI i)), some (.int (nI b)), some (.int (nI j)), some (.int (nI n))] [] σ (py_vs none (fun s => s = (py_row σ 2 (va_cpy (σ 2) (σ 2) (a * 40 + i) (b * 40 + j) n))))
  refine go_aload_n (pc := 0) dX4_move_0 rfl ?_
  refine go_getR (pc := 1) dX4_move_1 fX4_9 rfl rfl ?_
  refine go_iload_n (pc := 4) dX4_move_4 rfl ?_
  refine go_bipush (v := nI 40) (pc := 5) dX4_move_5 (by decide) ?_
  refine go_imulN (pc := 7) dX4_move_7  ?_
  refine go_iload_n (pc := 8) dX4_move_8 rfl ?_
  refine go_iaddN (pc := 9) dX4_move_9  ?_
  refine go_aload_n (pc := 10) dX4_move_10 rfl ?_
  refine go_getR (pc := 11) dX4_move_11 fX4_9 rfl rfl ?_
  refine go_iload_n (pc := 14) dX4_move_14 rfl ?_
  refine go_bipush (v := nI 40) (pc := 15) dX4_move_15 (by decide) ?_
  refine go_imulN (pc := 17) dX4_move_17  ?_
  refine go_iload (pc := 18) dX4_move_18 rfl ?_
  refine go_iaddN (pc := 20) dX4_move_20  ?_
  refine go_iload (pc := 21) dX4_move_21 rfl ?_
  refine go_copy (pc := 23) dX4_move_23 lX4_25 Ncpy Scpy Isys (by decide) (Nat.le_of_ble_eq_true rfl) rfl rfl (nI_pos (by omega)) (nI_pos (by omega)) (nI_pos (by omega)) (by rw [nI_clamp (by omega), nI_clamp (by omega)]; show (a * 40) + i + (n) ≤ 320; omega) (by rw [nI_clamp (by omega), nI_clamp (by omega)]; show (b * 40) + j + (n) ≤ 320; omega) ?_
  rw [nI_clamp (by omega), nI_clamp (by omega), nI_clamp (by omega)]
  exact go_retV (pc := 26) dX4_move_26 rfl
set_option maxHeartbeats 4000000 in
set_option maxRecDepth 100000 in
theorem ev_tell {X : py_X} {σ : py_H} {a i n : Nat} (ha : a < 8) (hi : i + n ≤ 40) (hn : n ≤ 16) : py_Ev X 1 yX4_tell cX4_tell 5 none [.ref 1, .int (nI a), .int (nI i), .int (nI n), .ref 39] σ (py_vs none (fun s => s = (py_row σ 39 (va_cpy (σ 2) (σ 39) (a * 40 + i) 0 n)))) := by
  refine py_ofV (own := RX4) YX4_tell.2.2.2.2 rfl rfl (Nat.le_of_ble_eq_true rfl)  ?_
  show py_Go X RX4 cX4_tell 5 1 0 [some (.ref 1), some (.int (nI a)), some (.int (nI i)), some (.int (nI n)), some (.ref 39)] [] σ (py_vs none (fun s => s = (py_row σ 39 (va_cpy (σ 2) (σ 39) (a * 40 + i) 0 n))))
  refine go_iload_n (pc := 0) dX4_tell_0 rfl ?_
  refine go_aload (pc := 1) dX4_tell_1 rfl ?_
  refine go_alen (v := nI 16) (pc := 3) dX4_tell_3 rfl rfl ?_
  refine go_icmp_gtN (tgt := 24) (pc := 4) dX4_tell_4 (by omega) (by omega) (by decide) (fun c_4 => ?_) (fun c_4 => ?_)
  · omega
  · refine go_aload_n (pc := 7) dX4_tell_7 rfl ?_
    refine go_getR (pc := 8) dX4_tell_8 fX4_9 rfl rfl ?_
    refine go_iload_n (pc := 11) dX4_tell_11 rfl ?_
    refine go_bipush (v := nI 40) (pc := 12) dX4_tell_12 (by decide) ?_
    refine go_imulN (pc := 14) dX4_tell_14  ?_
    refine go_iload_n (pc := 15) dX4_tell_15 rfl ?_
    refine go_iaddN (pc := 16) dX4_tell_16  ?_
    refine go_aload (pc := 17) dX4_tell_17 rfl ?_
    refine go_iconst (v := nI 0) (pc := 19) dX4_tell_19 (by decide) ?_
    refine go_iload_n (pc := 20) dX4_tell_20 rfl ?_
    refine go_copy (pc := 21) dX4_tell_21 lX4_25 Ncpy Scpy Isys (by decide) (Nat.le_of_ble_eq_true rfl) rfl rfl (nI_pos (by omega)) (nI_pos (by omega)) (nI_pos (by omega)) (by rw [nI_clamp (by omega), nI_clamp (by omega)]; show (a * 40) + i + (n) ≤ 320; omega) (by rw [nI_clamp (by omega), nI_clamp (by omega)]; show 0 + (n) ≤ 16; omega) ?_
    rw [nI_clamp (by omega), nI_clamp (by omega), nI_clamp (by omega)]
    exact go_retV (pc := 24) dX4_tell_24 rfl
set_option maxHeartbeats 4000000 in
set_option maxRecDepth 100000 in
theorem ev_lose {X : py_X} {σ : py_H} {r : Nat} (hr : r < 8) : py_Ev X 0 yX4_lose cX4_lose 3 (some .int) [.ref 1, .int (nI r)] σ (py_ret (.int (σ 4 r)) (py_up (py_up σ 3 r (-1)) 4 r (nI 0))) := by
  refine py_ofI (own := RX4) YX4_lose.2.2.2.2 rfl rfl (Nat.le_of_ble_eq_true rfl)  ?_
  show py_Go X RX4 cX4_lose 3 0 0 [some (.ref 1), some (.int (nI r)), none] [] σ (py_ret (.int (σ 4 r)) (py_up (py_up σ 3 r (-1)) 4 r (nI 0)))
  refine go_aload_n (pc := 0) dX4_lose_0 rfl ?_
  refine go_getR (pc := 1) dX4_lose_1 fX4_16 rfl rfl ?_
  refine go_iload_n (pc := 4) dX4_lose_4 rfl ?_
  refine go_aldN (x := (σ 4 (r))) (pc := 5) dX4_lose_5 rfl (by show r < 8; omega) rfl ?_
  refine go_istore_n (pc := 6) dX4_lose_6 (by decide) rfl ?_
  refine go_aload_n (pc := 7) dX4_lose_7 rfl ?_
  refine go_getR (pc := 8) dX4_lose_8 fX4_13 rfl rfl ?_
  refine go_iload_n (pc := 11) dX4_lose_11 rfl ?_
  refine go_iconst (v := -1) (pc := 12) dX4_lose_12 (by decide) ?_
  refine go_astN (pc := 13) dX4_lose_13 rfl (by show r < 8; omega) ?_
  refine go_aload_n (pc := 14) dX4_lose_14 rfl ?_
  refine go_getR (pc := 15) dX4_lose_15 fX4_16 rfl rfl ?_
  refine go_iload_n (pc := 18) dX4_lose_18 rfl ?_
  refine go_iconst (v := nI 0) (pc := 19) dX4_lose_19 (by decide) ?_
  refine go_astN (pc := 20) dX4_lose_20 rfl (by show r < 8; omega) ?_
  refine go_iload_n (pc := 21) dX4_lose_21 rfl ?_
  exact go_retI (pc := 22) dX4_lose_22 rfl rfl
set_option maxHeartbeats 4000000 in
set_option maxRecDepth 100000 in
theorem ev_hasPicture {X : py_X} {σ : py_H} {h n : Nat} (hh : py_hs h) (hn : σ h 5 = nI n) (h5 : n ≤ 5) {x : Int32} : py_Ev X 1 yX2_hasPicture cX2_hasPicture 2 (some .boolean) [.ref h, .int (x)] σ (py_ret (.int (py_b (py_pi x n))) σ) := by
  refine py_ofZ (own := RX2) YX2_hasPicture.2.2.2.2 rfl rfl (Nat.le_of_ble_eq_true rfl) py_b_ok ?_
  show py_Go X RX2 cX2_hasPicture 2 1 0 [some (.ref h), some (.int (x))] [] σ (py_ret (.int (py_b (py_pi x n))) σ)
  refine go_iload_n (pc := 0) dX2_hasPicture_0 rfl ?_
  refine go_iconst (v := nI 0) (pc := 1) dX2_hasPicture_1 (by decide) ?_
  refine go_aload_n (pc := 2) dX2_hasPicture_2 rfl ?_
  refine go_getI (x := (nI n)) (pc := 3) dX2_hasPicture_3 fX2_47 (py_hsO hh) (py_hsN hh (by decide)) hn ?_
  refine go_iconst (v := nI 1) (pc := 6) dX2_hasPicture_6 (by decide) ?_
  refine go_isub (pc := 7) dX2_hasPicture_7  ?_
  refine go_cN (pc := 8) dX2_hasPicture_8 ev_isWithin nX2_56 YX7_isWithin SX7_isWithin rfl (by decide) rfl (Nat.le_of_ble_eq_true rfl) ?_
  exact go_retI (pc := 11) dX2_hasPicture_11 (py_b_c (py_pi_w (by omega))) rfl
set_option maxHeartbeats 4000000 in
set_option maxRecDepth 100000 in
theorem ev_hasWall {X : py_X} {σ : py_H} {h n : Nat} (hh : py_hs h) (hn : σ h 4 = nI n) (h5 : n ≤ 5) {x : Int32} : py_Ev X 1 yX2_hasWall cX2_hasWall 2 (some .boolean) [.ref h, .int (x)] σ (py_ret (.int (py_b (py_pi x n))) σ) := by
  refine py_ofZ (own := RX2) YX2_hasWall.2.2.2.2 rfl rfl (Nat.le_of_ble_eq_true rfl) py_b_ok ?_
  show py_Go X RX2 cX2_hasWall 2 1 0 [some (.ref h), some (.int (x))] [] σ (py_ret (.int (py_b (py_pi x n))) σ)
  refine go_iload_n (pc := 0) dX2_hasWall_0 rfl ?_
  refine go_iconst (v := nI 0) (pc := 1) dX2_hasWall_1 (by decide) ?_
  refine go_aload_n (pc := 2) dX2_hasWall_2 rfl ?_
  refine go_getI (x := (nI n)) (pc := 3) dX2_hasWall_3 fX2_44 (py_hsO hh) (py_hsN hh (by decide)) hn ?_
  refine go_iconst (v := nI 1) (pc := 6) dX2_hasWall_6 (by decide) ?_
  refine go_isub (pc := 7) dX2_hasWall_7  ?_
  refine go_cN (pc := 8) dX2_hasWall_8 ev_isWithin nX2_56 YX7_isWithin SX7_isWithin rfl (by decide) rfl (Nat.le_of_ble_eq_true rfl) ?_
  exact go_retI (pc := 11) dX2_hasWall_11 (py_b_c (py_pi_w (by omega))) rfl
set_option maxHeartbeats 4000000 in
set_option maxRecDepth 100000 in
theorem ev_hungOn {X : py_X} {σ : py_H} {h n : Nat} (hh : py_hs h) (hn : σ h 5 = nI n) (h5 : n ≤ 5) {H : Nat → Nat} {w : Nat} (hw : ∀ p, p < n → σ (h + 6) p = nI (H (16 + 4 * p)) ∧ H (16 + 4 * p) < 4) (hb : w < 2 ^ 31) : py_Ev X 0 yX2_hungOn cX2_hungOn 4 (some .int) [.ref h, .int (nI w)] σ (py_ret (.int (nI (py_bs (fun p => decide (H (16 + 4 * p) = w)) n))) σ) := by
  refine py_ofI (own := RX2) YX2_hungOn.2.2.2.2 rfl rfl (Nat.le_of_ble_eq_true rfl)  ?_
  show py_Go X RX2 cX2_hungOn 4 0 0 [some (.ref h), some (.int (nI w)), none, none] [] σ (py_ret (.int (nI (py_bs (fun p => decide (H (16 + 4 * p) = w)) n))) σ)
  have loop : ∀ i, i ≤ n → py_Go X RX2 cX2_hungOn 4 0 4 [some (.ref h), some (.int (nI w)), some (.int (nI (py_bs (fun p => decide (H (16 + 4 * p) = w)) i))), some (.int (nI i))] [] σ (py_ret (.int (nI (py_bs (fun p => decide (H (16 + 4 * p) = w)) n))) σ) := by
    refine py_loop _ n (fun i hi ih => ?_)
    refine go_iload_n (pc := 4) dX2_hungOn_4 rfl ?_
    refine go_aload_n (pc := 5) dX2_hungOn_5 rfl ?_
    refine go_getI (x := (nI n)) (pc := 6) dX2_hungOn_6 fX2_47 (py_hsO hh) (py_hsN hh (by decide)) hn ?_
    refine go_icmp_geN (tgt := 34) (pc := 9) dX2_hungOn_9 (by omega) (by omega) (by decide) (fun c_9 => ?_) (fun c_9 => ?_)
    · refine go_iload_n (pc := 34) dX2_hungOn_34 rfl ?_
      exact go_retI (pc := 35) dX2_hungOn_35 (by rw [show i = n by omega]) rfl
    · refine go_aload_n (pc := 12) dX2_hungOn_12 rfl ?_
      refine go_getR (pc := 13) dX2_hungOn_13 fX2_27 (py_hsO hh) (py_hsR (j := 5) hh (by decide)) ?_
      refine go_iload_n (pc := 16) dX2_hungOn_16 rfl ?_
      have z9 := (hw i (by omega)).2
      refine go_aldN (x := (nI (H (16 + 4 * i)))) (pc := 17) dX2_hungOn_17 (py_hsA (j := 5) hh (by decide)) (by rw [py_hsP (j := 5) hh (by decide) (by decide)]; omega) (hw i (by omega)).1 ?_
      refine go_iload_n (pc := 18) dX2_hungOn_18 rfl ?_
      refine go_icmp_neN (tgt := 28) (pc := 19) dX2_hungOn_19 (by omega) (by omega) (by decide) (fun c_19 => ?_) (fun c_19 => ?_)
      · refine go_iincN (c := 1) (pc := 28) dX2_hungOn_28 rfl (by decide) (by decide) rfl ?_
        refine go_goto (tgt := 4) (pc := 31) dX2_hungOn_31 (by decide) ?_
        have e8 := ih c_9
        rw [← py_bs_f (f := (fun p => decide (H (16 + 4 * p) = w))) (p := i) (decide_eq_false (by omega))] at e8
        exact e8
      · refine go_iload_n (pc := 22) dX2_hungOn_22 rfl ?_
        refine go_iconst (v := nI 1) (pc := 23) dX2_hungOn_23 (by decide) ?_
        refine go_iload_n (pc := 24) dX2_hungOn_24 rfl ?_
        refine go_ishl (pc := 25) dX2_hungOn_25 ?_
        refine go_ior (pc := 26) dX2_hungOn_26 ?_
        refine go_istore_n (pc := 27) dX2_hungOn_27 (by decide) rfl ?_
        refine go_iincN (c := 1) (pc := 28) dX2_hungOn_28 rfl (by decide) (by decide) rfl ?_
        refine go_goto (tgt := 4) (pc := 31) dX2_hungOn_31 (by decide) ?_
        have e8 := ih c_9
        rw [py_or_add (py_bs_lt _ i) (by omega), py_bs_t (f := (fun p => decide (H (16 + 4 * p) = w))) (p := i) (decide_eq_true (by omega))]
        exact e8
  refine go_iconst (v := nI 0) (pc := 0) dX2_hungOn_0 (by decide) ?_
  refine go_istore_n (pc := 1) dX2_hungOn_1 (by decide) rfl ?_
  refine go_iconst (v := nI 0) (pc := 2) dX2_hungOn_2 (by decide) ?_
  refine go_istore_n (pc := 3) dX2_hungOn_3 (by decide) rfl ?_
  exact loop 0 (Nat.zero_le n)
set_option maxHeartbeats 4000000 in
set_option maxRecDepth 100000 in
theorem ev_living {X : py_X} {σ : py_H} {h n : Nat} (hh : py_hs h) (hn : σ h 5 = nI n) (h5 : n ≤ 5) {H : Nat → Nat} (hw : ∀ p, p < n → σ (h + 5) p = nI (H (15 + 4 * p)) ∧ H (15 + 4 * p) ≤ 60) : py_Ev X 0 yX2_living cX2_living 3 (some .int) [.ref h] σ (py_ret (.int (nI (py_bs (fun p => decide (0 < H (15 + 4 * p))) n))) σ) := by
  refine py_ofI (own := RX2) YX2_living.2.2.2.2 rfl rfl (Nat.le_of_ble_eq_true rfl)  ?_
  show py_Go X RX2 cX2_living 3 0 0 [some (.ref h), none, none] [] σ (py_ret (.int (nI (py_bs (fun p => decide (0 < H (15 + 4 * p))) n))) σ)
  have loop : ∀ i, i ≤ n → py_Go X RX2 cX2_living 3 0 4 [some (.ref h), some (.int (nI (py_bs (fun p => decide (0 < H (15 + 4 * p))) i))), some (.int (nI i))] [] σ (py_ret (.int (nI (py_bs (fun p => decide (0 < H (15 + 4 * p))) n))) σ) := by
    refine py_loop _ n (fun i hi ih => ?_)
    refine go_iload_n (pc := 4) dX2_living_4 rfl ?_
    refine go_aload_n (pc := 5) dX2_living_5 rfl ?_
    refine go_getI (x := (nI n)) (pc := 6) dX2_living_6 fX2_47 (py_hsO hh) (py_hsN hh (by decide)) hn ?_
    refine go_icmp_geN (tgt := 33) (pc := 9) dX2_living_9 (by omega) (by omega) (by decide) (fun c_9 => ?_) (fun c_9 => ?_)
    · refine go_iload_n (pc := 33) dX2_living_33 rfl ?_
      exact go_retI (pc := 34) dX2_living_34 (by rw [show i = n by omega]) rfl
    · refine go_aload_n (pc := 12) dX2_living_12 rfl ?_
      refine go_getR (pc := 13) dX2_living_13 fX2_24 (py_hsO hh) (py_hsR (j := 4) hh (by decide)) ?_
      refine go_iload_n (pc := 16) dX2_living_16 rfl ?_
      have z9 := (hw i (by omega)).2
      refine go_aldN (x := (nI (H (15 + 4 * i)))) (pc := 17) dX2_living_17 (py_hsA (j := 4) hh (by decide)) (by rw [py_hsP (j := 4) hh (by decide) (by decide)]; omega) (hw i (by omega)).1 ?_
      refine go_if_leN (tgt := 27) (pc := 18) dX2_living_18 (by omega) (by decide) (fun c_18 => ?_) (fun c_18 => ?_)
      · refine go_iincN (c := 1) (pc := 27) dX2_living_27 rfl (by decide) (by decide) rfl ?_
        refine go_goto (tgt := 4) (pc := 30) dX2_living_30 (by decide) ?_
        have e8 := ih c_9
        rw [← py_bs_f (f := (fun p => decide (0 < H (15 + 4 * p)))) (p := i) (decide_eq_false (by omega))] at e8
        exact e8
      · refine go_iload_n (pc := 21) dX2_living_21 rfl ?_
        refine go_iconst (v := nI 1) (pc := 22) dX2_living_22 (by decide) ?_
        refine go_iload_n (pc := 23) dX2_living_23 rfl ?_
        refine go_ishl (pc := 24) dX2_living_24 ?_
        refine go_ior (pc := 25) dX2_living_25 ?_
        refine go_istore_n (pc := 26) dX2_living_26 (by decide) rfl ?_
        refine go_iincN (c := 1) (pc := 27) dX2_living_27 rfl (by decide) (by decide) rfl ?_
        refine go_goto (tgt := 4) (pc := 30) dX2_living_30 (by decide) ?_
        have e8 := ih c_9
        rw [py_or_add (py_bs_lt _ i) (by omega), py_bs_t (f := (fun p => decide (0 < H (15 + 4 * p)))) (p := i) (decide_eq_true (by omega))]
        exact e8
  refine go_iconst (v := nI 0) (pc := 0) dX2_living_0 (by decide) ?_
  refine go_istore_n (pc := 1) dX2_living_1 (by decide) rfl ?_
  refine go_iconst (v := nI 0) (pc := 2) dX2_living_2 (by decide) ?_
  refine go_istore_n (pc := 3) dX2_living_3 (by decide) rfl ?_
  exact loop 0 (Nat.zero_le n)
