/-! contracts: the class's small methods -/
set_option maxHeartbeats 4000000 in
set_option maxRecDepth 100000 in
theorem ev_isWithin {X : py_X} {σ : py_H} {x a b : Int32} : py_Ev X 0 yX7_isWithin cX7_isWithin 3 (some .boolean) [.int (x), .int (a), .int (b)] σ (py_ret (.int (py_b (a ≤ x ∧ x ≤ b))) σ) := by
  refine py_ofZ (own := RX7) YX7_isWithin.2.2.2.2 rfl rfl (Nat.le_of_ble_eq_true rfl) py_b_ok ?_
  show py_Go X RX7 cX7_isWithin 3 0 0 [some (.int (x)), some (.int (a)), some (.int (b))] [] σ (py_ret (.int (py_b (a ≤ x ∧ x ≤ b))) σ)
  refine go_iload_n (pc := 0) dX7_isWithin_0 rfl ?_
  refine go_iload_n (pc := 1) dX7_isWithin_1 rfl ?_
  refine go_icmp_lt (tgt := 14) (pc := 2) dX7_isWithin_2 (by decide) (fun c_2 => ?_) (fun c_2 => ?_)
  · refine go_iconst (v := nI 0) (pc := 14) dX7_isWithin_14 (by decide) ?_
    exact go_retI (pc := 15) dX7_isWithin_15 (py_b_f (by simp only [Int32.lt_iff_toInt_lt, Int32.le_iff_toInt_le] at *; omega)).symm rfl
  · refine go_iload_n (pc := 5) dX7_isWithin_5 rfl ?_
    refine go_iload_n (pc := 6) dX7_isWithin_6 rfl ?_
    refine go_icmp_gt (tgt := 14) (pc := 7) dX7_isWithin_7 (by decide) (fun c_7 => ?_) (fun c_7 => ?_)
    · refine go_iconst (v := nI 0) (pc := 14) dX7_isWithin_14 (by decide) ?_
      exact go_retI (pc := 15) dX7_isWithin_15 (py_b_f (by simp only [Int32.lt_iff_toInt_lt, Int32.le_iff_toInt_le] at *; omega)).symm rfl
    · refine go_iconst (v := nI 1) (pc := 10) dX7_isWithin_10 (by decide) ?_
      refine go_goto (tgt := 15) (pc := 11) dX7_isWithin_11 (by decide) ?_
      exact go_retI (pc := 15) dX7_isWithin_15 (py_b_t (by simp only [Int32.lt_iff_toInt_lt, Int32.le_iff_toInt_le] at *; omega)).symm rfl
set_option maxHeartbeats 4000000 in
set_option maxRecDepth 100000 in
theorem ev_isAhead {X : py_X} {σ : py_H} {x : Int32} : py_Ev X 1 yX7_isAhead cX7_isAhead 1 (some .boolean) [.int (x)] σ (py_ret (.int (py_b (nI 0 ≤ x ∧ x ≤ nI 60))) σ) := by
  refine py_ofZ (own := RX7) YX7_isAhead.2.2.2.2 rfl rfl (Nat.le_of_ble_eq_true rfl) py_b_ok ?_
  show py_Go X RX7 cX7_isAhead 1 1 0 [some (.int (x))] [] σ (py_ret (.int (py_b (nI 0 ≤ x ∧ x ≤ nI 60))) σ)
  refine go_iload_n (pc := 0) dX7_isAhead_0 rfl ?_
  refine go_iconst (v := nI 0) (pc := 1) dX7_isAhead_1 (by decide) ?_
  refine go_bipush (v := nI 60) (pc := 2) dX7_isAhead_2 (by decide) ?_
  refine go_cS (pc := 4) dX7_isAhead_4 ev_isWithin lX7_101 YX7_isWithin SX7_isWithin rfl (by decide) rfl (Nat.le_of_ble_eq_true rfl) ?_
  exact go_retI (pc := 7) dX7_isAhead_7 rfl rfl
set_option maxHeartbeats 4000000 in
set_option maxRecDepth 100000 in
theorem ev_hasPicture {X : py_X} {σ : py_H} {h n : Nat} (hh : py_hs h) (hn : σ h 5 = nI n) (h5 : n ≤ 5) {x : Int32} : py_Ev X 1 yX2_hasPicture cX2_hasPicture 2 (some .boolean) [.ref h, .int (x)] σ (py_ret (.int (py_b (py_pi x n))) σ) := by
  refine py_ofZ (own := RX2) YX2_hasPicture.2.2.2.2 rfl rfl (Nat.le_of_ble_eq_true rfl) py_b_ok ?_
  show py_Go X RX2 cX2_hasPicture 2 1 0 [some (.ref h), some (.int (x))] [] σ (py_ret (.int (py_b (py_pi x n))) σ)
  refine go_iload_n (pc := 0) dX2_hasPicture_0 rfl ?_
  refine go_iconst (v := nI 0) (pc := 1) dX2_hasPicture_1 (by decide) ?_
  refine go_aload_n (pc := 2) dX2_hasPicture_2 rfl ?_
  refine go_getI (x := (nI n)) (pc := 3) dX2_hasPicture_3 fX2_47 (py_hsO hh) (py_hsN hh (by decide)) hn ?_
  refine go_iconst (v := nI 1) (pc := 6) dX2_hasPicture_6 (by decide) ?_
  refine go_isub (pc := 7) dX2_hasPicture_7  ?_
  refine go_cN (pc := 8) dX2_hasPicture_8 ev_isWithin nX2_56 YX7_isWithin SX7_isWithin rfl (by decide) rfl (Nat.le_of_ble_eq_true rfl) ?_
  exact go_retI (pc := 11) dX2_hasPicture_11 (py_b_c (py_pi_w (by omega))) rfl
set_option maxHeartbeats 4000000 in
set_option maxRecDepth 100000 in
theorem ev_hasWall {X : py_X} {σ : py_H} {h n : Nat} (hh : py_hs h) (hn : σ h 4 = nI n) (h5 : n ≤ 5) {x : Int32} : py_Ev X 1 yX2_hasWall cX2_hasWall 2 (some .boolean) [.ref h, .int (x)] σ (py_ret (.int (py_b (py_pi x n))) σ) := by
  refine py_ofZ (own := RX2) YX2_hasWall.2.2.2.2 rfl rfl (Nat.le_of_ble_eq_true rfl) py_b_ok ?_
  show py_Go X RX2 cX2_hasWall 2 1 0 [some (.ref h), some (.int (x))] [] σ (py_ret (.int (py_b (py_pi x n))) σ)
  refine go_iload_n (pc := 0) dX2_hasWall_0 rfl ?_
  refine go_iconst (v := nI 0) (pc := 1) dX2_hasWall_1 (by decide) ?_
  refine go_aload_n (pc := 2) dX2_hasWall_2 rfl ?_
  refine go_getI (x := (nI n)) (pc := 3) dX2_hasWall_3 fX2_44 (py_hsO hh) (py_hsN hh (by decide)) hn ?_
  refine go_iconst (v := nI 1) (pc := 6) dX2_hasWall_6 (by decide) ?_
  refine go_isub (pc := 7) dX2_hasWall_7  ?_
  refine go_cN (pc := 8) dX2_hasWall_8 ev_isWithin nX2_56 YX7_isWithin SX7_isWithin rfl (by decide) rfl (Nat.le_of_ble_eq_true rfl) ?_
  exact go_retI (pc := 11) dX2_hasWall_11 (py_b_c (py_pi_w (by omega))) rfl
set_option maxHeartbeats 4000000 in
set_option maxRecDepth 100000 in
theorem ev_hungOn {X : py_X} {σ : py_H} {h n : Nat} (hh : py_hs h) (hn : σ h 5 = nI n) (h5 : n ≤ 5) {w : Int32} : py_Ev X 0 yX2_hungOn cX2_hungOn 4 (some .int) [.ref h, .int (w)] σ (py_ret (.int (nI (py_bs (fun p => decide (σ (h + 6) p = w)) n))) σ) := by
  refine py_ofI (own := RX2) YX2_hungOn.2.2.2.2 rfl rfl (Nat.le_of_ble_eq_true rfl)  ?_
  show py_Go X RX2 cX2_hungOn 4 0 0 [some (.ref h), some (.int (w)), none, none] [] σ (py_ret (.int (nI (py_bs (fun p => decide (σ (h + 6) p = w)) n))) σ)
  have loop : ∀ i, i ≤ n → py_Go X RX2 cX2_hungOn 4 0 4 [some (.ref h), some (.int (w)), some (.int (nI (py_bs (fun p => decide (σ (h + 6) p = w)) i))), some (.int (nI i))] [] σ (py_ret (.int (nI (py_bs (fun p => decide (σ (h + 6) p = w)) n))) σ) := by
    refine py_loop _ n (fun i hi ih => ?_)
    refine go_iload_n (pc := 4) dX2_hungOn_4 rfl ?_
    refine go_aload_n (pc := 5) dX2_hungOn_5 rfl ?_
    refine go_getI (x := (nI n)) (pc := 6) dX2_hungOn_6 fX2_47 (py_hsO hh) (py_hsN hh (by decide)) hn ?_
    refine go_icmp_geN (tgt := 34) (pc := 9) dX2_hungOn_9 (by omega) (by omega) (by decide) (fun c_9 => ?_) (fun c_9 => ?_)
    · refine go_iload_n (pc := 34) dX2_hungOn_34 rfl ?_
      exact go_retI (pc := 35) dX2_hungOn_35 (by rw [show i = n by omega]) rfl
    · refine go_aload_n (pc := 12) dX2_hungOn_12 rfl ?_
      refine go_getR (pc := 13) dX2_hungOn_13 fX2_27 (py_hsO hh) (py_hsR (j := 5) hh (by decide)) ?_
      refine go_iload_n (pc := 16) dX2_hungOn_16 rfl ?_
      refine go_aldN (x := (σ (h + 6) i)) (pc := 17) dX2_hungOn_17 (py_hsA (j := 5) hh (by decide)) (by rw [py_hsP (j := 5) hh (by decide) (by decide)]; omega) rfl ?_
      refine go_iload_n (pc := 18) dX2_hungOn_18 rfl ?_
      refine go_icmp_ne (tgt := 28) (pc := 19) dX2_hungOn_19 (by decide) (fun c_19 => ?_) (fun c_19 => ?_)
      · refine go_iincN (c := 1) (pc := 28) dX2_hungOn_28 rfl (by decide) (by decide) rfl ?_
        refine go_goto (tgt := 4) (pc := 31) dX2_hungOn_31 (by decide) ?_
        have e8 := ih c_9
        rw [← py_bs_f (f := (fun p => decide (σ (h + 6) p = w))) (p := i) (by simpa using c_19)] at e8
        exact e8
      · refine go_iload_n (pc := 22) dX2_hungOn_22 rfl ?_
        refine go_iconst (v := nI 1) (pc := 23) dX2_hungOn_23 (by decide) ?_
        refine go_iload_n (pc := 24) dX2_hungOn_24 rfl ?_
        refine go_ishl (pc := 25) dX2_hungOn_25 ?_
        refine go_ior (pc := 26) dX2_hungOn_26 ?_
        refine go_istore_n (pc := 27) dX2_hungOn_27 (by decide) rfl ?_
        refine go_iincN (c := 1) (pc := 28) dX2_hungOn_28 rfl (by decide) (by decide) rfl ?_
        refine go_goto (tgt := 4) (pc := 31) dX2_hungOn_31 (by decide) ?_
        have e8 := ih c_9
        rw [py_or_add (py_bs_lt _ i) (by omega), py_bs_t (f := (fun p => decide (σ (h + 6) p = w))) (p := i) (by simpa using c_19)]
        exact e8
  refine go_iconst (v := nI 0) (pc := 0) dX2_hungOn_0 (by decide) ?_
  refine go_istore_n (pc := 1) dX2_hungOn_1 (by decide) rfl ?_
  refine go_iconst (v := nI 0) (pc := 2) dX2_hungOn_2 (by decide) ?_
  refine go_istore_n (pc := 3) dX2_hungOn_3 (by decide) rfl ?_
  exact loop 0 (Nat.zero_le n)
set_option maxHeartbeats 4000000 in
set_option maxRecDepth 100000 in
theorem ev_living {X : py_X} {σ : py_H} {h n : Nat} (hh : py_hs h) (hn : σ h 5 = nI n) (h5 : n ≤ 5) : py_Ev X 0 yX2_living cX2_living 3 (some .int) [.ref h] σ (py_ret (.int (nI (py_bs (fun p => decide (0 < σ (h + 5) p)) n))) σ) := by
  refine py_ofI (own := RX2) YX2_living.2.2.2.2 rfl rfl (Nat.le_of_ble_eq_true rfl)  ?_
  show py_Go X RX2 cX2_living 3 0 0 [some (.ref h), none, none] [] σ (py_ret (.int (nI (py_bs (fun p => decide (0 < σ (h + 5) p)) n))) σ)
  have loop : ∀ i, i ≤ n → py_Go X RX2 cX2_living 3 0 4 [some (.ref h), some (.int (nI (py_bs (fun p => decide (0 < σ (h + 5) p)) i))), some (.int (nI i))] [] σ (py_ret (.int (nI (py_bs (fun p => decide (0 < σ (h + 5) p)) n))) σ) := by
    refine py_loop _ n (fun i hi ih => ?_)
    refine go_iload_n (pc := 4) dX2_living_4 rfl ?_
    refine go_aload_n (pc := 5) dX2_living_5 rfl ?_
    refine go_getI (x := (nI n)) (pc := 6) dX2_living_6 fX2_47 (py_hsO hh) (py_hsN hh (by decide)) hn ?_
    refine go_icmp_geN (tgt := 33) (pc := 9) dX2_living_9 (by omega) (by omega) (by decide) (fun c_9 => ?_) (fun c_9 => ?_)
    · refine go_iload_n (pc := 33) dX2_living_33 rfl ?_
      exact go_retI (pc := 34) dX2_living_34 (by rw [show i = n by omega]) rfl
    · refine go_aload_n (pc := 12) dX2_living_12 rfl ?_
      refine go_getR (pc := 13) dX2_living_13 fX2_24 (py_hsO hh) (py_hsR (j := 4) hh (by decide)) ?_
      refine go_iload_n (pc := 16) dX2_living_16 rfl ?_
      refine go_aldN (x := (σ (h + 5) i)) (pc := 17) dX2_living_17 (py_hsA (j := 4) hh (by decide)) (by rw [py_hsP (j := 4) hh (by decide) (by decide)]; omega) rfl ?_
      refine go_if_le (tgt := 27) (pc := 18) dX2_living_18 (by decide) (fun c_18 => ?_) (fun c_18 => ?_)
      · refine go_iincN (c := 1) (pc := 27) dX2_living_27 rfl (by decide) (by decide) rfl ?_
        refine go_goto (tgt := 4) (pc := 30) dX2_living_30 (by decide) ?_
        have e8 := ih c_9
        rw [← py_bs_f (f := (fun p => decide (0 < σ (h + 5) p))) (p := i) (by simpa using c_18)] at e8
        exact e8
      · refine go_iload_n (pc := 21) dX2_living_21 rfl ?_
        refine go_iconst (v := nI 1) (pc := 22) dX2_living_22 (by decide) ?_
        refine go_iload_n (pc := 23) dX2_living_23 rfl ?_
        refine go_ishl (pc := 24) dX2_living_24 ?_
        refine go_ior (pc := 25) dX2_living_25 ?_
        refine go_istore_n (pc := 26) dX2_living_26 (by decide) rfl ?_
        refine go_iincN (c := 1) (pc := 27) dX2_living_27 rfl (by decide) (by decide) rfl ?_
        refine go_goto (tgt := 4) (pc := 30) dX2_living_30 (by decide) ?_
        have e8 := ih c_9
        rw [py_or_add (py_bs_lt _ i) (by omega), py_bs_t (f := (fun p => decide (0 < σ (h + 5) p))) (p := i) (by simpa using c_18)]
        exact e8
  refine go_iconst (v := nI 0) (pc := 0) dX2_living_0 (by decide) ?_
  refine go_istore_n (pc := 1) dX2_living_1 (by decide) rfl ?_
  refine go_iconst (v := nI 0) (pc := 2) dX2_living_2 (by decide) ?_
  refine go_istore_n (pc := 3) dX2_living_3 (by decide) rfl ?_
  exact loop 0 (Nat.zero_le n)
