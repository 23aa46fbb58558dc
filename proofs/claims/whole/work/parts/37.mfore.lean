/-! contracts: what the reference foretells -/
theorem py_lvH_age (H : Nat → Nat) (d : Nat) : py_lvH (py_age H d) = py_bs (fun p => decide (0 < py_lf H p d)) (H 12) := by
  unfold py_lvH
  rw [py_age_12]
  exact py_bs_cong (fun k hk => by rw [py_lf_age hk])
theorem py_lvH_lt {H : Nat → Nat} (h : H 12 ≤ 5) : py_lvH H < 32 := Nat.lt_of_lt_of_le (py_bs_lt _ _) (py_p2 h).2.2
theorem py_age_60 {H : Nat → Nat} (hm : py_wm H) (d : Nat) (hd : H 2 + d ≤ 5000) : ∀ p, p < py_age H d 12 → py_age H d (15 + 4 * p) ≤ 60 := fun p hp => ((py_age_wm hm hd).2.2.2.2 p hp).2.2.2.1
set_option maxHeartbeats 4000000 in
set_option maxRecDepth 100000 in
theorem mo_remains {X : py_X} {σ : py_H} {R : py_Rt} {q : Int32} {B : Nat → Nat} {N : Nat} {ft : Int32} {H : Nat → Nat} {n : Nat} {As : Nat → Nat → Nat} {I0 I1 : Option (Nat → Nat)} {t : Nat} {tr : Nat → Int32} (hI : py_IM σ R q B N ft H n As I0 I1 t tr) (hW : py_IW H n As I0 I1 t) {x y : Int32} : py_Ev X 3 yX8_remains cX8_remains 3 (some .int) [.ref 47, .int (x), .int (y)] σ (py_vs (some (.int (an_remains H x y))) (fun s => py_IM s R q B N ft H n As I0 I1 t tr ∧ py_fr py_SM [] σ s)) := by
  obtain ⟨h1, h2, h3, h4, h5, h6, h7, h8, h9⟩ := id hI
  obtain ⟨hw, hA, hJ0, hJ1, ht16⟩ := id hW
  obtain ⟨w0, w1, w2, w3, w12, w03, w00, wW, wP, wR⟩ := id hw
  have hm := py_wm_of hw
  refine py_ofI (own := RX8) YX8_remains.2.2.2.2 rfl rfl (Nat.le_of_ble_eq_true rfl)  ?_
  show py_Go X RX8 cX8_remains 3 3 0 [some (.ref 47), some (.int (x)), some (.int (y))] [] σ (py_vs (some (.int (an_remains H x y))) (fun s => py_IM s R q B N ft H n As I0 I1 t tr ∧ py_fr py_SM [] σ s))
  refine go_aload_n (pc := 0) dX8_remains_0 rfl ?_
  refine go_iload_n (pc := 1) dX8_remains_1 rfl ?_
  refine go_cV (pc := 2) dX8_remains_2 (ev_isPicture h5 w12) lX8_177 YX8_isPicture VX8_isPicture rfl rfl rfl (by decide) rfl (Nat.le_of_ble_eq_true rfl) ?_
  refine go_if_eqB (tgt := 15) (pc := 5) dX8_remains_5 (by decide) (fun c_5 => ?_) (fun c_5 => ?_)
  · refine go_ldc (pc := 15) dX8_remains_15 kX8_67 ?_
    exact go_retI (pc := 17) dX8_remains_17 (by unfold an_remains; (repeat' split) <;> first | rfl | omega) ⟨hI, py_fr.rf _ _ σ⟩
  · obtain ⟨p, rfl, hp, hpI, hpC⟩ := py_pi_of (x := x) c_5
    refine go_iload_n (pc := 8) dX8_remains_8 rfl ?_
    refine go_cS (pc := 9) dX8_remains_9 ev_misFar lX8_183 YX8_isFar SX8_isFar rfl (by decide) rfl (Nat.le_of_ble_eq_true rfl) ?_
    refine go_if_neB (tgt := 18) (pc := 12) dX8_remains_12 (by decide) (fun c_12 => ?_) (fun c_12 => ?_)
    · obtain ⟨k, rfl, hk0, hk, hkI, hkC⟩ := py_rg_of (x := y) (a := 0) (b := 60) c_12
      refine go_aload_n (pc := 18) dX8_remains_18 rfl ?_
      refine go_cVv (pc := 19) dX8_remains_19 (ev_tries h5) lX8_186 YX8_tries VX8_tries rfl rfl rfl (by decide) rfl (Nat.le_of_ble_eq_true rfl) (fun s1 hs1 => ?_)
      obtain ⟨hT1, hf1⟩ := hs1
      refine go_aload_n (pc := 22) dX8_remains_22 rfl ?_
      refine go_iload_n (pc := 23) dX8_remains_23 rfl ?_
      refine go_cVv (pc := 24) dX8_remains_24 (ev_goes hT1 hm (by omega) (by omega)) lX8_189 YX8_goes VX8_goes rfl rfl rfl (by decide) rfl (Nat.le_of_ble_eq_true rfl) (fun s2 hs2 => ?_)
      obtain ⟨hT2, hf2⟩ := hs2
      have hf := hf1.tr hf2 (by decide) (by decide)
      refine go_aload_n (pc := 27) dX8_remains_27 rfl ?_
      refine go_getR (pc := 28) dX8_remains_28 fX8_31 rfl rfl ?_
      refine go_bipush (v := nI 13) (pc := 31) dX8_remains_31 (by decide) ?_
      refine go_iconst (v := nI 4) (pc := 33) dX8_remains_33 (by decide) ?_
      refine go_iload_n (pc := 34) dX8_remains_34 rfl ?_
      refine go_imulN (pc := 35) dX8_remains_35  ?_
      refine go_iaddN (pc := 36) dX8_remains_36  ?_
      refine go_iconst (v := nI 2) (pc := 37) dX8_remains_37 (by decide) ?_
      refine go_iaddN (pc := 38) dX8_remains_38  ?_
      refine go_aldN (x := (nI (py_age H k (15 + 4 * p)))) (pc := 39) dX8_remains_39 rfl (by show (13 + (4 * p)) + 2 < 33; omega) (py_hm_at hT2 (show (13 + (4 * p)) + 2 = 15 + 4 * p by omega) (by omega)) ?_
      exact go_retI (pc := 40) dX8_remains_40 (by unfold an_remains; rw [if_pos (by omega), hpC, hkC, py_lf_age hp]) ⟨⟨py_rk_fr hf (by decide) h1, (by rw [hf 47 4 (by decide) (by decide)]; exact h2), py_tm_fr hf (by decide) h3, (by rw [hf 47 7 (by decide) (by decide)]; exact h4), (by rw [hf.at 53 (by decide) (by decide)]; exact h5), py_am_fr hf (by decide) h6, py_ik_fr hf (by decide) h7, py_ik_fr hf (by decide) h8, py_tn_fr hf (by decide) h9⟩, hf.wd (by decide) (by decide)⟩
    · refine go_ldc (pc := 15) dX8_remains_15 kX8_67 ?_
      exact go_retI (pc := 17) dX8_remains_17 (by unfold an_remains; (repeat' split) <;> first | rfl | omega) ⟨hI, py_fr.rf _ _ σ⟩
set_option maxHeartbeats 4000000 in
set_option maxRecDepth 100000 in
theorem mo_lives {X : py_X} {σ : py_H} {R : py_Rt} {q : Int32} {B : Nat → Nat} {N : Nat} {ft : Int32} {H : Nat → Nat} {n : Nat} {As : Nat → Nat → Nat} {I0 I1 : Option (Nat → Nat)} {t : Nat} {tr : Nat → Int32} (hI : py_IM σ R q B N ft H n As I0 I1 t tr) (hW : py_IW H n As I0 I1 t) {x : Int32} : py_Ev X 3 yX8_lives cX8_lives 2 (some .int) [.ref 47, .int (x)] σ (py_vs (some (.int (an_lives H x))) (fun s => py_IM s R q B N ft H n As I0 I1 t tr ∧ py_fr py_SM [] σ s)) := by
  obtain ⟨h1, h2, h3, h4, h5, h6, h7, h8, h9⟩ := id hI
  obtain ⟨hw, hA, hJ0, hJ1, ht16⟩ := id hW
  obtain ⟨w0, w1, w2, w3, w12, w03, w00, wW, wP, wR⟩ := id hw
  have hm := py_wm_of hw
  refine py_ofI (own := RX8) YX8_lives.2.2.2.2 rfl rfl (Nat.le_of_ble_eq_true rfl)  ?_
  show py_Go X RX8 cX8_lives 2 3 0 [some (.ref 47), some (.int (x))] [] σ (py_vs (some (.int (an_lives H x))) (fun s => py_IM s R q B N ft H n As I0 I1 t tr ∧ py_fr py_SM [] σ s))
  refine go_aload_n (pc := 0) dX8_lives_0 rfl ?_
  refine go_cV (pc := 1) dX8_lives_1 (ev_isHouse h5 w0) lX8_166 YX8_isHouse VX8_isHouse rfl rfl rfl (by decide) rfl (Nat.le_of_ble_eq_true rfl) ?_
  refine go_if_neB (tgt := 10) (pc := 4) dX8_lives_4 (by decide) (fun c_4 => ?_) (fun c_4 => ?_)
  · refine go_iload_n (pc := 10) dX8_lives_10 rfl ?_
    refine go_cS (pc := 11) dX8_lives_11 ev_misFar lX8_183 YX8_isFar SX8_isFar rfl (by decide) rfl (Nat.le_of_ble_eq_true rfl) ?_
    refine go_if_neB (tgt := 20) (pc := 14) dX8_lives_14 (by decide) (fun c_14 => ?_) (fun c_14 => ?_)
    · obtain ⟨k, rfl, hk0, hk, hkI, hkC⟩ := py_rg_of (x := x) (a := 0) (b := 60) c_14
      refine go_aload_n (pc := 20) dX8_lives_20 rfl ?_
      refine go_cVv (pc := 21) dX8_lives_21 (ev_tries h5) lX8_186 YX8_tries VX8_tries rfl rfl rfl (by decide) rfl (Nat.le_of_ble_eq_true rfl) (fun s1 hs1 => ?_)
      obtain ⟨hT1, hf1⟩ := hs1
      refine go_aload_n (pc := 24) dX8_lives_24 rfl ?_
      refine go_iload_n (pc := 25) dX8_lives_25 rfl ?_
      refine go_cVv (pc := 26) dX8_lives_26 (ev_goes hT1 hm (by omega) (by omega)) lX8_189 YX8_goes VX8_goes rfl rfl rfl (by decide) rfl (Nat.le_of_ble_eq_true rfl) (fun s2 hs2 => ?_)
      obtain ⟨hT2, hf2⟩ := hs2
      have hf := hf1.tr hf2 (by decide) (by decide)
      refine go_aload_n (pc := 29) dX8_lives_29 rfl ?_
      refine go_getR (pc := 30) dX8_lives_30 fX8_31 rfl rfl ?_
      refine go_cS (pc := 33) dX8_lives_33 (ev_mliving_55 hT2 (by rw [py_age_12]; exact w12) (py_age_60 hm k (by omega))) lX8_173 YX8_living SX8_living rfl (by decide) rfl (Nat.le_of_ble_eq_true rfl) ?_
      exact go_retI (pc := 36) dX8_lives_36 (by unfold an_lives; rw [if_pos (by omega), if_pos (by omega), hkC, py_lvH_age]) ⟨⟨py_rk_fr hf (by decide) h1, (by rw [hf 47 4 (by decide) (by decide)]; exact h2), py_tm_fr hf (by decide) h3, (by rw [hf 47 7 (by decide) (by decide)]; exact h4), (by rw [hf.at 53 (by decide) (by decide)]; exact h5), py_am_fr hf (by decide) h6, py_ik_fr hf (by decide) h7, py_ik_fr hf (by decide) h8, py_tn_fr hf (by decide) h9⟩, hf.wd (by decide) (by decide)⟩
    · refine go_ldc (pc := 17) dX8_lives_17 kX8_67 ?_
      exact go_retI (pc := 19) dX8_lives_19 (by unfold an_lives; (repeat' split) <;> first | rfl | omega) ⟨hI, py_fr.rf _ _ σ⟩
  · refine go_ldc (pc := 7) dX8_lives_7 kX8_169 ?_
    exact go_retI (pc := 9) dX8_lives_9 (by unfold an_lives; (repeat' split) <;> first | rfl | omega) ⟨hI, py_fr.rf _ _ σ⟩
set_option maxHeartbeats 4000000 in
set_option maxRecDepth 100000 in
theorem mo_dies {X : py_X} {σ : py_H} {R : py_Rt} {q : Int32} {B : Nat → Nat} {N : Nat} {ft : Int32} {H : Nat → Nat} {n : Nat} {As : Nat → Nat → Nat} {I0 I1 : Option (Nat → Nat)} {t : Nat} {tr : Nat → Int32} (hI : py_IM σ R q B N ft H n As I0 I1 t tr) (hW : py_IW H n As I0 I1 t) {x : Int32} : py_Ev X 3 yX8_dies cX8_dies 3 (some .int) [.ref 47, .int (x)] σ (py_vs (some (.int (an_dies H x))) (fun s => py_IM s R q B N ft H n As I0 I1 t tr ∧ py_fr py_SM [] σ s)) := by
  obtain ⟨h1, h2, h3, h4, h5, h6, h7, h8, h9⟩ := id hI
  obtain ⟨hw, hA, hJ0, hJ1, ht16⟩ := id hW
  obtain ⟨w0, w1, w2, w3, w12, w03, w00, wW, wP, wR⟩ := id hw
  have hm := py_wm_of hw
  refine py_ofI (own := RX8) YX8_dies.2.2.2.2 rfl rfl (Nat.le_of_ble_eq_true rfl)  ?_
  show py_Go X RX8 cX8_dies 3 3 0 [some (.ref 47), some (.int (x)), none] [] σ (py_vs (some (.int (an_dies H x))) (fun s => py_IM s R q B N ft H n As I0 I1 t tr ∧ py_fr py_SM [] σ s))
  have loop : ∀ p, (p < H 12 ∧ x = nI p ∧ (nI p).toInt = (p : Int) ∧ (nI p).toNatClampNeg = p) → ∀ i, i ≤ 100 → ∀ s, py_hm (s 55) 0 (py_age H i) → py_fr [55] [] σ s → i ≤ py_dy H p → py_Go X RX8 cX8_dies 3 3 17 [some (.ref 47), some (.int (nI p)), some (.int (nI i))] [] s (py_vs (some (.int (an_dies H x))) (fun s => py_IM s R q B N ft H n As I0 I1 t tr ∧ py_fr py_SM [] σ s)) := by
    intro p hpp
    obtain ⟨hp, hx, hpI, hpC⟩ := hpp
    subst hx
    refine py_loop _ 100 (fun i hi ih s hT hs hdi => ?_)
    refine go_iload_n (pc := 17) dX8_dies_17 rfl ?_
    refine go_bipush (v := nI 100) (pc := 18) dX8_dies_18 (by decide) ?_
    refine go_icmp_geN (tgt := 54) (pc := 20) dX8_dies_20 (by omega) (by omega) (by decide) (fun c_20 => ?_) (fun c_20 => ?_)
    · refine go_ldc (pc := 54) dX8_dies_54 kX8_53 ?_
      exact go_retI (pc := 56) dX8_dies_56 (by unfold an_dies; rw [if_pos (by omega), hpC]; unfold py_dyI; rw [if_neg (by omega)]) ⟨⟨py_rk_fr hs (by decide) h1, (by rw [hs 47 4 (by decide) (by decide)]; exact h2), py_tm_fr hs (by decide) h3, (by rw [hs 47 7 (by decide) (by decide)]; exact h4), (by rw [hs.at 53 (by decide) (by decide)]; exact h5), py_am_fr hs (by decide) h6, py_ik_fr hs (by decide) h7, py_ik_fr hs (by decide) h8, py_tn_fr hs (by decide) h9⟩, hs.wd (by decide) (by decide)⟩
    · refine go_aload_n (pc := 23) dX8_dies_23 rfl ?_
      refine go_getR (pc := 24) dX8_dies_24 fX8_31 rfl rfl ?_
      refine go_bipush (v := nI 13) (pc := 27) dX8_dies_27 (by decide) ?_
      refine go_iconst (v := nI 4) (pc := 29) dX8_dies_29 (by decide) ?_
      refine go_iload_n (pc := 30) dX8_dies_30 rfl ?_
      refine go_imulN (pc := 31) dX8_dies_31  ?_
      refine go_iaddN (pc := 32) dX8_dies_32  ?_
      refine go_iconst (v := nI 2) (pc := 33) dX8_dies_33 (by decide) ?_
      refine go_iaddN (pc := 34) dX8_dies_34  ?_
      refine go_aldN (x := (nI (py_lf H p i))) (pc := 35) dX8_dies_35 rfl (by show (13 + (4 * p)) + 2 < 33; omega) ((py_hm_at hT (show (13 + (4 * p)) + 2 = 15 + 4 * p by omega) (by omega)).trans (congrArg nI (py_lf_age hp i))) ?_
      have hl60 : py_lf H p i ≤ 60 := by have z := wP p hp; unfold py_lf; omega
      refine go_if_neN (tgt := 41) (pc := 36) dX8_dies_36 (by omega) (by decide) (fun c_36 => ?_) (fun c_36 => ?_)
      · refine go_aload_n (pc := 41) dX8_dies_41 rfl ?_
        refine go_getR (pc := 42) dX8_dies_42 fX8_31 rfl rfl ?_
        refine go_cSv (pc := 45) dX8_dies_45 (ev_passes_55 hT (py_age_wm hm (by omega))) lX8_162 YX8_passes SX8_passes rfl (by decide) rfl (Nat.le_of_ble_eq_true rfl) (fun s1 hs1 => ?_)
        obtain ⟨hT1, hf1⟩ := hs1
        rw [py_age_ag hm] at hT1
        refine go_iincN (c := 1) (pc := 48) dX8_dies_48 rfl (by decide) (by decide) rfl ?_
        refine go_goto (tgt := 17) (pc := 51) dX8_dies_51 (by decide) ?_
        have hdy : ¬ py_dy H p ≤ i := fun z => by have z2 := (py_dy_iff hw hp (by omega)).mpr z; omega
        exact ih (by omega) s1 hT1 (hs.tr hf1 (by decide) (by decide)) (by omega)
      · refine go_iload_n (pc := 39) dX8_dies_39 rfl ?_
        have hdy := (py_dy_iff hw hp (show i < 100 by omega)).mp c_36
        exact go_retI (pc := 40) dX8_dies_40 (by unfold an_dies; rw [if_pos (by omega), hpC]; unfold py_dyI; rw [if_pos (by omega), show py_dy H p = i by omega]) ⟨⟨py_rk_fr hs (by decide) h1, (by rw [hs 47 4 (by decide) (by decide)]; exact h2), py_tm_fr hs (by decide) h3, (by rw [hs 47 7 (by decide) (by decide)]; exact h4), (by rw [hs.at 53 (by decide) (by decide)]; exact h5), py_am_fr hs (by decide) h6, py_ik_fr hs (by decide) h7, py_ik_fr hs (by decide) h8, py_tn_fr hs (by decide) h9⟩, hs.wd (by decide) (by decide)⟩
  refine go_aload_n (pc := 0) dX8_dies_0 rfl ?_
  refine go_iload_n (pc := 1) dX8_dies_1 rfl ?_
  refine go_cV (pc := 2) dX8_dies_2 (ev_isPicture h5 w12) lX8_177 YX8_isPicture VX8_isPicture rfl rfl rfl (by decide) rfl (Nat.le_of_ble_eq_true rfl) ?_
  refine go_if_neB (tgt := 11) (pc := 5) dX8_dies_5 (by decide) (fun c_5 => ?_) (fun c_5 => ?_)
  · obtain ⟨p, rfl, hp, hpI, hpC⟩ := py_pi_of (x := x) c_5
    refine go_aload_n (pc := 11) dX8_dies_11 rfl ?_
    refine go_cVv (pc := 12) dX8_dies_12 (ev_tries h5) lX8_186 YX8_tries VX8_tries rfl rfl rfl (by decide) rfl (Nat.le_of_ble_eq_true rfl) (fun s1 hs1 => ?_)
    obtain ⟨hT1, hf1⟩ := hs1
    refine go_iconst (v := nI 0) (pc := 15) dX8_dies_15 (by decide) ?_
    refine go_istore_n (pc := 16) dX8_dies_16 (by decide) rfl ?_
    exact loop p ⟨hp, rfl, hpI, hpC⟩ 0 (by omega) s1 (by rw [py_age_0]; exact hT1) hf1 (Nat.zero_le _)
  · refine go_ldc (pc := 8) dX8_dies_8 kX8_67 ?_
    exact go_retI (pc := 10) dX8_dies_10 (by unfold an_dies; (repeat' split) <;> first | rfl | omega) ⟨hI, py_fr.rf _ _ σ⟩
set_option maxRecDepth 100000 in
theorem py_andn : ∀ a, a < 32 → ∀ b, b < 32 → (nI a) &&& ((nI b) ^^^ (-1)) = nI (py_bs (fun p => py_bit a p && !py_bit b p) 5) := by decide +kernel
theorem py_dead {H : Nat → Nat} (hw : py_wf H) {p i : Nat} (hp : p < H 12) (hi : i < 100) : py_bit (py_bs (fun p => py_bit (py_lvH H) p && !py_bit (py_lvH (py_age H i)) p) 5) p = true ↔ (0 < py_dy H p ∧ py_dy H p ≤ i) := by
  have w12 := hw.2.2.2.2.1
  have h0 := py_dy_iff hw hp (show 0 < 100 by decide)
  have h1 := py_dy_iff hw hp hi
  rw [py_lf_0] at h0
  have e1 : py_bit (py_lvH H) p = decide (0 < H (15 + 4 * p)) := py_bs_bit _ hp
  have e2 : py_bit (py_lvH (py_age H i)) p = decide (0 < py_lf H p i) := by rw [py_lvH_age]; exact py_bs_bit _ hp
  rw [py_bs_bit _ (show p < 5 by omega), e1, e2]
  simp
  omega
theorem py_first_at {H : Nat → Nat} {i j : Nat} (h : ∀ p, p < H 12 → 0 < py_dy H p → i ≤ py_dy H p) (hj : j < H 12) (h1 : 0 < py_dy H j ∧ py_dy H j ≤ i) (hq : ∀ p, p < j → ¬ (0 < py_dy H p ∧ py_dy H p ≤ i)) (hi : i < 100) : py_sn H (H 12) = i ∧ py_wh H (H 12) = j := by
  obtain ⟨a, b⟩ := py_sn_spec H (H 12)
  have a1 := a j hj h1.1
  obtain ⟨b1, b2, b3, b4⟩ := b (by omega)
  have c1 := h _ b1 b2
  refine ⟨by omega, ?_⟩
  rcases Nat.lt_trichotomy (py_wh H (H 12)) j with hl | hl | hl
  · exact absurd ⟨b2, by omega⟩ (hq _ hl)
  · exact hl
  · have := b4 j hl h1.1
    omega
theorem py_first_no {H : Nat → Nat} (h : ∀ p, p < H 12 → 0 < py_dy H p → 100 ≤ py_dy H p) : ¬ py_sn H (H 12) < 100 := by
  intro hl
  obtain ⟨a, b⟩ := py_sn_spec H (H 12)
  obtain ⟨b1, b2, b3, b4⟩ := b hl
  have := h _ b1 b2
  omega
set_option maxHeartbeats 4000000 in
set_option maxRecDepth 100000 in
theorem mo_first {X : py_X} {σ : py_H} {R : py_Rt} {q : Int32} {B : Nat → Nat} {N : Nat} {ft : Int32} {H : Nat → Nat} {n : Nat} {As : Nat → Nat → Nat} {I0 I1 : Option (Nat → Nat)} {t : Nat} {tr : Nat → Int32} (hI : py_IM σ R q B N ft H n As I0 I1 t tr) (hW : py_IW H n As I0 I1 t) {x : Int32} : py_Ev X 3 yX8_first cX8_first 6 (some .int) [.ref 47, .int (x)] σ (py_vs (some (.int (an_first H x))) (fun s => py_IM s R q B N ft H n As I0 I1 t tr ∧ py_fr py_SM [] σ s)) := by
  obtain ⟨h1, h2, h3, h4, h5, h6, h7, h8, h9⟩ := id hI
  obtain ⟨hw, hA, hJ0, hJ1, ht16⟩ := id hW
  obtain ⟨w0, w1, w2, w3, w12, w03, w00, wW, wP, wR⟩ := id hw
  have hm := py_wm_of hw
  refine py_ofI (own := RX8) YX8_first.2.2.2.2 rfl rfl (Nat.le_of_ble_eq_true rfl)  ?_
  show py_Go X RX8 cX8_first 6 3 0 [some (.ref 47), some (.int (x)), none, none, none, none] [] σ (py_vs (some (.int (an_first H x))) (fun s => py_IM s R q B N ft H n As I0 I1 t tr ∧ py_fr py_SM [] σ s))
  have loop : ∀ k, (k ≤ 1 ∧ 0 < H 0 ∧ x = nI k ∧ (nI k).toInt = (k : Int) ∧ (nI k).toNatClampNeg = k) → ∀ i, i ≤ 100 → 1 ≤ i → ∀ s, py_hm (s 55) 0 (py_age H (i - 1)) → py_fr [55] [] σ s → (∀ p, p < H 12 → 0 < py_dy H p → i ≤ py_dy H p) → py_Go X RX8 cX8_first 6 3 36 [some (.ref 47), some (.int (nI k)), some (.int (nI (py_lvH H))), some (.int (nI i)), none, none] [] s (py_vs (some (.int (an_first H x))) (fun s => py_IM s R q B N ft H n As I0 I1 t tr ∧ py_fr py_SM [] σ s)) := by
    intro k hkk
    obtain ⟨hk, h00, hx, hkI, hkC⟩ := hkk
    subst hx
    refine py_loop _ 100 (fun i hi ih hi1 s hT hs hd => ?_)
    refine go_iload_n (pc := 36) dX8_first_36 rfl ?_
    refine go_bipush (v := nI 100) (pc := 37) dX8_first_37 (by decide) ?_
    refine go_icmp_geN (tgt := 110) (pc := 39) dX8_first_39 (by omega) (by omega) (by decide) (fun c_39 => ?_) (fun c_39 => ?_)
    · refine go_ldc (pc := 110) dX8_first_110 kX8_53 ?_
      exact go_retI (pc := 112) dX8_first_112 (by unfold an_first; rw [if_pos (by omega), if_pos (by omega), if_neg (py_first_no (fun p hp h => by have z := hd p hp h; omega))]) ⟨⟨py_rk_fr hs (by decide) h1, (by rw [hs 47 4 (by decide) (by decide)]; exact h2), py_tm_fr hs (by decide) h3, (by rw [hs 47 7 (by decide) (by decide)]; exact h4), (by rw [hs.at 53 (by decide) (by decide)]; exact h5), py_am_fr hs (by decide) h6, py_ik_fr hs (by decide) h7, py_ik_fr hs (by decide) h8, py_tn_fr hs (by decide) h9⟩, hs.wd (by decide) (by decide)⟩
    · refine go_aload_n (pc := 42) dX8_first_42 rfl ?_
      refine go_getR (pc := 43) dX8_first_43 fX8_31 rfl rfl ?_
      refine go_cSv (pc := 46) dX8_first_46 (ev_passes_55 hT (py_age_wm hm (by omega))) lX8_162 YX8_passes SX8_passes rfl (by decide) rfl (Nat.le_of_ble_eq_true rfl) (fun s1 hs1 => ?_)
      obtain ⟨hT1, hf1⟩ := hs1
      rw [py_age_ag hm, show i - 1 + 1 = i by omega] at hT1
      have hs1 := hs.tr hf1 (by decide) (by decide)
      have h5s : py_hm (s1 53) 0 H := by rw [hs1.at 53 (by decide) (by decide)]; exact h5
      refine go_iload_n (pc := 49) dX8_first_49 rfl ?_
      refine go_aload_n (pc := 50) dX8_first_50 rfl ?_
      refine go_getR (pc := 51) dX8_first_51 fX8_31 rfl rfl ?_
      refine go_cS (pc := 54) dX8_first_54 (ev_mliving_55 hT1 (by rw [py_age_12]; exact w12) (py_age_60 hm i (by omega))) lX8_173 YX8_living SX8_living rfl (by decide) rfl (Nat.le_of_ble_eq_true rfl) ?_
      refine go_iconst (v := -1) (pc := 57) dX8_first_57 (by decide) ?_
      refine go_ixor (pc := 58) dX8_first_58 ?_
      refine go_iand (pc := 59) dX8_first_59 ?_
      refine go_top (y := nI (py_bs (fun p => py_bit (py_lvH H) p && !py_bit (py_lvH (py_age H i)) p) 5)) (py_andn _ (py_lvH_lt w12) _ (py_lvH_lt (by rw [py_age_12]; exact w12))) ?_
      refine go_istore (pc := 60) dX8_first_60 (by decide) rfl ?_
      refine go_iconst (v := nI 0) (pc := 62) dX8_first_62 (by decide) ?_
      refine go_istore (pc := 63) dX8_first_63 (by decide) rfl ?_
      have inner : ∀ j, j ≤ H 12 → (∀ p, p < j → ¬ (0 < py_dy H p ∧ py_dy H p ≤ i)) → py_Go X RX8 cX8_first 6 3 65 [some (.ref 47), some (.int (nI k)), some (.int (nI (py_lvH H))), some (.int (nI i)), some (.int (nI (py_bs (fun p => py_bit (py_lvH H) p && !py_bit (py_lvH (py_age H i)) p) 5))), some (.int (nI j))] [] s1 (py_vs (some (.int (an_first H (nI k)))) (fun s => py_IM s R q B N ft H n As I0 I1 t tr ∧ py_fr py_SM [] σ s)) := by
        refine py_loop _ (H 12) (fun j hj ihj hq => ?_)
        refine go_iload (pc := 65) dX8_first_65 rfl ?_
        refine go_aload_n (pc := 67) dX8_first_67 rfl ?_
        refine go_getR (pc := 68) dX8_first_68 fX8_25 rfl rfl ?_
        refine go_bipush (v := nI 12) (pc := 71) dX8_first_71 (by decide) ?_
        refine go_aldN (x := (nI (H 12))) (pc := 73) dX8_first_73 rfl (by show 12 < 33; omega) (py_hm_at h5s (show 12 = 12 by omega) (by omega)) ?_
        refine go_icmp_geN (tgt := 104) (pc := 74) dX8_first_74 (by omega) (by omega) (by decide) (fun c_74 => ?_) (fun c_74 => ?_)
        · refine go_iincN (c := 1) (pc := 104) dX8_first_104 rfl (by decide) (by decide) rfl ?_
          refine go_goto (tgt := 36) (pc := 107) dX8_first_107 (by decide) ?_
          refine go_mask [true, true, true, true, false, false] rfl (ih (by omega) (by omega) s1 (by rw [show i + 1 - 1 = i by omega]; exact hT1) hs1 (fun p hp h0 => ?_))
          have z := hq p (by omega)
          omega
        · refine go_iload (pc := 77) dX8_first_77 rfl ?_
          refine go_iload (pc := 79) dX8_first_79 rfl ?_
          refine go_cS (pc := 81) dX8_first_81 (ev_has (Nat.lt_of_lt_of_le (py_bs_lt _ 5) (by decide)) (by omega)) lX8_193 YX8_has SX8_has rfl (by decide) rfl (Nat.le_of_ble_eq_true rfl) ?_
          refine go_if_eqB (tgt := 98) (pc := 84) dX8_first_84 (by decide) (fun c_84 => ?_) (fun c_84 => ?_)
          · refine go_iincN (c := 1) (pc := 98) dX8_first_98 rfl (by decide) (by decide) rfl ?_
            refine go_goto (tgt := 65) (pc := 101) dX8_first_101 (by decide) ?_
            refine ihj (by omega) (fun p hp hc => ?_)
            by_cases hpj : p = j
            · subst hpj; exact c_84 ((py_dead hw (by omega) (by omega)).mpr hc)
            · exact hq p (by omega) hc
          · refine go_iload_n (pc := 87) dX8_first_87 rfl ?_
            refine go_if_neN (tgt := 96) (pc := 88) dX8_first_88 (by omega) (by decide) (fun c_88 => ?_) (fun c_88 => ?_)
            · refine go_iload_n (pc := 96) dX8_first_96 rfl ?_
              have hsn := py_first_at hd (show j < H 12 by omega) ((py_dead hw (by omega) (by omega)).mp c_84) hq (by omega)
              exact go_retI (pc := 97) dX8_first_97 (by unfold an_first; rw [if_pos (by omega), if_pos (by omega), if_pos (by omega), if_neg (by omega), hsn.1]) ⟨⟨py_rk_fr hs1 (by decide) h1, (by rw [hs1 47 4 (by decide) (by decide)]; exact h2), py_tm_fr hs1 (by decide) h3, (by rw [hs1 47 7 (by decide) (by decide)]; exact h4), (by rw [hs1.at 53 (by decide) (by decide)]; exact h5), py_am_fr hs1 (by decide) h6, py_ik_fr hs1 (by decide) h7, py_ik_fr hs1 (by decide) h8, py_tn_fr hs1 (by decide) h9⟩, hs1.wd (by decide) (by decide)⟩
            · refine go_iload (pc := 91) dX8_first_91 rfl ?_
              refine go_goto (tgt := 97) (pc := 93) dX8_first_93 (by decide) ?_
              have hsn := py_first_at hd (show j < H 12 by omega) ((py_dead hw (by omega) (by omega)).mp c_84) hq (by omega)
              exact go_retI (pc := 97) dX8_first_97 (by unfold an_first; rw [if_pos (by omega), if_pos (by omega), if_pos (by omega), if_pos (by omega), hsn.2]) ⟨⟨py_rk_fr hs1 (by decide) h1, (by rw [hs1 47 4 (by decide) (by decide)]; exact h2), py_tm_fr hs1 (by decide) h3, (by rw [hs1 47 7 (by decide) (by decide)]; exact h4), (by rw [hs1.at 53 (by decide) (by decide)]; exact h5), py_am_fr hs1 (by decide) h6, py_ik_fr hs1 (by decide) h7, py_ik_fr hs1 (by decide) h8, py_tn_fr hs1 (by decide) h9⟩, hs1.wd (by decide) (by decide)⟩
      exact inner 0 (Nat.zero_le _) (fun p hp => absurd hp (Nat.not_lt_zero p))
  refine go_aload_n (pc := 0) dX8_first_0 rfl ?_
  refine go_cV (pc := 1) dX8_first_1 (ev_isHouse h5 w0) lX8_166 YX8_isHouse VX8_isHouse rfl rfl rfl (by decide) rfl (Nat.le_of_ble_eq_true rfl) ?_
  refine go_if_neB (tgt := 10) (pc := 4) dX8_first_4 (by decide) (fun c_4 => ?_) (fun c_4 => ?_)
  · refine go_iload_n (pc := 10) dX8_first_10 rfl ?_
    refine go_iconst (v := nI 0) (pc := 11) dX8_first_11 (by decide) ?_
    refine go_iconst (v := nI 1) (pc := 12) dX8_first_12 (by decide) ?_
    refine go_cS (pc := 13) dX8_first_13 ev_inN lX8_59 YX8_in SX8_in rfl (by decide) rfl (Nat.le_of_ble_eq_true rfl) ?_
    refine go_if_neB (tgt := 22) (pc := 16) dX8_first_16 (by decide) (fun c_16 => ?_) (fun c_16 => ?_)
    · obtain ⟨k, rfl, hk0, hk, hkI, hkC⟩ := py_rg_of (x := x) (a := 0) (b := 1) c_16
      refine go_aload_n (pc := 22) dX8_first_22 rfl ?_
      refine go_cVv (pc := 23) dX8_first_23 (ev_tries h5) lX8_186 YX8_tries VX8_tries rfl rfl rfl (by decide) rfl (Nat.le_of_ble_eq_true rfl) (fun s1 hs1 => ?_)
      obtain ⟨hT1, hf1⟩ := hs1
      refine go_aload_n (pc := 26) dX8_first_26 rfl ?_
      refine go_getR (pc := 27) dX8_first_27 fX8_25 rfl rfl ?_
      have h5s : py_hm (s1 53) 0 H := by rw [hf1.at 53 (by decide) (by decide)]; exact h5
      refine go_cS (pc := 30) dX8_first_30 (ev_mliving_53 h5s w12 (fun p hp => (wP p hp).2.2.2.2.1)) lX8_173 YX8_living SX8_living rfl (by decide) rfl (Nat.le_of_ble_eq_true rfl) ?_
      refine go_istore_n (pc := 33) dX8_first_33 (by decide) rfl ?_
      refine go_iconst (v := nI 1) (pc := 34) dX8_first_34 (by decide) ?_
      refine go_istore_n (pc := 35) dX8_first_35 (by decide) rfl ?_
      exact loop k ⟨hk, by omega, rfl, hkI, hkC⟩ 1 (by omega) (by omega) s1 (by rw [show 1 - 1 = 0 by omega, py_age_0]; exact hT1) hf1 (fun p hp h => h)
    · refine go_ldc (pc := 19) dX8_first_19 kX8_67 ?_
      exact go_retI (pc := 21) dX8_first_21 (by unfold an_first; (repeat' split) <;> first | rfl | omega) ⟨hI, py_fr.rf _ _ σ⟩
  · refine go_ldc (pc := 7) dX8_first_7 kX8_169 ?_
    exact go_retI (pc := 9) dX8_first_9 (by unfold an_first; (repeat' split) <;> first | rfl | omega) ⟨hI, py_fr.rf _ _ σ⟩
/-- a house with the wall w dark -/
def py_dkH (H : Nat → Nat) (w : Nat) : Nat → Nat := fun j => if j = 4 + 2 * w then 0 else H j
theorem py_dkH_o {H : Nat → Nat} {w j : Nat} (h : j ≠ 4 + 2 * w) : py_dkH H w j = H j := by
  unfold py_dkH
  rw [if_neg h]
theorem py_dkH_wm {H : Nat → Nat} (h : py_wm H) {w : Nat} (hw : w < H 3) : py_wm (py_dkH H w) := by
  obtain ⟨w12, w3, w2, wW, wP⟩ := h
  have e12 : py_dkH H w 12 = H 12 := py_dkH_o (by omega)
  have e3 : py_dkH H w 3 = H 3 := py_dkH_o (by omega)
  have e2 : py_dkH H w 2 = H 2 := py_dkH_o (by omega)
  unfold py_wm
  rw [e12, e3, e2]
  refine ⟨w12, w3, w2, fun k hk => ?_, fun p hp => ?_⟩
  · have z := wW k hk
    rw [py_dkH_o (j := 5 + 2 * k) (by omega)]
    unfold py_dkH
    split <;> omega
  · rw [py_dkH_o (j := 13 + 4 * p) (by omega), py_dkH_o (j := 14 + 4 * p) (by omega), py_dkH_o (j := 15 + 4 * p) (by omega), py_dkH_o (j := 16 + 4 * p) (by omega)]
    exact wP p hp
theorem py_dk_dl {H : Nat → Nat} (h : py_wm H) {w p : Nat} (hw : w < H 3) (hp : p < H 12) (d : Nat) : py_age (py_dkH H w) d (15 + 4 * p) = py_dl H w p d := by
  obtain ⟨w12, w3, w2, wW, wP⟩ := h
  have z := wP p hp
  have e12 : py_dkH H w 12 = H 12 := py_dkH_o (by omega)
  rw [py_age_l _ d (by rw [e12]; exact hp)]
  unfold py_fn py_dl
  rw [py_dkH_o (j := 13 + 4 * p) (by omega), py_dkH_o (j := 14 + 4 * p) (by omega), py_dkH_o (j := 15 + 4 * p) (by omega), py_dkH_o (j := 16 + 4 * p) (by omega), py_dkH_o (j := 5 + 2 * H (16 + 4 * p)) (by omega), py_dkH_o (j := 2) (by omega)]
  unfold py_dkH
  by_cases hq : H (16 + 4 * p) = w
  · rw [if_pos (by omega), if_pos hq]
  · rw [if_neg (by omega), if_neg hq]
theorem py_dk_dn {H : Nat → Nat} (h : py_wm H) {w : Nat} (hw : w < H 3) (d : Nat) : py_pc (py_lvH (py_age (py_dkH H w) d)) = py_dn H w d := by
  have e12 : py_dkH H w 12 = H 12 := py_dkH_o (by have := h.2.1; omega)
  unfold py_lvH
  rw [py_age_12, e12, py_pc_bs _ h.1]
  exact py_cn_cong (fun k hk => by rw [py_dk_dl h hw hk])
theorem py_n1 : (-1000000 : Int32).toInt = -1000000 := by decide
set_option maxHeartbeats 4000000 in
set_option maxRecDepth 100000 in
theorem mo_dark {X : py_X} {σ : py_H} {R : py_Rt} {q : Int32} {B : Nat → Nat} {N : Nat} {ft : Int32} {H : Nat → Nat} {n : Nat} {As : Nat → Nat → Nat} {I0 I1 : Option (Nat → Nat)} {t : Nat} {tr : Nat → Int32} (hI : py_IM σ R q B N ft H n As I0 I1 t tr) (hW : py_IW H n As I0 I1 t) {x y : Int32} : py_Ev X 4 yX8_dark cX8_dark 7 (some .int) [.ref 47, .int (x), .int (y)] σ (py_vs (some (.int (an_dark H x y))) (fun s => py_IM s R q B N ft H n As I0 I1 t tr ∧ py_fr py_SM [] σ s)) := by
  obtain ⟨h1, h2, h3, h4, h5, h6, h7, h8, h9⟩ := id hI
  obtain ⟨hw, hA, hJ0, hJ1, ht16⟩ := id hW
  obtain ⟨w0, w1, w2, w3, w12, w03, w00, wW, wP, wR⟩ := id hw
  have hm := py_wm_of hw
  refine py_ofI (own := RX8) YX8_dark.2.2.2.2 rfl rfl (Nat.le_of_ble_eq_true rfl)  ?_
  show py_Go X RX8 cX8_dark 7 4 0 [some (.ref 47), some (.int (x)), some (.int (y)), none, none, none, none] [] σ (py_vs (some (.int (an_dark H x y))) (fun s => py_IM s R q B N ft H n As I0 I1 t tr ∧ py_fr py_SM [] σ s))
  have loop : ∀ d k, (d ≤ 60 ∧ k ≤ 1 ∧ 0 < H 0 ∧ x = nI d ∧ y = nI k ∧ (nI d).toInt = (d : Int) ∧ (nI k).toInt = (k : Int) ∧ (nI d).toNatClampNeg = d) → ∀ i, i ≤ H 3 → ∀ s, py_fr [55] [] σ s → ∀ (wh : Nat) (mo : Int32), ((i = 0 ∧ mo = -1000000 ∧ wh = 0) ∨ (0 < i ∧ mo = nI (py_dn H (py_mx (fun w => py_dn H w d) i) d) ∧ wh = py_mx (fun w => py_dn H w d) i)) → py_Go X RX8 cX8_dark 7 4 38 [some (.ref 47), some (.int (nI d)), some (.int (nI k)), some (.int (nI wh)), some (.int (mo)), some (.int (nI i)), none] [] s (py_vs (some (.int (an_dark H x y))) (fun s => py_IM s R q B N ft H n As I0 I1 t tr ∧ py_fr py_SM [] σ s)) := by
    intro d k hdk
    obtain ⟨hd, hk, h00, hx, hy, hdI, hkI, hdC⟩ := hdk
    subst hx hy
    refine py_loop _ (H 3) (fun i hi ih s hs wh mo hm9 => ?_)
    have h5s : py_hm (s 53) 0 H := by rw [hs.at 53 (by decide) (by decide)]; exact h5
    refine go_iload (pc := 38) dX8_dark_38 rfl ?_
    refine go_aload_n (pc := 40) dX8_dark_40 rfl ?_
    refine go_getR (pc := 41) dX8_dark_41 fX8_25 rfl rfl ?_
    refine go_iconst (v := nI 3) (pc := 44) dX8_dark_44 (by decide) ?_
    refine go_aldN (x := (nI (H 3))) (pc := 45) dX8_dark_45 rfl (by show 3 < 33; omega) (py_hm_at h5s (show 3 = 3 by omega) (by omega)) ?_
    refine go_icmp_geN (tgt := 118) (pc := 46) dX8_dark_46 (by omega) (by omega) (by decide) (fun c_46 => ?_) (fun c_46 => ?_)
    · refine go_iload_n (pc := 118) dX8_dark_118 rfl ?_
      refine go_if_neN (tgt := 126) (pc := 119) dX8_dark_119 (by omega) (by decide) (fun c_119 => ?_) (fun c_119 => ?_)
      · refine go_iload (pc := 126) dX8_dark_126 rfl ?_
        have e8 : i = H 3 := by omega
        rcases hm9 with ⟨e0, e1, e2⟩ | ⟨e0, e1, e2⟩
        · have z := w03 h00; omega
        · exact go_retI (pc := 128) dX8_dark_128 (by unfold an_dark; rw [if_pos (by omega), if_pos (by omega), if_neg (by omega), hdC, e1, e8]) ⟨⟨py_rk_fr hs (by decide) h1, (by rw [hs 47 4 (by decide) (by decide)]; exact h2), py_tm_fr hs (by decide) h3, (by rw [hs 47 7 (by decide) (by decide)]; exact h4), (by rw [hs.at 53 (by decide) (by decide)]; exact h5), py_am_fr hs (by decide) h6, py_ik_fr hs (by decide) h7, py_ik_fr hs (by decide) h8, py_tn_fr hs (by decide) h9⟩, hs.wd (by decide) (by decide)⟩
      · refine go_iload_n (pc := 122) dX8_dark_122 rfl ?_
        refine go_goto (tgt := 128) (pc := 123) dX8_dark_123 (by decide) ?_
        have e8 : i = H 3 := by omega
        rcases hm9 with ⟨e0, e1, e2⟩ | ⟨e0, e1, e2⟩
        · have z := w03 h00; omega
        · exact go_retI (pc := 128) dX8_dark_128 (by unfold an_dark; rw [if_pos (by omega), if_pos (by omega), if_pos (by omega), hdC, e2, e8]) ⟨⟨py_rk_fr hs (by decide) h1, (by rw [hs 47 4 (by decide) (by decide)]; exact h2), py_tm_fr hs (by decide) h3, (by rw [hs 47 7 (by decide) (by decide)]; exact h4), (by rw [hs.at 53 (by decide) (by decide)]; exact h5), py_am_fr hs (by decide) h6, py_ik_fr hs (by decide) h7, py_ik_fr hs (by decide) h8, py_tn_fr hs (by decide) h9⟩, hs.wd (by decide) (by decide)⟩
    · refine go_aload_n (pc := 49) dX8_dark_49 rfl ?_
      refine go_cVv (pc := 50) dX8_dark_50 (ev_tries h5s) lX8_186 YX8_tries VX8_tries rfl rfl rfl (by decide) rfl (Nat.le_of_ble_eq_true rfl) (fun s1 hs1 => ?_)
      obtain ⟨hT1, hf1⟩ := hs1
      refine go_aload_n (pc := 53) dX8_dark_53 rfl ?_
      refine go_getR (pc := 54) dX8_dark_54 fX8_31 rfl rfl ?_
      refine go_iconst (v := nI 4) (pc := 57) dX8_dark_57 (by decide) ?_
      refine go_iconst (v := nI 2) (pc := 58) dX8_dark_58 (by decide) ?_
      refine go_iload (pc := 59) dX8_dark_59 rfl ?_
      refine go_imulN (pc := 61) dX8_dark_61  ?_
      refine go_iaddN (pc := 62) dX8_dark_62  ?_
      refine go_iconst (v := nI 0) (pc := 63) dX8_dark_63 (by decide) ?_
      refine go_astN (pc := 64) dX8_dark_64 rfl (by show 4 + (2 * i) < 33; omega) ?_
      refine go_aload_n (pc := 65) dX8_dark_65 rfl ?_
      refine go_iload_n (pc := 66) dX8_dark_66 rfl ?_
      have hT2 : py_hm ((py_up s1 55 (4 + (2 * i)) (nI 0)) 55) 0 (py_dkH H i) := py_hm_up (i := 4 + 2 * i) hT1 rfl
      have hf2 : py_fr [55] [] s (py_up s1 55 (4 + (2 * i)) (nI 0)) := hf1.up (by decide) _
      have hwi : i < H 3 := by omega
      have h2k : py_dkH H i 2 = H 2 := py_dkH_o (by omega)
      refine go_cVv (pc := 67) dX8_dark_67 (ev_goes hT2 (py_dkH_wm hm hwi) (by omega) (by rw [h2k]; omega)) lX8_189 YX8_goes VX8_goes rfl rfl rfl (by decide) rfl (Nat.le_of_ble_eq_true rfl) (fun s3 hs3 => ?_)
      obtain ⟨hT3, hf3⟩ := hs3
      have hs3 := (hs.tr hf2 (by decide) (by decide)).tr hf3 (by decide) (by decide)
      have h12k : py_age (py_dkH H i) d 12 = H 12 := by rw [py_age_12]; exact py_dkH_o (by omega)
      refine go_aload_n (pc := 70) dX8_dark_70 rfl ?_
      refine go_getR (pc := 71) dX8_dark_71 fX8_31 rfl rfl ?_
      refine go_cS (pc := 74) dX8_dark_74 (ev_mliving_55 hT3 (by rw [h12k]; exact w12) (py_age_60 (py_dkH_wm hm hwi) d (by rw [h2k]; omega))) lX8_173 YX8_living SX8_living rfl (by decide) rfl (Nat.le_of_ble_eq_true rfl) ?_
      refine go_cS (pc := 77) dX8_dark_77 (ev_ones (py_lvH_lt (by rw [h12k]; exact w12))) lX8_131 YX8_ones SX8_ones rfl (by decide) rfl (Nat.le_of_ble_eq_true rfl) ?_
      refine go_top (y := nI (py_dn H i d)) (by rw [py_dk_dn hm hwi]) ?_
      have hdn : py_dn H i d ≤ 5 := Nat.le_trans (py_cn_le _ _) w12
      refine go_istore (pc := 80) dX8_dark_80 (by decide) rfl ?_
      refine go_iload (pc := 82) dX8_dark_82 rfl ?_
      refine go_iload (pc := 84) dX8_dark_84 rfl ?_
      refine go_icmp_leNJ (tgt := 94) (pc := 86) dX8_dark_86 (by omega) (by decide) (fun c_86 => ?_) (fun c_86 => ?_)
      · refine go_iload_n (pc := 94) dX8_dark_94 rfl ?_
        refine go_istore_n (pc := 95) dX8_dark_95 (by decide) rfl ?_
        refine go_iload (pc := 96) dX8_dark_96 rfl ?_
        refine go_iload (pc := 98) dX8_dark_98 rfl ?_
        refine go_icmp_leNJ (tgt := 108) (pc := 100) dX8_dark_100 (by omega) (by decide) (fun c_100 => ?_) (fun c_100 => ?_)
        · refine go_iload (pc := 108) dX8_dark_108 rfl ?_
          refine go_istore (pc := 110) dX8_dark_110 (by decide) rfl ?_
          refine go_iincN (c := 1) (pc := 112) dX8_dark_112 rfl (by decide) (by decide) rfl ?_
          refine go_goto (tgt := 38) (pc := 115) dX8_dark_115 (by decide) ?_
          have hst : (i + 1 = 0 ∧ (mo) = -1000000 ∧ wh = 0) ∨ (0 < i + 1 ∧ (mo) = nI (py_dn H (py_mx (fun w => py_dn H w d) (i + 1)) d) ∧ wh = py_mx (fun w => py_dn H w d) (i + 1)) := by
            rcases hm9 with ⟨e0, e1, e2⟩ | ⟨e0, e1, e2⟩
            · subst e0; rw [e1, py_n1] at c_86; exfalso; omega
            · rw [e1, nI_toInt (by have z : py_dn H (py_mx (fun w => py_dn H w d) i) d ≤ 5 := Nat.le_trans (py_cn_le _ _) w12; omega)] at c_86
              have e4 := py_mx_s (f := (fun w => py_dn H w d)) e0
              rw [if_neg (by omega)] at e4
              rw [e4]; exact Or.inr ⟨by omega, e1, e2⟩
          exact go_mask [true, true, true, true, true, true, false] rfl (ih (by omega) s3 hs3 (wh) ((mo)) hst)
        · omega
      · refine go_iload (pc := 89) dX8_dark_89 rfl ?_
        refine go_goto (tgt := 95) (pc := 91) dX8_dark_91 (by decide) ?_
        refine go_istore_n (pc := 95) dX8_dark_95 (by decide) rfl ?_
        refine go_iload (pc := 96) dX8_dark_96 rfl ?_
        refine go_iload (pc := 98) dX8_dark_98 rfl ?_
        refine go_icmp_leNJ (tgt := 108) (pc := 100) dX8_dark_100 (by omega) (by decide) (fun c_100 => ?_) (fun c_100 => ?_)
        · omega
        · refine go_iload (pc := 103) dX8_dark_103 rfl ?_
          refine go_goto (tgt := 110) (pc := 105) dX8_dark_105 (by decide) ?_
          refine go_istore (pc := 110) dX8_dark_110 (by decide) rfl ?_
          refine go_iincN (c := 1) (pc := 112) dX8_dark_112 rfl (by decide) (by decide) rfl ?_
          refine go_goto (tgt := 38) (pc := 115) dX8_dark_115 (by decide) ?_
          have hst : (i + 1 = 0 ∧ (nI (py_dn H i d)) = -1000000 ∧ i = 0) ∨ (0 < i + 1 ∧ (nI (py_dn H i d)) = nI (py_dn H (py_mx (fun w => py_dn H w d) (i + 1)) d) ∧ i = py_mx (fun w => py_dn H w d) (i + 1)) := by
            rcases hm9 with ⟨e0, e1, e2⟩ | ⟨e0, e1, e2⟩
            · subst e0; rw [e1, py_n1] at c_86; exact Or.inr ⟨by omega, rfl, rfl⟩
            · rw [e1, nI_toInt (by have z : py_dn H (py_mx (fun w => py_dn H w d) i) d ≤ 5 := Nat.le_trans (py_cn_le _ _) w12; omega)] at c_86
              have e4 := py_mx_s (f := (fun w => py_dn H w d)) e0
              rw [if_pos (by omega)] at e4
              rw [e4]; exact Or.inr ⟨by omega, rfl, rfl⟩
          exact go_mask [true, true, true, true, true, true, false] rfl (ih (by omega) s3 hs3 (i) ((nI (py_dn H i d))) hst)
  refine go_aload_n (pc := 0) dX8_dark_0 rfl ?_
  refine go_cV (pc := 1) dX8_dark_1 (ev_isHouse h5 w0) lX8_166 YX8_isHouse VX8_isHouse rfl rfl rfl (by decide) rfl (Nat.le_of_ble_eq_true rfl) ?_
  refine go_if_neB (tgt := 10) (pc := 4) dX8_dark_4 (by decide) (fun c_4 => ?_) (fun c_4 => ?_)
  · refine go_iload_n (pc := 10) dX8_dark_10 rfl ?_
    refine go_cS (pc := 11) dX8_dark_11 ev_misFar lX8_183 YX8_isFar SX8_isFar rfl (by decide) rfl (Nat.le_of_ble_eq_true rfl) ?_
    refine go_if_eqB (tgt := 26) (pc := 14) dX8_dark_14 (by decide) (fun c_14 => ?_) (fun c_14 => ?_)
    · refine go_ldc (pc := 26) dX8_dark_26 kX8_67 ?_
      exact go_retI (pc := 28) dX8_dark_28 (by unfold an_dark; (repeat' split) <;> first | rfl | omega) ⟨hI, py_fr.rf _ _ σ⟩
    · obtain ⟨d, rfl, hd0, hd, hdI, hdC⟩ := py_rg_of (x := x) (a := 0) (b := 60) c_14
      refine go_iload_n (pc := 17) dX8_dark_17 rfl ?_
      refine go_iconst (v := nI 0) (pc := 18) dX8_dark_18 (by decide) ?_
      refine go_iconst (v := nI 1) (pc := 19) dX8_dark_19 (by decide) ?_
      refine go_cS (pc := 20) dX8_dark_20 ev_inN lX8_59 YX8_in SX8_in rfl (by decide) rfl (Nat.le_of_ble_eq_true rfl) ?_
      refine go_if_neB (tgt := 29) (pc := 23) dX8_dark_23 (by decide) (fun c_23 => ?_) (fun c_23 => ?_)
      · obtain ⟨k, rfl, hk0, hk, hkI, hkC⟩ := py_rg_of (x := y) (a := 0) (b := 1) c_23
        refine go_iconst (v := nI 0) (pc := 29) dX8_dark_29 (by decide) ?_
        refine go_istore_n (pc := 30) dX8_dark_30 (by decide) rfl ?_
        refine go_ldc (pc := 31) dX8_dark_31 kX8_53 ?_
        refine go_istore (pc := 33) dX8_dark_33 (by decide) rfl ?_
        refine go_iconst (v := nI 0) (pc := 35) dX8_dark_35 (by decide) ?_
        refine go_istore (pc := 36) dX8_dark_36 (by decide) rfl ?_
        exact loop d k ⟨hd, hk, by omega, rfl, rfl, hdI, hkI, hdC⟩ 0 (by omega) σ (py_fr.rf _ _ σ) 0 (-1000000) (Or.inl ⟨rfl, rfl, rfl⟩)
      · refine go_ldc (pc := 26) dX8_dark_26 kX8_67 ?_
        exact go_retI (pc := 28) dX8_dark_28 (by unfold an_dark; (repeat' split) <;> first | rfl | omega) ⟨hI, py_fr.rf _ _ σ⟩
  · refine go_ldc (pc := 7) dX8_dark_7 kX8_169 ?_
    exact go_retI (pc := 9) dX8_dark_9 (by unfold an_dark; (repeat' split) <;> first | rfl | omega) ⟨hI, py_fr.rf _ _ σ⟩
