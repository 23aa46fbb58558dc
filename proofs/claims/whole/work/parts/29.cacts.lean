/-! contracts: the class's public methods that change the state -/
theorem py_tc_add {σ : py_H} {B : Nat → Nat} {N c : Nat} (h : py_tc σ B N) (hN : N < 100) (hc : c ≤ 255) : py_tc (py_up (py_up σ 6 N (nI c)) 5 1 (nI (N + 1))) (va_up B N c) (N + 1) := by
  refine ⟨py_up_s _ _ _ _, by omega, fun i hi => ?_⟩
  rw [py_up_k _ _ _ (by decide)]
  unfold va_up
  by_cases e : i = N
  · subst e; rw [py_up_s, if_pos rfl]; exact ⟨rfl, hc⟩
  · rw [py_up_j _ _ _ e, if_neg e]; exact h.2.2 i (by omega)
theorem py_trc_at : ∀ (l : List Nat) (σ : py_H) (t i : Nat), py_trc σ t l 46 i = if t ≤ i ∧ i < t + l.length then nI (l.getD (i - t) 0) else σ 46 i
  | [], σ, t, i => by
    have e : py_trc σ t [] = σ := rfl
    rw [e, if_neg]
    rintro ⟨h1, h2⟩
    rw [List.length_nil] at h2
    omega
  | b :: l, σ, t, i => by
    have e : py_trc σ t (b :: l) = py_trc (py_bg σ t b) (t + 1) l := rfl
    rw [e, py_trc_at l, List.length_cons]
    have e46 : py_bg σ t b 46 i = if i = t then nI b else σ 46 i := by
      unfold py_bg
      rw [py_up_k _ _ _ (by decide), py_up_jj]
    rw [e46]
    by_cases h1 : t + 1 ≤ i ∧ i < t + 1 + l.length
    · rw [if_pos h1, if_pos (by omega), show i - t = (i - (t + 1)) + 1 by omega, List.getD_cons_succ]
    · rw [if_neg h1]
      by_cases h2 : i = t
      · rw [if_pos h2, if_pos (by omega), show i - t = 0 by omega, List.getD_cons_zero]
      · rw [if_neg h2, if_neg (by omega)]
set_option maxHeartbeats 4000000 in
set_option maxRecDepth 100000 in
theorem cl_feed {X : py_X} {σ : py_H} {R : py_Rt} {q : Int32} {B : Nat → Nat} {N : Nat} {ft : Int32} {H : Nat → Nat} {n : Nat} {As : Nat → Nat → Nat} {I0 I1 : Option (Nat → Nat)} {t : Nat} {tr : Nat → Int32} (hI : py_IC σ R q B N ft H n As I0 I1 t tr) (hW : py_IW H n As I0 I1 t) {x : Int32} : py_Ev X 1 yX7_feed cX7_feed 2 (some .int) [.ref 0, .int (x)] σ (py_vs (some (.int (an_feed N x))) (fun s => py_IC s R q (nb_feed B N x) (nn_feed N x) ft H n As I0 I1 t tr ∧ py_fr py_SC [] σ s)) := by
  obtain ⟨h1, h2, h3, h4, h5, h6, h7, h8, h9, h10⟩ := id hI
  obtain ⟨hw, hA, hJ0, hJ1, ht16⟩ := id hW
  obtain ⟨w0, w1, w2, w3, w12, w03, w00, wW, wP, wR⟩ := id hw
  have hc := h5.2
  refine py_ofI (own := RX7) YX7_feed.2.2.2.2 rfl rfl (Nat.le_of_ble_eq_true rfl)  ?_
  show py_Go X RX7 cX7_feed 2 1 0 [some (.ref 0), some (.int (x))] [] σ (py_vs (some (.int (an_feed N x))) (fun s => py_IC s R q (nb_feed B N x) (nn_feed N x) ft H n As I0 I1 t tr ∧ py_fr py_SC [] σ s))
  refine go_iload_n (pc := 0) dX7_feed_0 rfl ?_
  refine go_iconst (v := nI 0) (pc := 1) dX7_feed_1 (by decide) ?_
  refine go_sipush (v := nI 255) (pc := 2) dX7_feed_2 (by decide) ?_
  refine go_cS (pc := 5) dX7_feed_5 ev_isWithinN lX7_101 YX7_isWithin SX7_isWithin rfl (by decide) rfl (Nat.le_of_ble_eq_true rfl) ?_
  refine go_if_neB (tgt := 14) (pc := 8) dX7_feed_8 (by decide) (fun c_8 => ?_) (fun c_8 => ?_)
  · obtain ⟨c, rfl, hc0, hc, hcI, hcC⟩ := py_rg_of (x := x) (a := 0) (b := 255) c_8
    refine go_aload_n (pc := 14) dX7_feed_14 rfl ?_
    refine go_getR (pc := 15) dX7_feed_15 fX7_19 rfl rfl ?_
    refine go_iload_n (pc := 18) dX7_feed_18 rfl ?_
    refine go_cVi (pc := 19) dX7_feed_19 (ev_add h3) lX7_104 YX6_add VX6_add rfl rfl rfl (by decide) rfl (Nat.le_of_ble_eq_true rfl) (fun s1 hs => ?_)
    obtain ⟨ht, hn⟩ := hs
    refine go_if_eqB (tgt := 35) (pc := 22) dX7_feed_22 (by decide) (fun c_22 => ?_) (fun c_22 => ?_)
    · have e1 := hn c_22
      subst e1
      refine go_ldc (pc := 35) dX7_feed_35 kX7_111 ?_
      have eb : nb_feed B N ((nI c)) = B := by unfold nb_feed; rw [if_neg (by omega)]
      have en : nn_feed N ((nI c)) = N := by unfold nn_feed; rw [if_neg (by omega)]
      exact go_retI (pc := 37) dX7_feed_37 (by unfold an_feed; (repeat' split) <;> first | rfl | omega) ⟨by rw [eb, en]; exact hI, py_fr.rf _ _ s1⟩
    · have e1 := ht c_22
      subst e1
      refine go_aload_n (pc := 25) dX7_feed_25 rfl ?_
      refine go_getR (pc := 26) dX7_feed_26 fX7_19 rfl rfl ?_
      refine go_getI (x := (nI (N + 1))) (pc := 29) dX7_feed_29 fX7_107 rfl rfl (py_up_s _ _ _ _) ?_
      refine go_goto (tgt := 37) (pc := 32) dX7_feed_32 (by decide) ?_
      have eb : nb_feed B N (nI c) = va_up B N c := by unfold nb_feed; rw [if_pos (by omega), hcC]
      have en : nn_feed N (nI c) = N + 1 := by unfold nn_feed; rw [if_pos (by omega)]
      have hf : py_fr [6] [(5, 1)] σ (py_up (py_up σ 6 N (nI c)) 5 1 (nI (N + 1))) := ((py_fr.rf [6] [(5, 1)] σ).up (by decide) _).ut (by decide) _
      refine go_retI (pc := 37) dX7_feed_37 (by unfold an_feed; (repeat' split) <;> first | rfl | omega) ⟨?_, hf.wd (by decide) (by decide)⟩
      rw [eb, en]
      exact ⟨py_rc_fr hf (by decide) h1, (by rw [hf 0 10 (by decide) (by decide)]; exact h2), py_tc_add h3 c_22 hc, (by rw [hf 0 9 (by decide) (by decide)]; exact h4), py_hc_fr hf (by decide) (by decide) h5, py_ac_fr hf (by decide) h6, py_im_fr hf (by decide) (by decide) h7, py_im_fr hf (by decide) (by decide) h8, py_tr_fr hf (by decide) h9, py_cr_fr hf (by decide) h10⟩
  · refine go_ldc (pc := 11) dX7_feed_11 kX7_67 ?_
    have eb : nb_feed B N ((x)) = B := by unfold nb_feed; rw [if_neg (by omega)]
    have en : nn_feed N ((x)) = N := by unfold nn_feed; rw [if_neg (by omega)]
    exact go_retI (pc := 13) dX7_feed_13 (by unfold an_feed; (repeat' split) <;> first | rfl | omega) ⟨by rw [eb, en]; exact hI, py_fr.rf _ _ σ⟩
set_option maxHeartbeats 4000000 in
set_option maxRecDepth 100000 in
theorem cl_house {X : py_X} {σ : py_H} {R : py_Rt} {q : Int32} {B : Nat → Nat} {N : Nat} {ft : Int32} {H : Nat → Nat} {n : Nat} {As : Nat → Nat → Nat} {I0 I1 : Option (Nat → Nat)} {t : Nat} {tr : Nat → Int32} (hI : py_IC σ R q B N ft H n As I0 I1 t tr) (hW : py_IW H n As I0 I1 t) : py_Ev X 7 yX7_house cX7_house 2 (some .int) [.ref 0] σ (py_vs (some (.int (an_house (py_read B N)))) (fun s => py_IC s R q B (0) (nf_house ft (py_read B N)) (nh_house H (py_read B N)) (na_house n (py_read B N)) As I0 I1 t tr ∧ py_fr py_SC [] σ s)) := by
  obtain ⟨h1, h2, h3, h4, h5, h6, h7, h8, h9, h10⟩ := id hI
  obtain ⟨hw, hA, hJ0, hJ1, ht16⟩ := id hW
  obtain ⟨w0, w1, w2, w3, w12, w03, w00, wW, wP, wR⟩ := id hw
  have hc := h5.2
  refine py_ofI (own := RX7) YX7_house.2.2.2.2 rfl rfl (Nat.le_of_ble_eq_true rfl)  ?_
  show py_Go X RX7 cX7_house 2 7 0 [some (.ref 0), none] [] σ (py_vs (some (.int (an_house (py_read B N)))) (fun s => py_IC s R q B (0) (nf_house ft (py_read B N)) (nh_house H (py_read B N)) (na_house n (py_read B N)) As I0 I1 t tr ∧ py_fr py_SC [] σ s))
  refine go_aload_n (pc := 0) dX7_house_0 rfl ?_
  refine go_getR (pc := 1) dX7_house_1 fX7_19 rfl rfl ?_
  refine go_aload_n (pc := 4) dX7_house_4 rfl ?_
  refine go_getR (pc := 5) dX7_house_5 fX7_30 rfl rfl ?_
  refine go_cVi (pc := 8) dX7_house_8 (ev_readInto h3) lX7_112 YX6_readInto VX6_readInto rfl rfl rfl (by decide) rfl (Nat.le_of_ble_eq_true rfl) (fun s1 hs => ?_)
  obtain ⟨hps, hho, hf1⟩ := hs
  refine go_istore_n (pc := 11) dX7_house_11 (by decide) rfl ?_
  refine go_aload_n (pc := 12) dX7_house_12 rfl ?_
  refine go_getR (pc := 13) dX7_house_13 fX7_19 rfl rfl ?_
  refine go_cVv (pc := 16) dX7_house_16 ev_clearT lX7_116 YX6_clear VX6_clear rfl rfl rfl (by decide) rfl (Nat.le_of_ble_eq_true rfl) (fun s2 e2 => ?_)
  subst e2
  have hf2 : py_fr [14, 15, 16, 17, 18, 19, 20] [(5, 1), (5, 2), (5, 3), (5, 4)] σ (py_up s1 5 1 (nI 0)) := (hf1.wd (by decide) (by decide)).ut (by decide) _
  refine go_iload_n (pc := 19) dX7_house_19 rfl ?_
  refine go_if_neB (tgt := 45) (pc := 20) dX7_house_20 (by decide) (fun c_20 => ?_) (fun c_20 => ?_)
  · obtain ⟨a9, H9, er⟩ := py_ok_t c_20
    have hwf := py_read_v h3.2.1 er
    have hc14 := py_hc_fr ((py_fr.rf [] [(5, 1)] s1).ut (k := 5) (j := 1) (by decide) (nI 0)) (by decide) (by decide) (hho a9 H9 er)
    refine go_aload_n (pc := 45) dX7_house_45 rfl ?_
    refine go_getR (pc := 46) dX7_house_46 fX7_26 rfl rfl ?_
    refine go_aload_n (pc := 49) dX7_house_49 rfl ?_
    refine go_getR (pc := 50) dX7_house_50 fX7_30 rfl rfl ?_
    refine go_cVv (pc := 53) dX7_house_53 (ev_become_7_14 hc14 hwf.1.2.2.2.1 hwf.1.2.2.2.2.1) lX7_129 YX2_become VX2_become rfl rfl rfl (by decide) rfl (Nat.le_of_ble_eq_true rfl) (fun s3 hs3 => ?_)
    obtain ⟨hc7, hf3⟩ := hs3
    refine go_aload_n (pc := 56) dX7_house_56 rfl ?_
    refine go_getR (pc := 57) dX7_house_57 fX7_42 rfl rfl ?_
    refine go_cVv (pc := 60) dX7_house_60 ev_forget lX7_133 YX0_forget VX0_forget rfl rfl rfl (by decide) rfl (Nat.le_of_ble_eq_true rfl) (fun s4 e4 => ?_)
    subst e4
    refine go_aload_n (pc := 63) dX7_house_63 rfl ?_
    refine go_getR (pc := 64) dX7_house_64 fX7_26 rfl rfl ?_
    refine go_getI (x := (nI (H9 12))) (pc := 67) dX7_house_67 fX7_136 rfl rfl (by rw [py_up_k _ _ _ (by decide), py_up_k _ _ _ (by decide)]; exact hc7.2.2.2.2.2.1) ?_
    have hf : py_fr [7, 8, 9, 10, 11, 12, 13, 14, 15, 16, 17, 18, 19, 20, 35] [(5, 1), (5, 2), (5, 3), (5, 4)] σ (py_up (py_up s3 35 1 (nI 0)) 35 2 (nI 0)) := (((hf2.wd (by decide) (by decide)).tr hf3 (by decide) (by decide)).up (by decide) _).up (by decide) _
    have hf7 : py_fr [35] [] s3 (py_up (py_up s3 35 1 (nI 0)) 35 2 (nI 0)) := ((py_fr.rf [35] [] s3).up (by decide) _).up (by decide) _
    refine go_retI (pc := 70) dX7_house_70 (by rw [er]; rfl) ⟨?_, hf.wd (by decide) (by decide)⟩
    rw [er]
    exact ⟨py_rc_fr hf (by decide) h1, (by rw [hf 0 10 (by decide) (by decide)]; exact h2), ⟨by rw [py_up_k _ _ _ (by decide), py_up_k _ _ _ (by decide), hf3 5 1 (by decide) (by decide)]; exact py_up_s _ _ _ _, Nat.zero_le _, fun i hi => absurd hi (Nat.not_lt_zero i)⟩, (by rw [hf 0 9 (by decide) (by decide)]; exact h4), py_hc_fr hf7 (by decide) (by decide) hc7, ⟨0, by rw [py_up_j _ _ _ (by decide)]; exact py_up_s _ _ _ _, py_up_s _ _ _ _, Nat.zero_le _, by decide, fun i hi => absurd hi (Nat.not_lt_zero i)⟩, py_im_fr hf (by decide) (by decide) h7, py_im_fr hf (by decide) (by decide) h8, py_tr_fr hf (by decide) h9, py_cr_fr hf (by decide) h10⟩
  · obtain ⟨e, er⟩ : ∃ e, py_read B N = .inl e := by
      cases hr : py_read B N with
      | inl e => exact ⟨e, rfl⟩
      | inr v => exact absurd (by rw [hr]; rfl) c_20
    rw [er] at hps
    have hp4 : (py_up s1 5 1 (nI 0)) 5 4 = nI e.1 := (py_up_j _ _ _ (by decide)).trans hps.1
    have hp3 : (py_up s1 5 1 (nI 0)) 5 3 = nI e.2 := (py_up_j _ _ _ (by decide)).trans hps.2
    refine go_aload_n (pc := 23) dX7_house_23 rfl ?_
    refine go_aload_n (pc := 24) dX7_house_24 rfl ?_
    refine go_getR (pc := 25) dX7_house_25 fX7_19 rfl rfl ?_
    refine go_getI (x := (nI (e.2))) (pc := 28) dX7_house_28 fX7_119 rfl rfl hp3 ?_
    refine go_putI (pc := 31) dX7_house_31 fX7_122 rfl rfl ?_
    refine go_ldc (pc := 34) dX7_house_34 kX7_125 ?_
    refine go_aload_n (pc := 36) dX7_house_36 rfl ?_
    refine go_getR (pc := 37) dX7_house_37 fX7_19 rfl rfl ?_
    refine go_getI (x := (nI (e.1))) (pc := 40) dX7_house_40 fX7_126 rfl rfl (by rw [py_up_k _ _ _ (by decide)]; exact hp4) ?_
    refine go_isub (pc := 43) dX7_house_43  ?_
    have hf : py_fr [14, 15, 16, 17, 18, 19, 20] [(5, 1), (5, 2), (5, 3), (5, 4), (0, 9)] σ (py_up (py_up s1 5 1 (nI 0)) 0 9 (nI e.2)) := (hf2.wd (by decide) (by decide)).ut (by decide) _
    refine go_retI (pc := 44) dX7_house_44 (by rw [er]; rfl) ⟨?_, hf.wd (by decide) (by decide)⟩
    rw [er]
    exact ⟨py_rc_fr hf (by decide) h1, (by rw [hf 0 10 (by decide) (by decide)]; exact h2), ⟨by rw [py_up_k _ _ _ (by decide)]; exact py_up_s _ _ _ _, Nat.zero_le _, fun i hi => absurd hi (Nat.not_lt_zero i)⟩, py_up_s _ _ _ _, py_hc_fr hf (by decide) (by decide) h5, py_ac_fr hf (by decide) h6, py_im_fr hf (by decide) (by decide) h7, py_im_fr hf (by decide) (by decide) h8, py_tr_fr hf (by decide) h9, py_cr_fr hf (by decide) h10⟩
set_option maxHeartbeats 4000000 in
set_option maxRecDepth 100000 in
theorem cl_as {X : py_X} {σ : py_H} {R : py_Rt} {q : Int32} {B : Nat → Nat} {N : Nat} {ft : Int32} {H : Nat → Nat} {n : Nat} {As : Nat → Nat → Nat} {I0 I1 : Option (Nat → Nat)} {t : Nat} {tr : Nat → Int32} (hI : py_IC σ R q B N ft H n As I0 I1 t tr) (hW : py_IW H n As I0 I1 t) {x y : Int32} : py_Ev X 2 yX7_as cX7_as 3 (some .int) [.ref 0, .int (x), .int (y)] σ (py_vs (some (.int (an_as H x y))) (fun s => py_IC s R (nq_as q H x y) B N ft H n As I0 I1 t tr ∧ py_fr py_SC [] σ s)) := by
  obtain ⟨h1, h2, h3, h4, h5, h6, h7, h8, h9, h10⟩ := id hI
  obtain ⟨hw, hA, hJ0, hJ1, ht16⟩ := id hW
  obtain ⟨w0, w1, w2, w3, w12, w03, w00, wW, wP, wR⟩ := id hw
  have hc := h5.2
  refine py_ofI (own := RX7) YX7_as.2.2.2.2 rfl rfl (Nat.le_of_ble_eq_true rfl)  ?_
  show py_Go X RX7 cX7_as 3 2 0 [some (.ref 0), some (.int (x)), some (.int (y))] [] σ (py_vs (some (.int (an_as H x y))) (fun s => py_IC s R (nq_as q H x y) B N ft H n As I0 I1 t tr ∧ py_fr py_SC [] σ s))
  refine go_aload_n (pc := 0) dX7_as_0 rfl ?_
  refine go_getR (pc := 1) dX7_as_1 fX7_26 rfl rfl ?_
  refine go_iload_n (pc := 4) dX7_as_4 rfl ?_
  refine go_cV (pc := 5) dX7_as_5 (ev_hasPicture (Or.inl rfl) hc.2.2.2.2.1 w12) lX7_157 YX2_hasPicture VX2_hasPicture rfl rfl rfl (by decide) rfl (Nat.le_of_ble_eq_true rfl) ?_
  refine go_if_eqB (tgt := 20) (pc := 8) dX7_as_8 (by decide) (fun c_8 => ?_) (fun c_8 => ?_)
  · refine go_ldc (pc := 20) dX7_as_20 kX7_67 ?_
    have e2 : nq_as q H ((x)) ((y)) = q := by unfold nq_as; (repeat' split) <;> first | rfl | omega | contradiction
    exact go_retI (pc := 22) dX7_as_22 (by unfold an_as; (repeat' split) <;> first | rfl | omega | contradiction) ⟨by rw [e2]; exact hI, py_fr.rf _ _ σ⟩
  · obtain ⟨p, rfl, hp, hpI, hpC⟩ := py_pi_of (x := x) c_8
    refine go_iload_n (pc := 11) dX7_as_11 rfl ?_
    refine go_iconst (v := nI 0) (pc := 12) dX7_as_12 (by decide) ?_
    refine go_iconst (v := nI 5) (pc := 13) dX7_as_13 (by decide) ?_
    refine go_cS (pc := 14) dX7_as_14 ev_isWithinN lX7_101 YX7_isWithin SX7_isWithin rfl (by decide) rfl (Nat.le_of_ble_eq_true rfl) ?_
    refine go_if_neB (tgt := 23) (pc := 17) dX7_as_17 (by decide) (fun c_17 => ?_) (fun c_17 => ?_)
    · obtain ⟨k, rfl, hk0, hk, hkI, hkC⟩ := py_rg_of (x := y) (a := 0) (b := 5) c_17
      refine go_aload_n (pc := 23) dX7_as_23 rfl ?_
      refine go_getR (pc := 24) dX7_as_24 fX7_56 rfl rfl ?_
      refine go_aload_n (pc := 27) dX7_as_27 rfl ?_
      refine go_getR (pc := 28) dX7_as_28 fX7_26 rfl rfl ?_
      refine go_getR (pc := 31) dX7_as_31 fX7_295 rfl rfl ?_
      refine go_iload_n (pc := 34) dX7_as_34 rfl ?_
      refine go_aldN (x := (nI (H (13 + 4 * p)))) (pc := 35) dX7_as_35 rfl (by show p < 5; omega) (hc.2.2.2.2.2.2 p hp).1 ?_
      refine go_iload_n (pc := 36) dX7_as_36 rfl ?_
      refine go_cV (pc := 37) dX7_as_37 (ev_isA (wP p hp).1 (wP p hp).2.1 hk) lX7_298 YX1_isA VX1_isA rfl rfl rfl (by decide) rfl (Nat.le_of_ble_eq_true rfl) ?_
      refine go_if_neB (tgt := 49) (pc := 40) dX7_as_40 (by decide) (fun c_40 => ?_) (fun c_40 => ?_)
      · refine go_aload_n (pc := 49) dX7_as_49 rfl ?_
        refine go_iload_n (pc := 50) dX7_as_50 rfl ?_
        refine go_cVi (pc := 51) dX7_as_51 ev_foundNothing lX7_76 YX7_foundNothing VX7_foundNothing rfl rfl rfl (by decide) rfl (Nat.le_of_ble_eq_true rfl) (fun sf ef => ?_)
        subst ef
        refine go_retI (pc := 54) dX7_as_54 (by unfold an_as; (try simp only [hpC, hkC]); (repeat' split) <;> first | rfl | omega | contradiction) ⟨?_, ((py_fr.rf [] [(0, 10)] σ).ut (by decide) _).wd (by decide) (by decide)⟩
        refine ⟨py_rc_fr ((py_fr.rf [] [(0, 10)] σ).ut (by decide) _) (by decide) h1, ?_, py_tc_fr ((py_fr.rf [] [(0, 10)] σ).ut (by decide) _) (by decide) (by decide) (by decide) (by decide) h3, (by rw [((py_fr.rf [] [(0, 10)] σ).ut (by decide) _) 0 9 (by decide) (by decide)]; exact h4), py_hc_fr ((py_fr.rf [] [(0, 10)] σ).ut (by decide) _) (by decide) (by decide) h5, py_ac_fr ((py_fr.rf [] [(0, 10)] σ).ut (by decide) _) (by decide) h6, py_im_fr ((py_fr.rf [] [(0, 10)] σ).ut (by decide) _) (by decide) (by decide) h7, py_im_fr ((py_fr.rf [] [(0, 10)] σ).ut (by decide) _) (by decide) (by decide) h8, py_tr_fr ((py_fr.rf [] [(0, 10)] σ).ut (by decide) _) (by decide) h9, py_cr_fr ((py_fr.rf [] [(0, 10)] σ).ut (by decide) _) (by decide) h10⟩
        rw [py_up_s]
        unfold nq_as; (try simp only [hpC, hkC]); (repeat' split) <;> first | rfl | omega | contradiction
      · refine go_aload_n (pc := 43) dX7_as_43 rfl ?_
        refine go_iconst (v := nI 3) (pc := 44) dX7_as_44 (by decide) ?_
        refine go_cVi (pc := 45) dX7_as_45 ev_found lX7_68 YX7_found VX7_found rfl rfl rfl (by decide) rfl (Nat.le_of_ble_eq_true rfl) (fun sf ef => ?_)
        subst ef
        refine go_retI (pc := 48) dX7_as_48 (by unfold an_as; (try simp only [hpC, hkC]); (repeat' split) <;> first | rfl | omega | contradiction) ⟨?_, ((py_fr.rf [] [(0, 10)] σ).ut (by decide) _).wd (by decide) (by decide)⟩
        refine ⟨py_rc_fr ((py_fr.rf [] [(0, 10)] σ).ut (by decide) _) (by decide) h1, ?_, py_tc_fr ((py_fr.rf [] [(0, 10)] σ).ut (by decide) _) (by decide) (by decide) (by decide) (by decide) h3, (by rw [((py_fr.rf [] [(0, 10)] σ).ut (by decide) _) 0 9 (by decide) (by decide)]; exact h4), py_hc_fr ((py_fr.rf [] [(0, 10)] σ).ut (by decide) _) (by decide) (by decide) h5, py_ac_fr ((py_fr.rf [] [(0, 10)] σ).ut (by decide) _) (by decide) h6, py_im_fr ((py_fr.rf [] [(0, 10)] σ).ut (by decide) _) (by decide) (by decide) h7, py_im_fr ((py_fr.rf [] [(0, 10)] σ).ut (by decide) _) (by decide) (by decide) h8, py_tr_fr ((py_fr.rf [] [(0, 10)] σ).ut (by decide) _) (by decide) h9, py_cr_fr ((py_fr.rf [] [(0, 10)] σ).ut (by decide) _) (by decide) h10⟩
        rw [py_up_s]
        unfold nq_as; (try simp only [hpC, hkC]); (repeat' split) <;> first | rfl | omega | contradiction
    · refine go_ldc (pc := 20) dX7_as_20 kX7_67 ?_
      have e2 : nq_as q H ((nI p)) ((y)) = q := by unfold nq_as; (repeat' split) <;> first | rfl | omega | contradiction
      exact go_retI (pc := 22) dX7_as_22 (by unfold an_as; (repeat' split) <;> first | rfl | omega | contradiction) ⟨by rw [e2]; exact hI, py_fr.rf _ _ σ⟩
set_option maxHeartbeats 4000000 in
set_option maxRecDepth 100000 in
theorem cl_ask {X : py_X} {σ : py_H} {R : py_Rt} {q : Int32} {B : Nat → Nat} {N : Nat} {ft : Int32} {H : Nat → Nat} {n : Nat} {As : Nat → Nat → Nat} {I0 I1 : Option (Nat → Nat)} {t : Nat} {tr : Nat → Int32} (hI : py_IC σ R q B N ft H n As I0 I1 t tr) (hW : py_IW H n As I0 I1 t) {x y : Int32} : py_Ev X 7 yX7_ask cX7_ask 3 (some .int) [.ref 0, .int (x), .int (y)] σ (py_vs (some (.int (an_ask H x y))) (fun s => py_IC s R q B N ft H n As I0 I1 (nt_ask t H x y) (nu_ask tr H x y) ∧ py_fr py_SC [] σ s)) := by
  obtain ⟨h1, h2, h3, h4, h5, h6, h7, h8, h9, h10⟩ := id hI
  obtain ⟨hw, hA, hJ0, hJ1, ht16⟩ := id hW
  obtain ⟨w0, w1, w2, w3, w12, w03, w00, wW, wP, wR⟩ := id hw
  have hc := h5.2
  refine py_ofI (own := RX7) YX7_ask.2.2.2.2 rfl rfl (Nat.le_of_ble_eq_true rfl)  ?_
  show py_Go X RX7 cX7_ask 3 7 0 [some (.ref 0), some (.int (x)), some (.int (y))] [] σ (py_vs (some (.int (an_ask H x y))) (fun s => py_IC s R q B N ft H n As I0 I1 (nt_ask t H x y) (nu_ask tr H x y) ∧ py_fr py_SC [] σ s))
  refine go_aload_n (pc := 0) dX7_ask_0 rfl ?_
  refine go_getR (pc := 1) dX7_ask_1 fX7_26 rfl rfl ?_
  refine go_iload_n (pc := 4) dX7_ask_4 rfl ?_
  refine go_cV (pc := 5) dX7_ask_5 (ev_hasPicture (Or.inl rfl) hc.2.2.2.2.1 w12) lX7_157 YX2_hasPicture VX2_hasPicture rfl rfl rfl (by decide) rfl (Nat.le_of_ble_eq_true rfl) ?_
  refine go_if_eqB (tgt := 20) (pc := 8) dX7_ask_8 (by decide) (fun c_8 => ?_) (fun c_8 => ?_)
  · refine go_ldc (pc := 20) dX7_ask_20 kX7_67 ?_
    have e1 : nt_ask t H ((x)) ((y)) = t := by unfold nt_ask; rw [if_neg (by omega)]
    have e2 : nu_ask tr H ((x)) ((y)) = tr := by unfold nu_ask; rw [if_neg (by omega)]
    exact go_retI (pc := 22) dX7_ask_22 (by unfold an_ask; (repeat' split) <;> first | rfl | omega) ⟨by rw [e1, e2]; exact hI, py_fr.rf _ _ σ⟩
  · obtain ⟨p, rfl, hp, hpI, hpC⟩ := py_pi_of (x := x) c_8
    refine go_iload_n (pc := 11) dX7_ask_11 rfl ?_
    refine go_iconst (v := nI 0) (pc := 12) dX7_ask_12 (by decide) ?_
    refine go_iconst (v := nI 1) (pc := 13) dX7_ask_13 (by decide) ?_
    refine go_cS (pc := 14) dX7_ask_14 ev_isWithinN lX7_101 YX7_isWithin SX7_isWithin rfl (by decide) rfl (Nat.le_of_ble_eq_true rfl) ?_
    refine go_if_neB (tgt := 23) (pc := 17) dX7_ask_17 (by decide) (fun c_17 => ?_) (fun c_17 => ?_)
    · obtain ⟨k, rfl, hk0, hk, hkI, hkC⟩ := py_rg_of (x := y) (a := 0) (b := 1) c_17
      refine go_iload_n (pc := 23) dX7_ask_23 rfl ?_
      refine go_if_neN (tgt := 42) (pc := 24) dX7_ask_24 (by omega) (by decide) (fun c_24 => ?_) (fun c_24 => ?_)
      · refine go_aload_n (pc := 42) dX7_ask_42 rfl ?_
        refine go_getR (pc := 43) dX7_ask_43 fX7_56 rfl rfl ?_
        refine go_aload_n (pc := 46) dX7_ask_46 rfl ?_
        refine go_getR (pc := 47) dX7_ask_47 fX7_26 rfl rfl ?_
        refine go_iload_n (pc := 50) dX7_ask_50 rfl ?_
        refine go_cVi (pc := 51) dX7_ask_51 (ev_markOf hc hw hp) lX7_304 YX1_markOf VX1_markOf rfl rfl rfl (by decide) rfl (Nat.le_of_ble_eq_true rfl) (fun s1 e1 => ?_)
        subst e1
        have ea : py_ak H (nI p) (nI k) = py_mr H p := by unfold py_ak; rw [hpC]; rw [if_neg (by omega)]
        have e1 : nt_ask t H (nI p) (nI k) = (py_mr H p).2.length := by unfold nt_ask; rw [if_pos (by omega), ea]
        have e2 : nu_ask tr H (nI p) (nI k) = (fun i => nI ((py_mr H p).2.getD i 0)) := by unfold nu_ask; rw [if_pos (by omega), ea]
        have hf : py_fr [46] [(45, 1)] σ (py_trc (py_up σ 45 1 (nI 0)) 0 (py_mr H p).2) := ((py_fr.rf [46] [(45, 1)] σ).ut (by decide) _).tr (py_trc_fr (py_mr H p).2 _ 0) (by decide) (by decide)
        refine go_retI (pc := 54) dX7_ask_54 (by unfold an_ask; rw [if_pos (by omega), ea]) ⟨?_, hf.wd (by decide) (by decide)⟩
        rw [e1, e2]
        refine ⟨py_rc_fr hf (by decide) h1, (by rw [hf 0 10 (by decide) (by decide)]; exact h2), py_tc_fr hf (by decide) (by decide) (by decide) (by decide) h3, (by rw [hf 0 9 (by decide) (by decide)]; exact h4), py_hc_fr hf (by decide) (by decide) h5, py_ac_fr hf (by decide) h6, py_im_fr hf (by decide) (by decide) h7, py_im_fr hf (by decide) (by decide) h8, ⟨?_, fun i hi => ?_⟩, py_cr_fr hf (by decide) h10⟩
        · have z := py_trc_n (py_mr H p).2 (py_up σ 45 1 (nI 0)) 0 (py_up_s _ _ _ _)
          rw [Nat.zero_add] at z
          exact z
        · rw [py_trc_at, if_pos (by omega)]; rfl
      · refine go_aload_n (pc := 27) dX7_ask_27 rfl ?_
        refine go_getR (pc := 28) dX7_ask_28 fX7_56 rfl rfl ?_
        refine go_aload_n (pc := 31) dX7_ask_31 rfl ?_
        refine go_getR (pc := 32) dX7_ask_32 fX7_26 rfl rfl ?_
        refine go_iload_n (pc := 35) dX7_ask_35 rfl ?_
        refine go_cVi (pc := 36) dX7_ask_36 (ev_sizeOf hc hw hp) lX7_301 YX1_sizeOf VX1_sizeOf rfl rfl rfl (by decide) rfl (Nat.le_of_ble_eq_true rfl) (fun s1 e1 => ?_)
        refine go_goto (tgt := 54) (pc := 39) dX7_ask_39 (by decide) ?_
        subst e1
        have ea : py_ak H (nI p) (nI k) = py_sz H p := by unfold py_ak; rw [hpC]; rw [if_pos (by omega)]
        have e1 : nt_ask t H (nI p) (nI k) = (py_sz H p).2.length := by unfold nt_ask; rw [if_pos (by omega), ea]
        have e2 : nu_ask tr H (nI p) (nI k) = (fun i => nI ((py_sz H p).2.getD i 0)) := by unfold nu_ask; rw [if_pos (by omega), ea]
        have hf : py_fr [46] [(45, 1)] σ (py_trc (py_up σ 45 1 (nI 0)) 0 (py_sz H p).2) := ((py_fr.rf [46] [(45, 1)] σ).ut (by decide) _).tr (py_trc_fr (py_sz H p).2 _ 0) (by decide) (by decide)
        refine go_retI (pc := 54) dX7_ask_54 (by unfold an_ask; rw [if_pos (by omega), ea]) ⟨?_, hf.wd (by decide) (by decide)⟩
        rw [e1, e2]
        refine ⟨py_rc_fr hf (by decide) h1, (by rw [hf 0 10 (by decide) (by decide)]; exact h2), py_tc_fr hf (by decide) (by decide) (by decide) (by decide) h3, (by rw [hf 0 9 (by decide) (by decide)]; exact h4), py_hc_fr hf (by decide) (by decide) h5, py_ac_fr hf (by decide) h6, py_im_fr hf (by decide) (by decide) h7, py_im_fr hf (by decide) (by decide) h8, ⟨?_, fun i hi => ?_⟩, py_cr_fr hf (by decide) h10⟩
        · have z := py_trc_n (py_sz H p).2 (py_up σ 45 1 (nI 0)) 0 (py_up_s _ _ _ _)
          rw [Nat.zero_add] at z
          exact z
        · rw [py_trc_at, if_pos (by omega)]; rfl
    · refine go_ldc (pc := 20) dX7_ask_20 kX7_67 ?_
      have e1 : nt_ask t H ((nI p)) ((y)) = t := by unfold nt_ask; rw [if_neg (by omega)]
      have e2 : nu_ask tr H ((nI p)) ((y)) = tr := by unfold nu_ask; rw [if_neg (by omega)]
      exact go_retI (pc := 22) dX7_ask_22 (by unfold an_ask; (repeat' split) <;> first | rfl | omega) ⟨by rw [e1, e2]; exact hI, py_fr.rf _ _ σ⟩
set_option maxHeartbeats 4000000 in
set_option maxRecDepth 100000 in
theorem cl_image {X : py_X} {σ : py_H} {R : py_Rt} {q : Int32} {B : Nat → Nat} {N : Nat} {ft : Int32} {H : Nat → Nat} {n : Nat} {As : Nat → Nat → Nat} {I0 I1 : Option (Nat → Nat)} {t : Nat} {tr : Nat → Int32} (hI : py_IC σ R q B N ft H n As I0 I1 t tr) (hW : py_IW H n As I0 I1 t) {x : Int32} : py_Ev X 2 yX7_image cX7_image 2 (some .int) [.ref 0, .int (x)] σ (py_vs (some (.int (an_image H x))) (fun s => py_IC s R q B N ft H n As (ni_image H I0 0 x) (ni_image H I1 1 x) t tr ∧ py_fr py_SC [] σ s)) := by
  obtain ⟨h1, h2, h3, h4, h5, h6, h7, h8, h9, h10⟩ := id hI
  obtain ⟨hw, hA, hJ0, hJ1, ht16⟩ := id hW
  obtain ⟨w0, w1, w2, w3, w12, w03, w00, wW, wP, wR⟩ := id hw
  have hc := h5.2
  refine py_ofI (own := RX7) YX7_image.2.2.2.2 rfl rfl (Nat.le_of_ble_eq_true rfl)  ?_
  show py_Go X RX7 cX7_image 2 2 0 [some (.ref 0), some (.int (x))] [] σ (py_vs (some (.int (an_image H x))) (fun s => py_IC s R q B N ft H n As (ni_image H I0 0 x) (ni_image H I1 1 x) t tr ∧ py_fr py_SC [] σ s))
  refine go_iload_n (pc := 0) dX7_image_0 rfl ?_
  refine go_iconst (v := nI 0) (pc := 1) dX7_image_1 (by decide) ?_
  refine go_iconst (v := nI 1) (pc := 2) dX7_image_2 (by decide) ?_
  refine go_cS (pc := 3) dX7_image_3 ev_isWithinN lX7_101 YX7_isWithin SX7_isWithin rfl (by decide) rfl (Nat.le_of_ble_eq_true rfl) ?_
  refine go_if_neB (tgt := 12) (pc := 6) dX7_image_6 (by decide) (fun c_6 => ?_) (fun c_6 => ?_)
  · obtain ⟨k, rfl, hk0, hk, hkI, hkC⟩ := py_rg_of (x := x) (a := 0) (b := 1) c_6
    refine go_aload_n (pc := 12) dX7_image_12 rfl ?_
    refine go_getR (pc := 13) dX7_image_13 fX7_26 rfl rfl ?_
    refine go_getI (x := (py_b (0 < H 0))) (pc := 16) dX7_image_16 fX7_139 rfl rfl h5.1 ?_
    refine go_if_neB (tgt := 25) (pc := 19) dX7_image_19 (by decide) (fun c_19 => ?_) (fun c_19 => ?_)
    · rcases (show k = 0 ∨ k = 1 by omega) with hk9 | hk9
      · subst hk9
        refine go_aload_n (pc := 25) dX7_image_25 rfl ?_
        refine go_iload_n (pc := 26) dX7_image_26 rfl ?_
        refine go_cV (pc := 27) dX7_image_27 ev_imageOf0 lX7_291 YX7_imageOf VX7_imageOf rfl rfl rfl (by decide) rfl (Nat.le_of_ble_eq_true rfl) ?_
        refine go_aload_n (pc := 30) dX7_image_30 rfl ?_
        refine go_getR (pc := 31) dX7_image_31 fX7_26 rfl rfl ?_
        refine go_cVv (pc := 34) dX7_image_34 (ev_become_21_7 h5 w3 w12) lX7_129 YX2_become VX2_become rfl rfl rfl (by decide) rfl (Nat.le_of_ble_eq_true rfl) (fun s1 hs => ?_)
        obtain ⟨hcn, hf⟩ := hs
        refine go_iconst (v := nI 1) (pc := 37) dX7_image_37 (by decide) ?_
        have e0 : ni_image H I0 0 ((nI 0)) = some H := by unfold ni_image; rw [if_pos (by omega)]
        have e1 : ni_image H I1 1 ((nI 0)) = I1 := by unfold ni_image; rw [if_neg (by omega)]
        refine go_retI (pc := 38) dX7_image_38 (by unfold an_image; (repeat' split) <;> first | rfl | omega) ⟨?_, hf.wd (by decide) (by decide)⟩
        rw [e0, e1]
        exact ⟨py_rc_fr hf (by decide) h1, (by rw [hf 0 10 (by decide) (by decide)]; exact h2), py_tc_fr hf (by decide) (by decide) (by decide) (by decide) h3, (by rw [hf 0 9 (by decide) (by decide)]; exact h4), py_hc_fr hf (by decide) (by decide) h5, py_ac_fr hf (by decide) h6, ⟨hcn, by omega⟩, py_im_fr hf (by decide) (by decide) h8, py_tr_fr hf (by decide) h9, py_cr_fr hf (by decide) h10⟩
      · subst hk9
        refine go_aload_n (pc := 25) dX7_image_25 rfl ?_
        refine go_iload_n (pc := 26) dX7_image_26 rfl ?_
        refine go_cV (pc := 27) dX7_image_27 ev_imageOf1 lX7_291 YX7_imageOf VX7_imageOf rfl rfl rfl (by decide) rfl (Nat.le_of_ble_eq_true rfl) ?_
        refine go_aload_n (pc := 30) dX7_image_30 rfl ?_
        refine go_getR (pc := 31) dX7_image_31 fX7_26 rfl rfl ?_
        refine go_cVv (pc := 34) dX7_image_34 (ev_become_28_7 h5 w3 w12) lX7_129 YX2_become VX2_become rfl rfl rfl (by decide) rfl (Nat.le_of_ble_eq_true rfl) (fun s1 hs => ?_)
        obtain ⟨hcn, hf⟩ := hs
        refine go_iconst (v := nI 1) (pc := 37) dX7_image_37 (by decide) ?_
        have e0 : ni_image H I0 0 ((nI 1)) = I0 := by unfold ni_image; rw [if_neg (by omega)]
        have e1 : ni_image H I1 1 ((nI 1)) = some H := by unfold ni_image; rw [if_pos (by omega)]
        refine go_retI (pc := 38) dX7_image_38 (by unfold an_image; (repeat' split) <;> first | rfl | omega) ⟨?_, hf.wd (by decide) (by decide)⟩
        rw [e0, e1]
        exact ⟨py_rc_fr hf (by decide) h1, (by rw [hf 0 10 (by decide) (by decide)]; exact h2), py_tc_fr hf (by decide) (by decide) (by decide) (by decide) h3, (by rw [hf 0 9 (by decide) (by decide)]; exact h4), py_hc_fr hf (by decide) (by decide) h5, py_ac_fr hf (by decide) h6, py_im_fr hf (by decide) (by decide) h7, ⟨hcn, by omega⟩, py_tr_fr hf (by decide) h9, py_cr_fr hf (by decide) h10⟩
    · refine go_ldc (pc := 22) dX7_image_22 kX7_143 ?_
      have e0 : ni_image H I0 0 ((nI k)) = I0 := by unfold ni_image; rw [if_neg (by omega)]
      have e1 : ni_image H I1 1 ((nI k)) = I1 := by unfold ni_image; rw [if_neg (by omega)]
      exact go_retI (pc := 24) dX7_image_24 (by unfold an_image; (repeat' split) <;> first | rfl | omega) ⟨by rw [e0, e1]; exact hI, py_fr.rf _ _ σ⟩
  · refine go_ldc (pc := 9) dX7_image_9 kX7_67 ?_
    have e0 : ni_image H I0 0 ((x)) = I0 := by unfold ni_image; rw [if_neg (by omega)]
    have e1 : ni_image H I1 1 ((x)) = I1 := by unfold ni_image; rw [if_neg (by omega)]
    exact go_retI (pc := 11) dX7_image_11 (by unfold an_image; (repeat' split) <;> first | rfl | omega) ⟨by rw [e0, e1]; exact hI, py_fr.rf _ _ σ⟩
theorem py_two {k : Nat} {I0 I1 : Option (Nat → Nat)} (hk : k ≤ 1) : (k = 0 ∧ I0 = none) ∨ (k = 0 ∧ ∃ J, I0 = some J) ∨ (k = 1 ∧ I1 = none) ∨ (k = 1 ∧ ∃ J, I1 = some J) := by
  rcases (show k = 0 ∨ k = 1 by omega) with h | h
  · cases I0 with
    | none => exact Or.inl ⟨h, rfl⟩
    | some J => exact Or.inr (Or.inl ⟨h, J, rfl⟩)
  · cases I1 with
    | none => exact Or.inr (Or.inr (Or.inl ⟨h, rfl⟩))
    | some J => exact Or.inr (Or.inr (Or.inr ⟨h, J, rfl⟩))
set_option maxHeartbeats 4000000 in
set_option maxRecDepth 100000 in
theorem cl_recall {X : py_X} {σ : py_H} {R : py_Rt} {q : Int32} {B : Nat → Nat} {N : Nat} {ft : Int32} {H : Nat → Nat} {n : Nat} {As : Nat → Nat → Nat} {I0 I1 : Option (Nat → Nat)} {t : Nat} {tr : Nat → Int32} (hI : py_IC σ R q B N ft H n As I0 I1 t tr) (hW : py_IW H n As I0 I1 t) {x : Int32} : py_Ev X 2 yX7_recall cX7_recall 2 (some .int) [.ref 0, .int (x)] σ (py_vs (some (.int (an_recall I0 I1 x))) (fun s => py_IC s R q B N ft (nh_recall H I0 I1 x) (na_recall n I0 I1 x) As I0 I1 t tr ∧ py_fr py_SC [] σ s)) := by
  obtain ⟨h1, h2, h3, h4, h5, h6, h7, h8, h9, h10⟩ := id hI
  obtain ⟨hw, hA, hJ0, hJ1, ht16⟩ := id hW
  obtain ⟨w0, w1, w2, w3, w12, w03, w00, wW, wP, wR⟩ := id hw
  have hc := h5.2
  refine py_ofI (own := RX7) YX7_recall.2.2.2.2 rfl rfl (Nat.le_of_ble_eq_true rfl)  ?_
  show py_Go X RX7 cX7_recall 2 2 0 [some (.ref 0), some (.int (x))] [] σ (py_vs (some (.int (an_recall I0 I1 x))) (fun s => py_IC s R q B N ft (nh_recall H I0 I1 x) (na_recall n I0 I1 x) As I0 I1 t tr ∧ py_fr py_SC [] σ s))
  refine go_iload_n (pc := 0) dX7_recall_0 rfl ?_
  refine go_iconst (v := nI 0) (pc := 1) dX7_recall_1 (by decide) ?_
  refine go_iconst (v := nI 1) (pc := 2) dX7_recall_2 (by decide) ?_
  refine go_cS (pc := 3) dX7_recall_3 ev_isWithinN lX7_101 YX7_isWithin SX7_isWithin rfl (by decide) rfl (Nat.le_of_ble_eq_true rfl) ?_
  refine go_if_neB (tgt := 12) (pc := 6) dX7_recall_6 (by decide) (fun c_6 => ?_) (fun c_6 => ?_)
  · obtain ⟨k, rfl, hk0, hk, hkI, hkC⟩ := py_rg_of (x := x) (a := 0) (b := 1) c_6
    rcases (show (k = 0 ∧ I0 = none) ∨ (k = 0 ∧ ∃ J, I0 = some J) ∨ (k = 1 ∧ I1 = none) ∨ (k = 1 ∧ ∃ J, I1 = some J) from py_two hk) with ⟨hk9, hB⟩ | ⟨hk9, J, hB⟩ | ⟨hk9, hB⟩ | ⟨hk9, J, hB⟩
    · subst hk9
      subst hB
      have hj := h7
      change py_im σ 21 (none) at hj
      change σ 21 0 = nI 0 at hj
      refine go_aload_n (pc := 12) dX7_recall_12 rfl ?_
      refine go_iload_n (pc := 13) dX7_recall_13 rfl ?_
      refine go_cV (pc := 14) dX7_recall_14 ev_imageOf0 lX7_291 YX7_imageOf VX7_imageOf rfl rfl rfl (by decide) rfl (Nat.le_of_ble_eq_true rfl) ?_
      refine go_getI (x := (nI 0)) (pc := 17) dX7_recall_17 fX7_139 rfl rfl hj ?_
      refine go_if_neN (tgt := 26) (pc := 20) dX7_recall_20 (by omega) (by decide) (fun c_20 => ?_) (fun c_20 => ?_)
      · exact absurd c_20 (by decide)
      · refine go_ldc (pc := 23) dX7_recall_23 kX7_143 ?_
        have ei : py_ix none I1 ((nI 0)) = none := by unfold py_ix; rw [if_pos (by omega)]
        have e0 : nh_recall H none I1 ((nI 0)) = H := by unfold nh_recall; rw [if_pos (by omega), ei]
        have e1 : na_recall n none I1 ((nI 0)) = n := by unfold na_recall; rw [if_pos (by omega), ei]
        exact go_retI (pc := 25) dX7_recall_25 (by unfold an_recall; rw [if_pos (by omega), ei]) ⟨by rw [e0, e1]; exact hI, py_fr.rf _ _ σ⟩
    · subst hk9
      subst hB
      have hj := h7
      change py_im σ 21 (some J) at hj
      change py_hc σ 21 J ∧ 0 < J 0 at hj
      refine go_aload_n (pc := 12) dX7_recall_12 rfl ?_
      refine go_iload_n (pc := 13) dX7_recall_13 rfl ?_
      refine go_cV (pc := 14) dX7_recall_14 ev_imageOf0 lX7_291 YX7_imageOf VX7_imageOf rfl rfl rfl (by decide) rfl (Nat.le_of_ble_eq_true rfl) ?_
      refine go_getI (x := (py_b (0 < J 0))) (pc := 17) dX7_recall_17 fX7_139 rfl rfl hj.1.1 ?_
      refine go_if_neB (tgt := 26) (pc := 20) dX7_recall_20 (by decide) (fun c_20 => ?_) (fun c_20 => ?_)
      · refine go_aload_n (pc := 26) dX7_recall_26 rfl ?_
        refine go_getR (pc := 27) dX7_recall_27 fX7_26 rfl rfl ?_
        refine go_aload_n (pc := 30) dX7_recall_30 rfl ?_
        refine go_iload_n (pc := 31) dX7_recall_31 rfl ?_
        refine go_cV (pc := 32) dX7_recall_32 ev_imageOf0 lX7_291 YX7_imageOf VX7_imageOf rfl rfl rfl (by decide) rfl (Nat.le_of_ble_eq_true rfl) ?_
        refine go_cVv (pc := 35) dX7_recall_35 (ev_become_7_21 hj.1 (hJ0 J rfl).1.2.2.2.1 (hJ0 J rfl).1.2.2.2.2.1) lX7_129 YX2_become VX2_become rfl rfl rfl (by decide) rfl (Nat.le_of_ble_eq_true rfl) (fun s3 hs3 => ?_)
        obtain ⟨hc7, hf3⟩ := hs3
        refine go_aload_n (pc := 38) dX7_recall_38 rfl ?_
        refine go_getR (pc := 39) dX7_recall_39 fX7_42 rfl rfl ?_
        refine go_cVv (pc := 42) dX7_recall_42 ev_forget lX7_133 YX0_forget VX0_forget rfl rfl rfl (by decide) rfl (Nat.le_of_ble_eq_true rfl) (fun s4 e4 => ?_)
        subst e4
        refine go_iconst (v := nI 1) (pc := 45) dX7_recall_45 (by decide) ?_
        have ei : py_ix (some J) I1 ((nI 0)) = (some J) := by unfold py_ix; rw [if_pos (by omega)]
        have e0 : nh_recall H (some J) I1 ((nI 0)) = J := by unfold nh_recall; rw [if_pos (by omega), ei]
        have e1 : na_recall n (some J) I1 ((nI 0)) = 0 := by unfold na_recall; rw [if_pos (by omega), ei]
        have hf : py_fr [7, 8, 9, 10, 11, 12, 13, 35] [] σ (py_up (py_up s3 35 1 (nI 0)) 35 2 (nI 0)) := ((hf3.wd (by decide) (by decide)).up (by decide) _).up (by decide) _
        have hf7 : py_fr [35] [] s3 (py_up (py_up s3 35 1 (nI 0)) 35 2 (nI 0)) := ((py_fr.rf [35] [] s3).up (by decide) _).up (by decide) _
        refine go_retI (pc := 46) dX7_recall_46 (by unfold an_recall; rw [if_pos (by omega), ei]) ⟨?_, hf.wd (by decide) (by decide)⟩
        rw [e0, e1]
        exact ⟨py_rc_fr hf (by decide) h1, (by rw [hf 0 10 (by decide) (by decide)]; exact h2), py_tc_fr hf (by decide) (by decide) (by decide) (by decide) h3, (by rw [hf 0 9 (by decide) (by decide)]; exact h4), py_hc_fr hf7 (by decide) (by decide) hc7, ⟨0, by rw [py_up_j _ _ _ (by decide)]; exact py_up_s _ _ _ _, py_up_s _ _ _ _, Nat.zero_le _, by decide, fun i hi => absurd hi (Nat.not_lt_zero i)⟩, py_im_fr hf (by decide) (by decide) h7, py_im_fr hf (by decide) (by decide) h8, py_tr_fr hf (by decide) h9, py_cr_fr hf (by decide) h10⟩
      · exact absurd hj.2 c_20
    · subst hk9
      subst hB
      have hj := h8
      change py_im σ 28 (none) at hj
      change σ 28 0 = nI 0 at hj
      refine go_aload_n (pc := 12) dX7_recall_12 rfl ?_
      refine go_iload_n (pc := 13) dX7_recall_13 rfl ?_
      refine go_cV (pc := 14) dX7_recall_14 ev_imageOf1 lX7_291 YX7_imageOf VX7_imageOf rfl rfl rfl (by decide) rfl (Nat.le_of_ble_eq_true rfl) ?_
      refine go_getI (x := (nI 0)) (pc := 17) dX7_recall_17 fX7_139 rfl rfl hj ?_
      refine go_if_neN (tgt := 26) (pc := 20) dX7_recall_20 (by omega) (by decide) (fun c_20 => ?_) (fun c_20 => ?_)
      · exact absurd c_20 (by decide)
      · refine go_ldc (pc := 23) dX7_recall_23 kX7_143 ?_
        have ei : py_ix I0 none ((nI 1)) = none := by unfold py_ix; rw [if_neg (by omega)]
        have e0 : nh_recall H I0 none ((nI 1)) = H := by unfold nh_recall; rw [if_pos (by omega), ei]
        have e1 : na_recall n I0 none ((nI 1)) = n := by unfold na_recall; rw [if_pos (by omega), ei]
        exact go_retI (pc := 25) dX7_recall_25 (by unfold an_recall; rw [if_pos (by omega), ei]) ⟨by rw [e0, e1]; exact hI, py_fr.rf _ _ σ⟩
    · subst hk9
      subst hB
      have hj := h8
      change py_im σ 28 (some J) at hj
      change py_hc σ 28 J ∧ 0 < J 0 at hj
      refine go_aload_n (pc := 12) dX7_recall_12 rfl ?_
      refine go_iload_n (pc := 13) dX7_recall_13 rfl ?_
      refine go_cV (pc := 14) dX7_recall_14 ev_imageOf1 lX7_291 YX7_imageOf VX7_imageOf rfl rfl rfl (by decide) rfl (Nat.le_of_ble_eq_true rfl) ?_
      refine go_getI (x := (py_b (0 < J 0))) (pc := 17) dX7_recall_17 fX7_139 rfl rfl hj.1.1 ?_
      refine go_if_neB (tgt := 26) (pc := 20) dX7_recall_20 (by decide) (fun c_20 => ?_) (fun c_20 => ?_)
      · refine go_aload_n (pc := 26) dX7_recall_26 rfl ?_
        refine go_getR (pc := 27) dX7_recall_27 fX7_26 rfl rfl ?_
        refine go_aload_n (pc := 30) dX7_recall_30 rfl ?_
        refine go_iload_n (pc := 31) dX7_recall_31 rfl ?_
        refine go_cV (pc := 32) dX7_recall_32 ev_imageOf1 lX7_291 YX7_imageOf VX7_imageOf rfl rfl rfl (by decide) rfl (Nat.le_of_ble_eq_true rfl) ?_
        refine go_cVv (pc := 35) dX7_recall_35 (ev_become_7_28 hj.1 (hJ1 J rfl).1.2.2.2.1 (hJ1 J rfl).1.2.2.2.2.1) lX7_129 YX2_become VX2_become rfl rfl rfl (by decide) rfl (Nat.le_of_ble_eq_true rfl) (fun s3 hs3 => ?_)
        obtain ⟨hc7, hf3⟩ := hs3
        refine go_aload_n (pc := 38) dX7_recall_38 rfl ?_
        refine go_getR (pc := 39) dX7_recall_39 fX7_42 rfl rfl ?_
        refine go_cVv (pc := 42) dX7_recall_42 ev_forget lX7_133 YX0_forget VX0_forget rfl rfl rfl (by decide) rfl (Nat.le_of_ble_eq_true rfl) (fun s4 e4 => ?_)
        subst e4
        refine go_iconst (v := nI 1) (pc := 45) dX7_recall_45 (by decide) ?_
        have ei : py_ix I0 (some J) ((nI 1)) = (some J) := by unfold py_ix; rw [if_neg (by omega)]
        have e0 : nh_recall H I0 (some J) ((nI 1)) = J := by unfold nh_recall; rw [if_pos (by omega), ei]
        have e1 : na_recall n I0 (some J) ((nI 1)) = 0 := by unfold na_recall; rw [if_pos (by omega), ei]
        have hf : py_fr [7, 8, 9, 10, 11, 12, 13, 35] [] σ (py_up (py_up s3 35 1 (nI 0)) 35 2 (nI 0)) := ((hf3.wd (by decide) (by decide)).up (by decide) _).up (by decide) _
        have hf7 : py_fr [35] [] s3 (py_up (py_up s3 35 1 (nI 0)) 35 2 (nI 0)) := ((py_fr.rf [35] [] s3).up (by decide) _).up (by decide) _
        refine go_retI (pc := 46) dX7_recall_46 (by unfold an_recall; rw [if_pos (by omega), ei]) ⟨?_, hf.wd (by decide) (by decide)⟩
        rw [e0, e1]
        exact ⟨py_rc_fr hf (by decide) h1, (by rw [hf 0 10 (by decide) (by decide)]; exact h2), py_tc_fr hf (by decide) (by decide) (by decide) (by decide) h3, (by rw [hf 0 9 (by decide) (by decide)]; exact h4), py_hc_fr hf7 (by decide) (by decide) hc7, ⟨0, by rw [py_up_j _ _ _ (by decide)]; exact py_up_s _ _ _ _, py_up_s _ _ _ _, Nat.zero_le _, by decide, fun i hi => absurd hi (Nat.not_lt_zero i)⟩, py_im_fr hf (by decide) (by decide) h7, py_im_fr hf (by decide) (by decide) h8, py_tr_fr hf (by decide) h9, py_cr_fr hf (by decide) h10⟩
      · exact absurd hj.2 c_20
  · refine go_ldc (pc := 9) dX7_recall_9 kX7_67 ?_
    have e0 : nh_recall H I0 I1 ((x)) = H := by unfold nh_recall; rw [if_neg (by omega)]
    have e1 : na_recall n I0 I1 ((x)) = n := by unfold na_recall; rw [if_neg (by omega)]
    exact go_retI (pc := 11) dX7_recall_11 (by unfold an_recall; rw [if_neg (by omega)]) ⟨by rw [e0, e1]; exact hI, py_fr.rf _ _ σ⟩
set_option maxHeartbeats 4000000 in
set_option maxRecDepth 100000 in
theorem cl_undo {X : py_X} {σ : py_H} {R : py_Rt} {q : Int32} {B : Nat → Nat} {N : Nat} {ft : Int32} {H : Nat → Nat} {n : Nat} {As : Nat → Nat → Nat} {I0 I1 : Option (Nat → Nat)} {t : Nat} {tr : Nat → Int32} (hI : py_IC σ R q B N ft H n As I0 I1 t tr) (hW : py_IW H n As I0 I1 t) : py_Ev X 2 yX7_undo cX7_undo 1 (some .int) [.ref 0] σ (py_vs (some (.int (an_undo n))) (fun s => py_IC s R q B N ft ((nz_undo (n, As, H)).2.2) ((nz_undo (n, As, H)).1) ((nz_undo (n, As, H)).2.1) I0 I1 t tr ∧ py_fr py_SC [] σ s)) := by
  obtain ⟨h1, h2, h3, h4, h5, h6, h7, h8, h9, h10⟩ := id hI
  obtain ⟨hw, hA, hJ0, hJ1, ht16⟩ := id hW
  obtain ⟨w0, w1, w2, w3, w12, w03, w00, wW, wP, wR⟩ := id hw
  have hc := h5.2
  refine py_ofI (own := RX7) YX7_undo.2.2.2.2 rfl rfl (Nat.le_of_ble_eq_true rfl)  ?_
  show py_Go X RX7 cX7_undo 1 2 0 [some (.ref 0)] [] σ (py_vs (some (.int (an_undo n))) (fun s => py_IC s R q B N ft ((nz_undo (n, As, H)).2.2) ((nz_undo (n, As, H)).1) ((nz_undo (n, As, H)).2.1) I0 I1 t tr ∧ py_fr py_SC [] σ s))
  refine go_aload_n (pc := 0) dX7_undo_0 rfl ?_
  refine go_getR (pc := 1) dX7_undo_1 fX7_42 rfl rfl ?_
  refine go_aload_n (pc := 4) dX7_undo_4 rfl ?_
  refine go_getR (pc := 5) dX7_undo_5 fX7_26 rfl rfl ?_
  rcases (show n = 0 ∨ ∃ m, n = m + 1 from by cases n with | zero => exact Or.inl rfl | succ m => exact Or.inr ⟨m, rfl⟩) with hn | ⟨m, hn⟩
  · subst hn
    obtain ⟨fr, ha⟩ := h6
    refine go_cV (pc := 8) dX7_undo_8 (ev_takeBack0 ha) lX7_185 YX0_takeBack VX0_takeBack rfl rfl rfl (by decide) rfl (Nat.le_of_ble_eq_true rfl) ?_
    refine go_if_eqN (tgt := 24) (pc := 11) dX7_undo_11 (by omega) (by decide) (fun c_11 => ?_) (fun c_11 => ?_)
    · refine go_ldc (pc := 24) dX7_undo_24 kX7_143 ?_
      exact go_retI (pc := 26) dX7_undo_26 rfl ⟨hI, py_fr.rf _ _ σ⟩
    · exact absurd c_11 (by decide)
  · subst hn
    obtain ⟨fr, ha⟩ := h6
    have hst := (hA.2 m (by omega)).2
    refine go_cVi (pc := 8) dX7_undo_8 (ev_takeBack1 hc w12 ha hst) lX7_185 YX0_takeBack VX0_takeBack rfl rfl rfl (by decide) rfl (Nat.le_of_ble_eq_true rfl) (fun s1 hs => ?_)
    obtain ⟨hac, hd, hf⟩ := hs
    refine go_if_eqN (tgt := 24) (pc := 11) dX7_undo_11 (by omega) (by decide) (fun c_11 => ?_) (fun c_11 => ?_)
    · exact absurd c_11 (by decide)
    · refine go_aload_n (pc := 14) dX7_undo_14 rfl ?_
      refine go_getR (pc := 15) dX7_undo_15 fX7_42 rfl rfl ?_
      refine go_getI (x := (nI m)) (pc := 18) dX7_undo_18 fX7_188 rfl rfl (hac.elim (fun _ z => z.1)) ?_
      refine go_goto (tgt := 26) (pc := 21) dX7_undo_21 (by decide) ?_
      have ez : nz_undo (m + 1, As, H) = (m, As, As m) := rfl
      refine go_retI (pc := 26) dX7_undo_26 (by unfold an_undo; rw [if_neg (by omega)]; rfl) ⟨?_, hf.wd (by decide) (by decide)⟩
      rw [ez]
      show py_IC s1 R q B N ft (As m) (m) As I0 I1 t tr
      exact ⟨py_rc_fr hf (by decide) h1, (by rw [hf 0 10 (by decide) (by decide)]; exact h2), py_tc_fr hf (by decide) (by decide) (by decide) (by decide) h3, (by rw [hf 0 9 (by decide) (by decide)]; exact h4), ⟨by rw [hf 7 0 (by decide) (by decide), hst.1]; exact h5.1, hd⟩, (by rw [hst.2.2.1]; exact hac), py_im_fr hf (by decide) (by decide) h7, py_im_fr hf (by decide) (by decide) h8, py_tr_fr hf (by decide) h9, py_cr_fr hf (by decide) h10⟩
theorem py_hd_pc2 {σ : py_H} {H : Nat → Nat} {p v : Nat} (h3 : H 3 ≤ 4) (h : py_hd σ 7 H) : py_hd (py_up σ 12 p (nI v)) 7 (py_pc2 H p v) := by
  obtain ⟨a1, a2, a3, a4, a5, aw, ap⟩ := h
  have e : ∀ j, (∀ q, j ≠ 15 + 4 * q) → py_pc2 H p v j = H j := fun j hj => by unfold py_pc2; rw [if_neg (hj p)]
  have u : ∀ k, k ≠ 12 → py_up σ 12 p (nI v) k = σ k := fun k hk => py_up_k _ _ _ hk
  unfold py_hd
  rw [u 7 (by decide), e 0 (fun q => by omega), e 1 (fun q => by omega), e 2 (fun q => by omega), e 3 (fun q => by omega), e 12 (fun q => by omega)]
  refine ⟨a1, a2, a3, a4, a5, fun w hw => ?_, fun q hq => ?_⟩
  · have z := aw w hw
    rw [u (7 + 1) (by decide), u (7 + 2) (by decide)]
    by_cases h1 : 4 + 2 * w = 15 + 4 * p
    · omega
    · unfold py_pc2
      rw [if_neg h1, if_neg (by omega)]; exact z
  · have z := ap q hq
    rw [u (7 + 3) (by decide), u (7 + 4) (by decide), u (7 + 6) (by decide), e (13 + 4 * q) (fun j => by omega), e (14 + 4 * q) (fun j => by omega), e (16 + 4 * q) (fun j => by omega)]
    refine ⟨z.1, z.2.1, ?_, z.2.2.2⟩
    show py_up σ 12 p (nI v) 12 q = _
    unfold py_pc2
    rw [py_up_jj]
    by_cases hq2 : q = p
    · rw [if_pos hq2, if_pos (by omega)]
    · rw [if_neg hq2, if_neg (by omega)]; exact z.2.2.1
theorem py_hd_pu {σ : py_H} {H : Nat → Nat} {v : Nat} (h : py_hd σ 7 H) : py_hd (py_up σ 7 2 (nI v)) 7 (fun j => if j = 1 then v else H j) := by
  obtain ⟨a1, a2, a3, a4, a5, aw, ap⟩ := h
  refine ⟨(py_up_j _ _ _ (by decide)).trans a1, py_up_s _ _ _ _, (py_up_j _ _ _ (by decide)).trans a3, (py_up_j _ _ _ (by decide)).trans a4, (py_up_j _ _ _ (by decide)).trans a5, fun w hw => ?_, fun q hq => ?_⟩
  · have z := aw w hw
    dsimp only
    rw [py_up_k _ _ _ (by decide), py_up_k _ _ _ (by decide), if_neg (by omega), if_neg (by omega)]
    exact z
  · have z := ap q hq
    dsimp only
    rw [py_up_k _ _ _ (by decide), py_up_k _ _ _ (by decide), py_up_k _ _ _ (by decide), py_up_k _ _ _ (by decide), if_neg (by omega), if_neg (by omega), if_neg (by omega), if_neg (by omega)]
    exact z
theorem py_rs_pc2 (H : Nat → Nat) (p c : Nat) : py_rs H p c = (fun j => if j = 1 then H 1 - c else py_pc2 H p (H (15 + 4 * p) + c) j) := by
  funext j
  unfold py_rs py_pc2
  by_cases h1 : j = 15 + 4 * p
  · rw [if_pos h1, if_neg (by omega), if_pos h1, h1]
  · rw [if_neg h1, if_neg h1]
theorem py_hd_hg {σ : py_H} {H : Nat → Nat} {p v : Nat} (h3 : H 3 ≤ 4) (h : py_hd σ 7 H) : py_hd (py_up σ 13 p (nI v)) 7 (py_hg H p v) := by
  obtain ⟨a1, a2, a3, a4, a5, aw, ap⟩ := h
  have e : ∀ j, (∀ q, j ≠ 16 + 4 * q) → py_hg H p v j = H j := fun j hj => by unfold py_hg; rw [if_neg (hj p)]
  have u : ∀ k, k ≠ 13 → py_up σ 13 p (nI v) k = σ k := fun k hk => py_up_k _ _ _ hk
  unfold py_hd
  rw [u 7 (by decide), e 0 (fun q => by omega), e 1 (fun q => by omega), e 2 (fun q => by omega), e 3 (fun q => by omega), e 12 (fun q => by omega)]
  refine ⟨a1, a2, a3, a4, a5, fun w hw => ?_, fun q hq => ?_⟩
  · have z := aw w hw
    rw [u (7 + 1) (by decide), u (7 + 2) (by decide)]
    unfold py_hg
    rw [if_neg (by omega), if_neg (by omega)]; exact z
  · have z := ap q hq
    rw [u (7 + 3) (by decide), u (7 + 4) (by decide), u (7 + 5) (by decide), e (13 + 4 * q) (fun j => by omega), e (14 + 4 * q) (fun j => by omega), e (15 + 4 * q) (fun j => by omega)]
    refine ⟨z.1, z.2.1, z.2.2.1, ?_⟩
    show py_up σ 13 p (nI v) 13 q = _
    unfold py_hg
    rw [py_up_jj]
    by_cases hq2 : q = p
    · rw [if_pos hq2, if_pos (by omega)]
    · rw [if_neg hq2, if_neg (by omega)]; exact z.2.2.2
theorem py_min_n {a b : Nat} (ha : a < 2 ^ 31) (hb : b < 2 ^ 31) : (if nI a < nI b then nI a else nI b) = nI (if b < a then b else a) := by
  have e : nI a < nI b ↔ a < b := by
    rw [Int32.lt_iff_toInt_lt, nI_toInt ha, nI_toInt hb]; omega
  by_cases h : a < b
  · rw [if_pos (e.mpr h), if_neg (by omega)]
  · rw [if_neg (fun z => h (e.mp z))]
    by_cases h2 : b < a
    · rw [if_pos h2]
    · rw [if_neg h2, show a = b by omega]
theorem py_fit_cong {K S C L D Y : Nat} {a b : Nat → Int32} {n : Nat} (h : ∀ k, k < n → a k = b k) : py_fit K S C L D Y a n = py_fit K S C L D Y b n := by
  unfold py_fit
  rw [Bool.eq_iff_iff, py_all_iff, py_all_iff]
  constructor
  · intro z i hi; have y := z i hi; rw [← h i hi]; exact y
  · intro z i hi; have y := z i hi; rw [h i hi]; exact y
set_option maxHeartbeats 4000000 in
set_option maxRecDepth 100000 in
theorem cl_deed {X : py_X} {σ : py_H} {R : py_Rt} {q : Int32} {B : Nat → Nat} {N : Nat} {ft : Int32} {H : Nat → Nat} {n : Nat} {As : Nat → Nat → Nat} {I0 I1 : Option (Nat → Nat)} {t : Nat} {tr : Nat → Int32} (hI : py_IC σ R q B N ft H n As I0 I1 t tr) (hW : py_IW H n As I0 I1 t) {x y : Int32} : py_Ev X 2 yX7_deed cX7_deed 3 (some .int) [.ref 0, .int (x), .int (y)] σ (py_vs (some (.int (an_deed H x y))) (fun s => py_IC s R q B N ft ((nz_deed (n, As, H) x y).2.2) ((nz_deed (n, As, H) x y).1) ((nz_deed (n, As, H) x y).2.1) I0 I1 t tr ∧ py_fr py_SC [] σ s)) := by
  obtain ⟨h1, h2, h3, h4, h5, h6, h7, h8, h9, h10⟩ := id hI
  obtain ⟨hw, hA, hJ0, hJ1, ht16⟩ := id hW
  obtain ⟨w0, w1, w2, w3, w12, w03, w00, wW, wP, wR⟩ := id hw
  have hc := h5.2
  refine py_ofI (own := RX7) YX7_deed.2.2.2.2 rfl rfl (Nat.le_of_ble_eq_true rfl)  ?_
  show py_Go X RX7 cX7_deed 3 2 0 [some (.ref 0), some (.int (x)), some (.int (y))] [] σ (py_vs (some (.int (an_deed H x y))) (fun s => py_IC s R q B N ft ((nz_deed (n, As, H) x y).2.2) ((nz_deed (n, As, H) x y).1) ((nz_deed (n, As, H) x y).2.1) I0 I1 t tr ∧ py_fr py_SC [] σ s))
  refine go_aload_n (pc := 0) dX7_deed_0 rfl ?_
  refine go_getR (pc := 1) dX7_deed_1 fX7_26 rfl rfl ?_
  refine go_iload_n (pc := 4) dX7_deed_4 rfl ?_
  refine go_cV (pc := 5) dX7_deed_5 (ev_hasPicture (Or.inl rfl) hc.2.2.2.2.1 w12) lX7_157 YX2_hasPicture VX2_hasPicture rfl rfl rfl (by decide) rfl (Nat.le_of_ble_eq_true rfl) ?_
  refine go_if_eqB (tgt := 21) (pc := 8) dX7_deed_8 (by decide) (fun c_8 => ?_) (fun c_8 => ?_)
  · refine go_ldc (pc := 21) dX7_deed_21 kX7_67 ?_
    have ez : nz_deed (n, As, H) ((x)) ((y)) = (n, As, H) := by unfold nz_deed; rw [if_neg (by dsimp only; omega)]
    exact go_retI (pc := 23) dX7_deed_23 (by unfold an_deed; (repeat' split) <;> first | rfl | omega) ⟨by rw [ez]; exact hI, py_fr.rf _ _ σ⟩
  · obtain ⟨p, rfl, hp, hpI, hpC⟩ := py_pi_of (x := x) c_8
    have hcl : H (15 + 4 * p) ≤ 60 := (wP p hp).2.2.2.2.1
    have hu : H (15 + 4 * (nI p).toNatClampNeg) = H (15 + 4 * p) := by rw [hpC]
    refine go_iload_n (pc := 11) dX7_deed_11 rfl ?_
    refine go_iconst (v := nI 1) (pc := 12) dX7_deed_12 (by decide) ?_
    refine go_bipush (v := nI 60) (pc := 13) dX7_deed_13 (by decide) ?_
    refine go_cS (pc := 15) dX7_deed_15 ev_isWithinN lX7_101 YX7_isWithin SX7_isWithin rfl (by decide) rfl (Nat.le_of_ble_eq_true rfl) ?_
    refine go_if_neB (tgt := 24) (pc := 18) dX7_deed_18 (by decide) (fun c_18 => ?_) (fun c_18 => ?_)
    · obtain ⟨v, rfl, hv0, hv, hvI, hvC⟩ := py_rg_of (x := y) (a := 1) (b := 60) c_18
      refine go_aload_n (pc := 24) dX7_deed_24 rfl ?_
      refine go_getR (pc := 25) dX7_deed_25 fX7_26 rfl rfl ?_
      refine go_getR (pc := 28) dX7_deed_28 fX7_160 rfl rfl ?_
      refine go_iload_n (pc := 31) dX7_deed_31 rfl ?_
      refine go_aldN (x := (nI (H (15 + 4 * p)))) (pc := 32) dX7_deed_32 rfl (by show p < 5; omega) (hc.2.2.2.2.2.2 p hp).2.2.1 ?_
      refine go_if_neN (tgt := 39) (pc := 33) dX7_deed_33 (by omega) (by decide) (fun c_33 => ?_) (fun c_33 => ?_)
      · refine go_aload_n (pc := 39) dX7_deed_39 rfl ?_
        refine go_getR (pc := 40) dX7_deed_40 fX7_42 rfl rfl ?_
        refine go_aload_n (pc := 43) dX7_deed_43 rfl ?_
        refine go_getR (pc := 44) dX7_deed_44 fX7_26 rfl rfl ?_
        obtain ⟨fr, ha⟩ := h6
        refine go_cVv (pc := 47) dX7_deed_47 (ev_keep hc w12 ha) lX7_147 YX0_keep VX0_keep rfl rfl rfl (by decide) rfl (Nat.le_of_ble_eq_true rfl) (fun s1 hs => ?_)
        obtain ⟨⟨n2, fr2, hn2, ha2⟩, hf1⟩ := hs
        subst hn2
        have hc1 := py_hd_fr hf1 (by decide) (by decide) hc
        refine go_aload_n (pc := 50) dX7_deed_50 rfl ?_
        refine go_getR (pc := 51) dX7_deed_51 fX7_26 rfl rfl ?_
        refine go_getR (pc := 54) dX7_deed_54 fX7_160 rfl rfl ?_
        refine go_iload_n (pc := 57) dX7_deed_57 rfl ?_
        refine go_iconst (v := nI 0) (pc := 58) dX7_deed_58 (by decide) ?_
        refine go_aload_n (pc := 59) dX7_deed_59 rfl ?_
        refine go_getR (pc := 60) dX7_deed_60 fX7_26 rfl rfl ?_
        refine go_getR (pc := 63) dX7_deed_63 fX7_160 rfl rfl ?_
        refine go_iload_n (pc := 66) dX7_deed_66 rfl ?_
        refine go_aldN (x := (nI (H (15 + 4 * p)))) (pc := 67) dX7_deed_67 rfl (by show p < 5; omega) (hc1.2.2.2.2.2.2 p hp).2.2.1 ?_
        refine go_iload_n (pc := 68) dX7_deed_68 rfl ?_
        refine go_isub (pc := 69) dX7_deed_69  ?_
        refine go_mmax (pc := 70) dX7_deed_70 lX7_164 Smax Imath Cmax (by decide) (Nat.le_of_ble_eq_true rfl) ?_
        refine go_top (y := (nI (H (15 + 4 * p) - v))) (py_max0 (by omega) (by omega)) ?_
        refine go_astN (pc := 73) dX7_deed_73 rfl (by show p < 5; omega) ?_
        refine go_aload_n (pc := 74) dX7_deed_74 rfl ?_
        refine go_getR (pc := 75) dX7_deed_75 fX7_26 rfl rfl ?_
        refine go_getR (pc := 78) dX7_deed_78 fX7_160 rfl rfl ?_
        refine go_iload_n (pc := 81) dX7_deed_81 rfl ?_
        refine go_aldN (x := (nI (H (15 + 4 * p) - v))) (pc := 82) dX7_deed_82 rfl (by show p < 5; omega) (py_up_s _ _ _ _) ?_
        have ez : nz_deed (n, As, H) (nI p) (nI v) = py_act (n, As, H) (py_pc2 H p (H (15 + 4 * p) - v)) := by unfold nz_deed; rw [if_pos (by dsimp only; omega), hpC, hvC]
        have hf2 : py_fr [12] [] s1 (py_up s1 12 p (nI (H (15 + 4 * p) - v))) := (py_fr.rf [12] [] s1).up (by decide) _
        have hf := (hf1.wd (S := [12, 35, 36]) (T := []) (by decide) (by decide)).tr hf2 (by decide) (by decide)
        refine go_retI (pc := 83) dX7_deed_83 (by unfold an_deed; rw [if_pos (by omega), hpC, hvC, if_neg (by omega)]) ⟨?_, hf.wd (by decide) (by decide)⟩
        rw [ez]
        show py_IC (py_up s1 12 p (nI (H (15 + 4 * p) - v))) R q B N ft (py_pc2 H p (H (15 + 4 * p) - v)) (if n + 1 < 24 then n + 1 else 24) (py_pa n As H) I0 I1 t tr
        have e12 : py_pc2 H p (H (15 + 4 * p) - v) 12 = H 12 := by unfold py_pc2; rw [if_neg (by omega)]
        have e0 : py_pc2 H p (H (15 + 4 * p) - v) 0 = H 0 := by unfold py_pc2; rw [if_neg (by omega)]
        exact ⟨py_rc_fr hf (by decide) h1, (by rw [hf 0 10 (by decide) (by decide)]; exact h2), py_tc_fr hf (by decide) (by decide) (by decide) (by decide) h3, (by rw [hf 0 9 (by decide) (by decide)]; exact h4), ⟨by rw [hf 7 0 (by decide) (by decide), e0]; exact h5.1, py_hd_pc2 w3 hc1⟩, (by rw [e12]; exact py_ac_fr hf2 (by decide) ⟨fr2, ha2⟩), py_im_fr hf (by decide) (by decide) h7, py_im_fr hf (by decide) (by decide) h8, py_tr_fr hf (by decide) h9, py_cr_fr hf (by decide) h10⟩
      · refine go_ldc (pc := 36) dX7_deed_36 kX7_143 ?_
        have ez : nz_deed (n, As, H) ((nI p)) ((nI v)) = (n, As, H) := by unfold nz_deed; rw [if_neg (by dsimp only; omega)]
        exact go_retI (pc := 38) dX7_deed_38 (by unfold an_deed; (repeat' split) <;> first | rfl | omega) ⟨by rw [ez]; exact hI, py_fr.rf _ _ σ⟩
    · refine go_ldc (pc := 21) dX7_deed_21 kX7_67 ?_
      have ez : nz_deed (n, As, H) ((nI p)) ((y)) = (n, As, H) := by unfold nz_deed; rw [if_neg (by dsimp only; omega)]
      exact go_retI (pc := 23) dX7_deed_23 (by unfold an_deed; (repeat' split) <;> first | rfl | omega) ⟨by rw [ez]; exact hI, py_fr.rf _ _ σ⟩
set_option maxHeartbeats 4000000 in
set_option maxRecDepth 100000 in
theorem cl_restore {X : py_X} {σ : py_H} {R : py_Rt} {q : Int32} {B : Nat → Nat} {N : Nat} {ft : Int32} {H : Nat → Nat} {n : Nat} {As : Nat → Nat → Nat} {I0 I1 : Option (Nat → Nat)} {t : Nat} {tr : Nat → Int32} (hI : py_IC σ R q B N ft H n As I0 I1 t tr) (hW : py_IW H n As I0 I1 t) {x y : Int32} : py_Ev X 2 yX7_restore cX7_restore 4 (some .int) [.ref 0, .int (x), .int (y)] σ (py_vs (some (.int (an_restore H x y))) (fun s => py_IC s R q B N ft ((nz_restore (n, As, H) x y).2.2) ((nz_restore (n, As, H) x y).1) ((nz_restore (n, As, H) x y).2.1) I0 I1 t tr ∧ py_fr py_SC [] σ s)) := by
  obtain ⟨h1, h2, h3, h4, h5, h6, h7, h8, h9, h10⟩ := id hI
  obtain ⟨hw, hA, hJ0, hJ1, ht16⟩ := id hW
  obtain ⟨w0, w1, w2, w3, w12, w03, w00, wW, wP, wR⟩ := id hw
  have hc := h5.2
  refine py_ofI (own := RX7) YX7_restore.2.2.2.2 rfl rfl (Nat.le_of_ble_eq_true rfl)  ?_
  show py_Go X RX7 cX7_restore 4 2 0 [some (.ref 0), some (.int (x)), some (.int (y)), none] [] σ (py_vs (some (.int (an_restore H x y))) (fun s => py_IC s R q B N ft ((nz_restore (n, As, H) x y).2.2) ((nz_restore (n, As, H) x y).1) ((nz_restore (n, As, H) x y).2.1) I0 I1 t tr ∧ py_fr py_SC [] σ s))
  refine go_aload_n (pc := 0) dX7_restore_0 rfl ?_
  refine go_getR (pc := 1) dX7_restore_1 fX7_26 rfl rfl ?_
  refine go_iload_n (pc := 4) dX7_restore_4 rfl ?_
  refine go_cV (pc := 5) dX7_restore_5 (ev_hasPicture (Or.inl rfl) hc.2.2.2.2.1 w12) lX7_157 YX2_hasPicture VX2_hasPicture rfl rfl rfl (by decide) rfl (Nat.le_of_ble_eq_true rfl) ?_
  refine go_if_eqB (tgt := 21) (pc := 8) dX7_restore_8 (by decide) (fun c_8 => ?_) (fun c_8 => ?_)
  · refine go_ldc (pc := 21) dX7_restore_21 kX7_67 ?_
    have ez : nz_restore (n, As, H) ((x)) ((y)) = (n, As, H) := by unfold nz_restore; rw [if_neg (by dsimp only; omega)]
    exact go_retI (pc := 23) dX7_restore_23 (by unfold an_restore; (repeat' split) <;> first | rfl | omega) ⟨by rw [ez]; exact hI, py_fr.rf _ _ σ⟩
  · obtain ⟨p, rfl, hp, hpI, hpC⟩ := py_pi_of (x := x) c_8
    have hcl : H (15 + 4 * p) ≤ 60 := (wP p hp).2.2.2.2.1
    have hu : H (15 + 4 * (nI p).toNatClampNeg) = H (15 + 4 * p) := by rw [hpC]
    refine go_iload_n (pc := 11) dX7_restore_11 rfl ?_
    refine go_iconst (v := nI 1) (pc := 12) dX7_restore_12 (by decide) ?_
    refine go_bipush (v := nI 60) (pc := 13) dX7_restore_13 (by decide) ?_
    refine go_cS (pc := 15) dX7_restore_15 ev_isWithinN lX7_101 YX7_isWithin SX7_isWithin rfl (by decide) rfl (Nat.le_of_ble_eq_true rfl) ?_
    refine go_if_neB (tgt := 24) (pc := 18) dX7_restore_18 (by decide) (fun c_18 => ?_) (fun c_18 => ?_)
    · obtain ⟨v, rfl, hv0, hv, hvI, hvC⟩ := py_rg_of (x := y) (a := 1) (b := 60) c_18
      have hcm : py_cm H (nI p).toNatClampNeg (nI v).toNatClampNeg = py_cm H p v := by rw [hpC, hvC]
      have hcb : py_cm H p v ≤ 60 - H (15 + 4 * p) := by unfold py_cm; split <;> omega
      refine go_iload_n (pc := 24) dX7_restore_24 rfl ?_
      refine go_bipush (v := nI 60) (pc := 25) dX7_restore_25 (by decide) ?_
      refine go_aload_n (pc := 27) dX7_restore_27 rfl ?_
      refine go_getR (pc := 28) dX7_restore_28 fX7_26 rfl rfl ?_
      refine go_getR (pc := 31) dX7_restore_31 fX7_160 rfl rfl ?_
      refine go_iload_n (pc := 34) dX7_restore_34 rfl ?_
      refine go_aldN (x := (nI (H (15 + 4 * p)))) (pc := 35) dX7_restore_35 rfl (by show p < 5; omega) (hc.2.2.2.2.2.2 p hp).2.2.1 ?_
      refine go_isubN (pc := 36) dX7_restore_36 (by omega) ?_
      refine go_mmin (pc := 37) dX7_restore_37 lX7_170 Smin Imath Cmin (by decide) (Nat.le_of_ble_eq_true rfl) ?_
      refine go_top (y := (nI (py_cm H p v))) (py_min_n (by omega) (by omega)) ?_
      refine go_istore_n (pc := 40) dX7_restore_40 (by decide) rfl ?_
      refine go_aload_n (pc := 41) dX7_restore_41 rfl ?_
      refine go_getR (pc := 42) dX7_restore_42 fX7_26 rfl rfl ?_
      refine go_getR (pc := 45) dX7_restore_45 fX7_160 rfl rfl ?_
      refine go_iload_n (pc := 48) dX7_restore_48 rfl ?_
      refine go_aldN (x := (nI (H (15 + 4 * p)))) (pc := 49) dX7_restore_49 rfl (by show p < 5; omega) (hc.2.2.2.2.2.2 p hp).2.2.1 ?_
      refine go_if_eqN (tgt := 64) (pc := 50) dX7_restore_50 (by omega) (by decide) (fun c_50 => ?_) (fun c_50 => ?_)
      · refine go_ldc (pc := 64) dX7_restore_64 kX7_143 ?_
        have ez : nz_restore (n, As, H) ((nI p)) ((nI v)) = (n, As, H) := by unfold nz_restore; rw [if_neg (by dsimp only; omega)]
        exact go_retI (pc := 66) dX7_restore_66 (by unfold an_restore; (repeat' split) <;> first | rfl | omega) ⟨by rw [ez]; exact hI, py_fr.rf _ _ σ⟩
      · refine go_iload_n (pc := 53) dX7_restore_53 rfl ?_
        refine go_aload_n (pc := 54) dX7_restore_54 rfl ?_
        refine go_getR (pc := 55) dX7_restore_55 fX7_26 rfl rfl ?_
        refine go_getI (x := (nI (H 1))) (pc := 58) dX7_restore_58 fX7_173 rfl rfl hc.2.1 ?_
        refine go_icmp_leN (tgt := 67) (pc := 61) dX7_restore_61 (by omega) (by omega) (by decide) (fun c_61 => ?_) (fun c_61 => ?_)
        · refine go_aload_n (pc := 67) dX7_restore_67 rfl ?_
          refine go_getR (pc := 68) dX7_restore_68 fX7_42 rfl rfl ?_
          refine go_aload_n (pc := 71) dX7_restore_71 rfl ?_
          refine go_getR (pc := 72) dX7_restore_72 fX7_26 rfl rfl ?_
          obtain ⟨fr, ha⟩ := h6
          refine go_cVv (pc := 75) dX7_restore_75 (ev_keep hc w12 ha) lX7_147 YX0_keep VX0_keep rfl rfl rfl (by decide) rfl (Nat.le_of_ble_eq_true rfl) (fun s1 hs => ?_)
          obtain ⟨⟨n2, fr2, hn2, ha2⟩, hf1⟩ := hs
          subst hn2
          have hc1 := py_hd_fr hf1 (by decide) (by decide) hc
          refine go_aload_n (pc := 78) dX7_restore_78 rfl ?_
          refine go_getR (pc := 79) dX7_restore_79 fX7_26 rfl rfl ?_
          refine go_getR (pc := 82) dX7_restore_82 fX7_160 rfl rfl ?_
          refine go_iload_n (pc := 85) dX7_restore_85 rfl ?_
          refine go_dup2 (pc := 86) dX7_restore_86 rfl rfl ?_
          refine go_aldN (x := (nI (H (15 + 4 * p)))) (pc := 87) dX7_restore_87 rfl (by show p < 5; omega) (hc1.2.2.2.2.2.2 p hp).2.2.1 ?_
          refine go_iload_n (pc := 88) dX7_restore_88 rfl ?_
          refine go_iaddN (pc := 89) dX7_restore_89  ?_
          refine go_astN (pc := 90) dX7_restore_90 rfl (by show p < 5; omega) ?_
          refine go_aload_n (pc := 91) dX7_restore_91 rfl ?_
          refine go_getR (pc := 92) dX7_restore_92 fX7_26 rfl rfl ?_
          refine go_dup (pc := 95) dX7_restore_95 rfl ?_
          refine go_getI (x := (nI (H 1))) (pc := 96) dX7_restore_96 fX7_173 rfl rfl (by rw [py_up_k _ _ _ (by decide)]; exact hc1.2.1) ?_
          refine go_iload_n (pc := 99) dX7_restore_99 rfl ?_
          refine go_isubN (pc := 100) dX7_restore_100 (by omega) ?_
          refine go_putI (pc := 101) dX7_restore_101 fX7_173 rfl rfl ?_
          refine go_aload_n (pc := 104) dX7_restore_104 rfl ?_
          refine go_getR (pc := 105) dX7_restore_105 fX7_26 rfl rfl ?_
          refine go_getR (pc := 108) dX7_restore_108 fX7_160 rfl rfl ?_
          refine go_iload_n (pc := 111) dX7_restore_111 rfl ?_
          refine go_aldN (x := (nI (H (15 + 4 * p) + py_cm H p v))) (pc := 112) dX7_restore_112 rfl (by show p < 5; omega) (by rw [py_up_k _ _ _ (by decide)]; exact py_up_s _ _ _ _) ?_
          have ez : nz_restore (n, As, H) (nI p) (nI v) = py_act (n, As, H) (py_rs H p (py_cm H p v)) := by unfold nz_restore; rw [if_pos (by dsimp only; omega), hpC, hvC]
          have hf2 : py_fr [12] [(7, 2)] s1 (py_up (py_up s1 12 p (nI (H (15 + 4 * p) + py_cm H p v))) 7 2 (nI (H 1 - py_cm H p v))) := ((py_fr.rf [12] [(7, 2)] s1).up (by decide) _).ut (by decide) _
          have hf := (hf1.wd (S := [12, 35, 36]) (T := [(7, 2)]) (by decide) (by decide)).tr hf2 (by decide) (by decide)
          refine go_retI (pc := 113) dX7_restore_113 (by unfold an_restore; rw [if_pos (by omega), hpC, hvC, if_pos (by omega)]) ⟨?_, hf.wd (by decide) (by decide)⟩
          rw [ez]
          show py_IC (py_up (py_up s1 12 p (nI (H (15 + 4 * p) + py_cm H p v))) 7 2 (nI (H 1 - py_cm H p v))) R q B N ft (py_rs H p (py_cm H p v)) (if n + 1 < 24 then n + 1 else 24) (py_pa n As H) I0 I1 t tr
          have e12 : py_rs H p (py_cm H p v) 12 = H 12 := by unfold py_rs; rw [if_neg (by omega), if_neg (by omega)]
          have e0 : py_rs H p (py_cm H p v) 0 = H 0 := by unfold py_rs; rw [if_neg (by omega), if_neg (by omega)]
          exact ⟨py_rc_fr hf (by decide) h1, (by rw [hf 0 10 (by decide) (by decide)]; exact h2), py_tc_fr hf (by decide) (by decide) (by decide) (by decide) h3, (by rw [hf 0 9 (by decide) (by decide)]; exact h4), ⟨by rw [hf 7 0 (by decide) (by decide), e0]; exact h5.1, by rw [py_rs_pc2]; exact py_hd_pu (py_hd_pc2 w3 hc1)⟩, (by rw [e12]; exact py_ac_fr hf2 (by decide) ⟨fr2, ha2⟩), py_im_fr hf (by decide) (by decide) h7, py_im_fr hf (by decide) (by decide) h8, py_tr_fr hf (by decide) h9, py_cr_fr hf (by decide) h10⟩
        · refine go_ldc (pc := 64) dX7_restore_64 kX7_143 ?_
          have ez : nz_restore (n, As, H) ((nI p)) ((nI v)) = (n, As, H) := by unfold nz_restore; rw [if_neg (by dsimp only; omega)]
          exact go_retI (pc := 66) dX7_restore_66 (by unfold an_restore; (repeat' split) <;> first | rfl | omega) ⟨by rw [ez]; exact hI, py_fr.rf _ _ σ⟩
    · refine go_ldc (pc := 21) dX7_restore_21 kX7_67 ?_
      have ez : nz_restore (n, As, H) ((nI p)) ((y)) = (n, As, H) := by unfold nz_restore; rw [if_neg (by dsimp only; omega)]
      exact go_retI (pc := 23) dX7_restore_23 (by unfold an_restore; (repeat' split) <;> first | rfl | omega) ⟨by rw [ez]; exact hI, py_fr.rf _ _ σ⟩
set_option maxHeartbeats 4000000 in
set_option maxRecDepth 100000 in
theorem cl_hang {X : py_X} {σ : py_H} {R : py_Rt} {q : Int32} {B : Nat → Nat} {N : Nat} {ft : Int32} {H : Nat → Nat} {n : Nat} {As : Nat → Nat → Nat} {I0 I1 : Option (Nat → Nat)} {t : Nat} {tr : Nat → Int32} (hI : py_IC σ R q B N ft H n As I0 I1 t tr) (hW : py_IW H n As I0 I1 t) {x y : Int32} : py_Ev X 2 yX7_hang cX7_hang 4 (some .int) [.ref 0, .int (x), .int (y)] σ (py_vs (some (.int (an_hang H x y))) (fun s => py_IC s R q B N ft ((nz_hang (n, As, H) x y).2.2) ((nz_hang (n, As, H) x y).1) ((nz_hang (n, As, H) x y).2.1) I0 I1 t tr ∧ py_fr py_SC [] σ s)) := by
  obtain ⟨h1, h2, h3, h4, h5, h6, h7, h8, h9, h10⟩ := id hI
  obtain ⟨hw, hA, hJ0, hJ1, ht16⟩ := id hW
  obtain ⟨w0, w1, w2, w3, w12, w03, w00, wW, wP, wR⟩ := id hw
  have hc := h5.2
  refine py_ofI (own := RX7) YX7_hang.2.2.2.2 rfl rfl (Nat.le_of_ble_eq_true rfl)  ?_
  show py_Go X RX7 cX7_hang 4 2 0 [some (.ref 0), some (.int (x)), some (.int (y)), none] [] σ (py_vs (some (.int (an_hang H x y))) (fun s => py_IC s R q B N ft ((nz_hang (n, As, H) x y).2.2) ((nz_hang (n, As, H) x y).1) ((nz_hang (n, As, H) x y).2.1) I0 I1 t tr ∧ py_fr py_SC [] σ s))
  refine go_aload_n (pc := 0) dX7_hang_0 rfl ?_
  refine go_getR (pc := 1) dX7_hang_1 fX7_26 rfl rfl ?_
  refine go_iload_n (pc := 4) dX7_hang_4 rfl ?_
  refine go_cV (pc := 5) dX7_hang_5 (ev_hasPicture (Or.inl rfl) hc.2.2.2.2.1 w12) lX7_157 YX2_hasPicture VX2_hasPicture rfl rfl rfl (by decide) rfl (Nat.le_of_ble_eq_true rfl) ?_
  refine go_if_eqB (tgt := 22) (pc := 8) dX7_hang_8 (by decide) (fun c_8 => ?_) (fun c_8 => ?_)
  · refine go_ldc (pc := 22) dX7_hang_22 kX7_67 ?_
    have ez : nz_hang (n, As, H) ((x)) ((y)) = (n, As, H) := by unfold nz_hang; rw [if_neg (by dsimp only; omega)]
    exact go_retI (pc := 24) dX7_hang_24 (by unfold an_hang; (repeat' split) <;> first | rfl | omega) ⟨by rw [ez]; exact hI, py_fr.rf _ _ σ⟩
  · obtain ⟨p, rfl, hp, hpI, hpC⟩ := py_pi_of (x := x) c_8
    have hu : H (16 + 4 * (nI p).toNatClampNeg) = H (16 + 4 * p) := by rw [hpC]
    have hpw : H (16 + 4 * p) < H 3 := (wP p hp).2.2.2.2.2
    refine go_aload_n (pc := 11) dX7_hang_11 rfl ?_
    refine go_getR (pc := 12) dX7_hang_12 fX7_26 rfl rfl ?_
    refine go_iload_n (pc := 15) dX7_hang_15 rfl ?_
    refine go_cV (pc := 16) dX7_hang_16 (ev_hasWall (Or.inl rfl) hc.2.2.2.1 (by omega)) lX7_176 YX2_hasWall VX2_hasWall rfl rfl rfl (by decide) rfl (Nat.le_of_ble_eq_true rfl) ?_
    refine go_if_neB (tgt := 25) (pc := 19) dX7_hang_19 (by decide) (fun c_19 => ?_) (fun c_19 => ?_)
    · obtain ⟨v, rfl, hv, hvI, hvC⟩ := py_pi_of (x := y) c_19
      have hcu : py_ct H (nI v).toNatClampNeg = py_ct H v := by rw [hvC]
      refine go_aload_n (pc := 25) dX7_hang_25 rfl ?_
      refine go_getR (pc := 26) dX7_hang_26 fX7_26 rfl rfl ?_
      refine go_getR (pc := 29) dX7_hang_29 fX7_179 rfl rfl ?_
      refine go_iload_n (pc := 32) dX7_hang_32 rfl ?_
      refine go_aldN (x := (nI (H (16 + 4 * p)))) (pc := 33) dX7_hang_33 rfl (by show p < 5; omega) (hc.2.2.2.2.2.2 p hp).2.2.2 ?_
      refine go_istore_n (pc := 34) dX7_hang_34 (by decide) rfl ?_
      refine go_iload_n (pc := 35) dX7_hang_35 rfl ?_
      refine go_iload_n (pc := 36) dX7_hang_36 rfl ?_
      refine go_icmp_neN (tgt := 43) (pc := 37) dX7_hang_37 (by omega) (by omega) (by decide) (fun c_37 => ?_) (fun c_37 => ?_)
      · refine go_aload_n (pc := 43) dX7_hang_43 rfl ?_
        refine go_getR (pc := 44) dX7_hang_44 fX7_26 rfl rfl ?_
        refine go_iload_n (pc := 47) dX7_hang_47 rfl ?_
        refine go_cV (pc := 48) dX7_hang_48 (ev_hasRoomOn (Or.inl rfl) hc w12 w0 (fun p hp => Nat.lt_of_lt_of_le (wP p hp).2.2.2.2.2 w3) (by omega)) lX7_182 YX2_hasRoomOn VX2_hasRoomOn rfl rfl rfl (by decide) rfl (Nat.le_of_ble_eq_true rfl) ?_
        refine go_top (y := py_b (py_ct H v < H 0)) rfl ?_
        refine go_if_neB (tgt := 57) (pc := 51) dX7_hang_51 (by decide) (fun c_51 => ?_) (fun c_51 => ?_)
        · refine go_aload_n (pc := 57) dX7_hang_57 rfl ?_
          refine go_getR (pc := 58) dX7_hang_58 fX7_42 rfl rfl ?_
          refine go_aload_n (pc := 61) dX7_hang_61 rfl ?_
          refine go_getR (pc := 62) dX7_hang_62 fX7_26 rfl rfl ?_
          obtain ⟨fr, ha⟩ := h6
          refine go_cVv (pc := 65) dX7_hang_65 (ev_keep hc w12 ha) lX7_147 YX0_keep VX0_keep rfl rfl rfl (by decide) rfl (Nat.le_of_ble_eq_true rfl) (fun s1 hs => ?_)
          obtain ⟨⟨n2, fr2, hn2, ha2⟩, hf1⟩ := hs
          subst hn2
          have hc1 := py_hd_fr hf1 (by decide) (by decide) hc
          refine go_aload_n (pc := 68) dX7_hang_68 rfl ?_
          refine go_getR (pc := 69) dX7_hang_69 fX7_26 rfl rfl ?_
          refine go_getR (pc := 72) dX7_hang_72 fX7_179 rfl rfl ?_
          refine go_iload_n (pc := 75) dX7_hang_75 rfl ?_
          refine go_iload_n (pc := 76) dX7_hang_76 rfl ?_
          refine go_astN (pc := 77) dX7_hang_77 rfl (by show p < 5; omega) ?_
          refine go_iload_n (pc := 78) dX7_hang_78 rfl ?_
          have ez : nz_hang (n, As, H) (nI p) (nI v) = py_act (n, As, H) (py_hg H p v) := by unfold nz_hang; rw [if_pos (by dsimp only; omega), hpC, hvC]
          have hf2 : py_fr [13] [] s1 (py_up s1 13 p (nI v)) := (py_fr.rf [13] [] s1).up (by decide) _
          have hf := (hf1.wd (S := [13, 35, 36]) (T := []) (by decide) (by decide)).tr hf2 (by decide) (by decide)
          refine go_retI (pc := 79) dX7_hang_79 (by unfold an_hang; rw [if_pos (by omega), hpC, hvC, if_neg (by omega), if_pos (by omega)]) ⟨?_, hf.wd (by decide) (by decide)⟩
          rw [ez]
          show py_IC (py_up s1 13 p (nI v)) R q B N ft (py_hg H p v) (if n + 1 < 24 then n + 1 else 24) (py_pa n As H) I0 I1 t tr
          have e12 : py_hg H p v 12 = H 12 := by unfold py_hg; rw [if_neg (by omega)]
          have e0 : py_hg H p v 0 = H 0 := by unfold py_hg; rw [if_neg (by omega)]
          exact ⟨py_rc_fr hf (by decide) h1, (by rw [hf 0 10 (by decide) (by decide)]; exact h2), py_tc_fr hf (by decide) (by decide) (by decide) (by decide) h3, (by rw [hf 0 9 (by decide) (by decide)]; exact h4), ⟨by rw [hf 7 0 (by decide) (by decide), e0]; exact h5.1, py_hd_hg w3 hc1⟩, (by rw [e12]; exact py_ac_fr hf2 (by decide) ⟨fr2, ha2⟩), py_im_fr hf (by decide) (by decide) h7, py_im_fr hf (by decide) (by decide) h8, py_tr_fr hf (by decide) h9, py_cr_fr hf (by decide) h10⟩
        · refine go_ldc (pc := 54) dX7_hang_54 kX7_111 ?_
          have ez : nz_hang (n, As, H) ((nI p)) ((nI v)) = (n, As, H) := by unfold nz_hang; rw [if_neg (by dsimp only; omega)]
          exact go_retI (pc := 56) dX7_hang_56 (by unfold an_hang; (repeat' split) <;> first | rfl | omega) ⟨by rw [ez]; exact hI, py_fr.rf _ _ σ⟩
      · refine go_ldc (pc := 40) dX7_hang_40 kX7_143 ?_
        have ez : nz_hang (n, As, H) ((nI p)) ((nI v)) = (n, As, H) := by unfold nz_hang; rw [if_neg (by dsimp only; omega)]
        exact go_retI (pc := 42) dX7_hang_42 (by unfold an_hang; (repeat' split) <;> first | rfl | omega) ⟨by rw [ez]; exact hI, py_fr.rf _ _ σ⟩
    · refine go_ldc (pc := 22) dX7_hang_22 kX7_67 ?_
      have ez : nz_hang (n, As, H) ((nI p)) ((y)) = (n, As, H) := by unfold nz_hang; rw [if_neg (by dsimp only; omega)]
      exact go_retI (pc := 24) dX7_hang_24 (by unfold an_hang; (repeat' split) <;> first | rfl | omega) ⟨by rw [ez]; exact hI, py_fr.rf _ _ σ⟩
set_option maxHeartbeats 4000000 in
set_option maxRecDepth 100000 in
theorem cl_years {X : py_X} {σ : py_H} {R : py_Rt} {q : Int32} {B : Nat → Nat} {N : Nat} {ft : Int32} {H : Nat → Nat} {n : Nat} {As : Nat → Nat → Nat} {I0 I1 : Option (Nat → Nat)} {t : Nat} {tr : Nat → Int32} (hI : py_IC σ R q B N ft H n As I0 I1 t tr) (hW : py_IW H n As I0 I1 t) {x : Int32} : py_Ev X 6 yX7_years cX7_years 3 (some .int) [.ref 0, .int (x)] σ (py_vs (some (.int (an_years H x))) (fun s => py_IC s R q B N ft ((nz_years (n, As, H) x).2.2) ((nz_years (n, As, H) x).1) ((nz_years (n, As, H) x).2.1) I0 I1 t tr ∧ py_fr py_SC [] σ s)) := by
  obtain ⟨h1, h2, h3, h4, h5, h6, h7, h8, h9, h10⟩ := id hI
  obtain ⟨hw, hA, hJ0, hJ1, ht16⟩ := id hW
  obtain ⟨w0, w1, w2, w3, w12, w03, w00, wW, wP, wR⟩ := id hw
  have hc := h5.2
  refine py_ofI (own := RX7) YX7_years.2.2.2.2 rfl rfl (Nat.le_of_ble_eq_true rfl)  ?_
  show py_Go X RX7 cX7_years 3 6 0 [some (.ref 0), some (.int (x)), none] [] σ (py_vs (some (.int (an_years H x))) (fun s => py_IC s R q B N ft ((nz_years (n, As, H) x).2.2) ((nz_years (n, As, H) x).1) ((nz_years (n, As, H) x).2.1) I0 I1 t tr ∧ py_fr py_SC [] σ s))
  have loop : ∀ k, (1 ≤ k ∧ k ≤ 24 ∧ H 2 + k ≤ 999 ∧ 0 < H 0 ∧ x = nI k ∧ (nI k).toInt = (k : Int) ∧ (nI k).toNatClampNeg = k) → ∀ i, i ≤ k → ∀ s, py_fr [12, 35, 36, 38] [(7, 3)] σ s → py_hd s 7 (py_yz i (n, As, H)).2.2 → (∃ fr, py_ac s (py_yz i (n, As, H)).1 fr (py_yz i (n, As, H)).2.1 ((py_yz i (n, As, H)).2.2 12)) → py_Go X RX7 cX7_years 3 6 46 [some (.ref 0), some (.int (nI k)), some (.int (nI i))] [] s (py_vs (some (.int (an_years H x))) (fun s => py_IC s R q B N ft ((nz_years (n, As, H) x).2.2) ((nz_years (n, As, H) x).1) ((nz_years (n, As, H) x).2.1) I0 I1 t tr ∧ py_fr py_SC [] σ s)) := by
    intro k hk7
    obtain ⟨hk0, hk, hk9, h00, hx, hkI, hkC⟩ := hk7
    subst hx
    refine py_loop _ k (fun i hi ih s hs hd hac => ?_)
    have hyh := py_yz_h (z := (n, As, H)) hw i
    change (py_yz i (n, As, H)).2.2 = py_age H i at hyh
    have hyw : py_wf (py_yz i (n, As, H)).2.2 := by rw [hyh]; exact py_age_wf hw (by omega)
    have hy12 : (py_yz i (n, As, H)).2.2 12 = H 12 := by rw [hyh]; exact py_age_12 H i
    refine go_iload_n (pc := 46) dX7_years_46 rfl ?_
    refine go_iload_n (pc := 47) dX7_years_47 rfl ?_
    refine go_icmp_geN (tgt := 79) (pc := 48) dX7_years_48 (by omega) (by omega) (by decide) (fun c_48 => ?_) (fun c_48 => ?_)
    · refine go_aload_n (pc := 79) dX7_years_79 rfl ?_
      refine go_getR (pc := 80) dX7_years_80 fX7_26 rfl rfl ?_
      refine go_cV (pc := 83) dX7_years_83 (ev_living (Or.inl rfl) hd.2.2.2.2.1 (by rw [hy12]; exact w12) (fun p hp => ⟨(hd.2.2.2.2.2.2 p hp).2.2.1, (hyw.2.2.2.2.2.2.2.2.1 p hp).2.2.2.2.1⟩)) lX7_153 YX2_living VX2_living rfl rfl rfl (by decide) rfl (Nat.le_of_ble_eq_true rfl) ?_
      refine go_top (y := (nI (py_lvH (py_yz i (n, As, H)).2.2))) rfl ?_
      have hik : i = k := by omega
      subst hik
      have ez : nz_years (n, As, H) (nI i) = py_yz i (n, As, H) := by unfold nz_years; rw [if_pos (by dsimp only; omega), hkC]
      have e0 : (py_yz i (n, As, H)).2.2 0 = H 0 := by rw [hyh]; exact py_age_n H i (by decide) (fun p => by omega)
      refine go_retI (pc := 86) dX7_years_86 (by unfold an_years; rw [if_pos (by omega), if_pos (by omega), if_pos (by omega), hkC, hyh]) ⟨?_, hs.wd (by decide) (by decide)⟩
      rw [ez]
      exact ⟨py_rc_fr hs (by decide) h1, (by rw [hs 0 10 (by decide) (by decide)]; exact h2), py_tc_fr hs (by decide) (by decide) (by decide) (by decide) h3, (by rw [hs 0 9 (by decide) (by decide)]; exact h4), ⟨by rw [hs 7 0 (by decide) (by decide), e0]; exact h5.1, hd⟩, hac, py_im_fr hs (by decide) (by decide) h7, py_im_fr hs (by decide) (by decide) h8, py_tr_fr hs (by decide) h9, py_cr_fr hs (by decide) h10⟩
    · refine go_aload_n (pc := 51) dX7_years_51 rfl ?_
      refine go_getR (pc := 52) dX7_years_52 fX7_42 rfl rfl ?_
      refine go_aload_n (pc := 55) dX7_years_55 rfl ?_
      refine go_getR (pc := 56) dX7_years_56 fX7_26 rfl rfl ?_
      obtain ⟨fr, ha⟩ := hac
      refine go_cVv (pc := 59) dX7_years_59 (ev_keep hd (by rw [hy12]; exact w12) ha) lX7_147 YX0_keep VX0_keep rfl rfl rfl (by decide) rfl (Nat.le_of_ble_eq_true rfl) (fun s1 hs1 => ?_)
      obtain ⟨⟨n2, fr2, hn2, ha2⟩, hf1⟩ := hs1
      subst hn2
      have hd1 := py_hd_fr hf1 (by decide) (by decide) hd
      refine go_aload_n (pc := 62) dX7_years_62 rfl ?_
      refine go_getR (pc := 63) dX7_years_63 fX7_49 rfl rfl ?_
      refine go_aload_n (pc := 66) dX7_years_66 rfl ?_
      refine go_getR (pc := 67) dX7_years_67 fX7_26 rfl rfl ?_
      refine go_cVv (pc := 70) dX7_years_70 (ev_pass hd1 hyw) lX7_150 YX5_pass VX5_pass rfl rfl rfl (by decide) rfl (Nat.le_of_ble_eq_true rfl) (fun s2 hs2 => ?_)
      obtain ⟨hd2, hf2⟩ := hs2
      refine go_iincN (c := 1) (pc := 73) dX7_years_73 rfl (by decide) (by decide) rfl ?_
      refine go_goto (tgt := 46) (pc := 76) dX7_years_76 (by decide) ?_
      have hstep : py_yz (i + 1) (n, As, H) = py_act (py_yz i (n, As, H)) (py_age (py_yz i (n, As, H)).2.2 1) := rfl
      refine ih (by omega) s2 ((hs.tr hf1 (by decide) (by decide)).tr hf2 (by decide) (by decide)) hd2 ?_
      rw [hstep]
      show ∃ fr, py_ac s2 _ fr (py_pa (py_yz i (n, As, H)).1 (py_yz i (n, As, H)).2.1 (py_yz i (n, As, H)).2.2) (py_age (py_yz i (n, As, H)).2.2 1 12)
      rw [py_age_12]
      exact py_ac_fr hf2 (by decide) ⟨fr2, ha2⟩
  refine go_aload_n (pc := 0) dX7_years_0 rfl ?_
  refine go_getR (pc := 1) dX7_years_1 fX7_26 rfl rfl ?_
  refine go_getI (x := (py_b (0 < H 0))) (pc := 4) dX7_years_4 fX7_139 rfl rfl h5.1 ?_
  refine go_if_neB (tgt := 13) (pc := 7) dX7_years_7 (by decide) (fun c_7 => ?_) (fun c_7 => ?_)
  · refine go_iload_n (pc := 13) dX7_years_13 rfl ?_
    refine go_iconst (v := nI 1) (pc := 14) dX7_years_14 (by decide) ?_
    refine go_bipush (v := nI 24) (pc := 15) dX7_years_15 (by decide) ?_
    refine go_cS (pc := 17) dX7_years_17 ev_isWithinN lX7_101 YX7_isWithin SX7_isWithin rfl (by decide) rfl (Nat.le_of_ble_eq_true rfl) ?_
    refine go_if_neB (tgt := 26) (pc := 20) dX7_years_20 (by decide) (fun c_20 => ?_) (fun c_20 => ?_)
    · obtain ⟨k, rfl, hk0, hk, hkI, hkC⟩ := py_rg_of (x := x) (a := 1) (b := 24) c_20
      refine go_aload_n (pc := 26) dX7_years_26 rfl ?_
      refine go_getR (pc := 27) dX7_years_27 fX7_26 rfl rfl ?_
      refine go_getI (x := (nI (H 2))) (pc := 30) dX7_years_30 fX7_144 rfl rfl hc.2.2.1 ?_
      refine go_iload_n (pc := 33) dX7_years_33 rfl ?_
      refine go_iaddN (pc := 34) dX7_years_34  ?_
      refine go_sipush (v := nI 999) (pc := 35) dX7_years_35 (by decide) ?_
      refine go_icmp_leN (tgt := 44) (pc := 38) dX7_years_38 (by omega) (by omega) (by decide) (fun c_38 => ?_) (fun c_38 => ?_)
      · refine go_iconst (v := nI 0) (pc := 44) dX7_years_44 (by decide) ?_
        refine go_istore_n (pc := 45) dX7_years_45 (by decide) rfl ?_
        exact loop k ⟨hk0, hk, c_38, by omega, rfl, hkI, hkC⟩ 0 (by omega) σ (py_fr.rf _ _ σ) hc h6
      · refine go_ldc (pc := 41) dX7_years_41 kX7_111 ?_
        have ez : nz_years (n, As, H) ((nI k)) = (n, As, H) := by unfold nz_years; rw [if_neg (by dsimp only; omega)]
        exact go_retI (pc := 43) dX7_years_43 (by unfold an_years; (repeat' split) <;> first | rfl | omega) ⟨by rw [ez]; exact hI, py_fr.rf _ _ σ⟩
    · refine go_ldc (pc := 23) dX7_years_23 kX7_67 ?_
      have ez : nz_years (n, As, H) ((x)) = (n, As, H) := by unfold nz_years; rw [if_neg (by dsimp only; omega)]
      exact go_retI (pc := 25) dX7_years_25 (by unfold an_years; (repeat' split) <;> first | rfl | omega) ⟨by rw [ez]; exact hI, py_fr.rf _ _ σ⟩
  · refine go_ldc (pc := 10) dX7_years_10 kX7_143 ?_
    have ez : nz_years (n, As, H) ((x)) = (n, As, H) := by unfold nz_years; rw [if_neg (by dsimp only; omega)]
    exact go_retI (pc := 12) dX7_years_12 (by unfold an_years; (repeat' split) <;> first | rfl | omega) ⟨by rw [ez]; exact hI, py_fr.rf _ _ σ⟩
set_option maxHeartbeats 4000000 in
set_option maxRecDepth 100000 in
theorem cl_fits {X : py_X} {σ : py_H} {R : py_Rt} {q : Int32} {B : Nat → Nat} {N : Nat} {ft : Int32} {H : Nat → Nat} {n : Nat} {As : Nat → Nat → Nat} {I0 I1 : Option (Nat → Nat)} {t : Nat} {tr : Nat → Int32} (hI : py_IC σ R q B N ft H n As I0 I1 t tr) (hW : py_IW H n As I0 I1 t) {x xr xi xn y : Int32} : py_Ev X 5 yX7_fits cX7_fits 6 (some .int) [.ref 0, .int (x), .int (xr), .int (xi), .int (xn), .int (y)] σ (py_vs (some (.int (an_fits R H x xr xi xn y))) (fun s => py_IC s R (nq_fits R q H x xr xi xn y) B N ft H n As I0 I1 t tr ∧ py_fr py_SC [] σ s)) := by
  obtain ⟨h1, h2, h3, h4, h5, h6, h7, h8, h9, h10⟩ := id hI
  obtain ⟨hw, hA, hJ0, hJ1, ht16⟩ := id hW
  obtain ⟨w0, w1, w2, w3, w12, w03, w00, wW, wP, wR⟩ := id hw
  have hc := h5.2
  refine py_ofI (own := RX7) YX7_fits.2.2.2.2 rfl rfl (Nat.le_of_ble_eq_true rfl)  ?_
  show py_Go X RX7 cX7_fits 6 5 0 [some (.ref 0), some (.int (x)), some (.int (xr)), some (.int (xi)), some (.int (xn)), some (.int (y))] [] σ (py_vs (some (.int (an_fits R H x xr xi xn y))) (fun s => py_IC s R (nq_fits R q H x xr xi xn y) B N ft H n As I0 I1 t tr ∧ py_fr py_SC [] σ s))
  refine go_aload_n (pc := 0) dX7_fits_0 rfl ?_
  refine go_getR (pc := 1) dX7_fits_1 fX7_26 rfl rfl ?_
  refine go_iload_n (pc := 4) dX7_fits_4 rfl ?_
  refine go_cV (pc := 5) dX7_fits_5 (ev_hasPicture (Or.inl rfl) hc.2.2.2.2.1 w12) lX7_157 YX2_hasPicture VX2_hasPicture rfl rfl rfl (by decide) rfl (Nat.le_of_ble_eq_true rfl) ?_
  refine go_if_eqB (tgt := 22) (pc := 8) dX7_fits_8 (by decide) (fun c_8 => ?_) (fun c_8 => ?_)
  · refine go_ldc (pc := 22) dX7_fits_22 kX7_67 ?_
    have e2 : nq_fits R q H ((x)) ((xr)) ((xi)) ((xn)) ((y)) = q := by unfold nq_fits; (repeat' split) <;> first | rfl | omega
    exact go_retI (pc := 24) dX7_fits_24 (by unfold an_fits; (repeat' split) <;> first | rfl | omega) ⟨by rw [e2]; exact hI, py_fr.rf _ _ σ⟩
  · obtain ⟨p, rfl, hp, hpI, hpC⟩ := py_pi_of (x := x) c_8
    refine go_aload_n (pc := 11) dX7_fits_11 rfl ?_
    refine go_getR (pc := 12) dX7_fits_12 fX7_10 rfl rfl ?_
    refine go_iload_n (pc := 15) dX7_fits_15 rfl ?_
    refine go_cV (pc := 16) dX7_fits_16 ev_isRow lX7_60 YX4_isRow VX4_isRow rfl rfl rfl (by decide) rfl (Nat.le_of_ble_eq_true rfl) ?_
    refine go_if_neB (tgt := 25) (pc := 19) dX7_fits_19 (by decide) (fun c_19 => ?_) (fun c_19 => ?_)
    · obtain ⟨a, rfl, ha, haI, haC⟩ := py_pi_of (x := xr) c_19
      have hRa := h1 a ha
      have hua1 : R.1 (nI a).toNatClampNeg = R.1 a := by rw [haC]
      have hua2 : R.2.1 (nI a).toNatClampNeg = R.2.1 a := by rw [haC]
      refine go_iload (pc := 25) dX7_fits_25 rfl ?_
      refine go_iconst (v := nI 1) (pc := 27) dX7_fits_27 (by decide) ?_
      refine go_bipush (v := nI 16) (pc := 28) dX7_fits_28 (by decide) ?_
      refine go_cS (pc := 30) dX7_fits_30 ev_isWithinN lX7_101 YX7_isWithin SX7_isWithin rfl (by decide) rfl (Nat.le_of_ble_eq_true rfl) ?_
      refine go_if_eqB (tgt := 46) (pc := 33) dX7_fits_33 (by decide) (fun c_33 => ?_) (fun c_33 => ?_)
      · refine go_ldc (pc := 46) dX7_fits_46 kX7_67 ?_
        have e2 : nq_fits R q H ((nI p)) ((nI a)) ((xi)) ((xn)) ((y)) = q := by unfold nq_fits; (repeat' split) <;> first | rfl | omega
        exact go_retI (pc := 48) dX7_fits_48 (by unfold an_fits; (repeat' split) <;> first | rfl | omega) ⟨by rw [e2]; exact hI, py_fr.rf _ _ σ⟩
      · obtain ⟨m, rfl, hm0, hm, hmI, hmC⟩ := py_rg_of (x := xn) (a := 1) (b := 16) c_33
        refine go_iload (pc := 36) dX7_fits_36 rfl ?_
        refine go_iconst (v := nI 0) (pc := 38) dX7_fits_38 (by decide) ?_
        refine go_iconst (v := nI 3) (pc := 39) dX7_fits_39 (by decide) ?_
        refine go_cS (pc := 40) dX7_fits_40 ev_isWithinN lX7_101 YX7_isWithin SX7_isWithin rfl (by decide) rfl (Nat.le_of_ble_eq_true rfl) ?_
        refine go_if_neB (tgt := 49) (pc := 43) dX7_fits_43 (by decide) (fun c_43 => ?_) (fun c_43 => ?_)
        · obtain ⟨k, rfl, hk0, hk, hkI, hkC⟩ := py_rg_of (x := y) (a := 0) (b := 3) c_43
          refine go_aload_n (pc := 49) dX7_fits_49 rfl ?_
          refine go_getR (pc := 50) dX7_fits_50 fX7_10 rfl rfl ?_
          refine go_iload_n (pc := 53) dX7_fits_53 rfl ?_
          refine go_cV (pc := 54) dX7_fits_54 (ev_isMissing ha hRa.2.1 hRa.1) lX7_79 YX4_isMissing VX4_isMissing rfl rfl rfl (by decide) rfl (Nat.le_of_ble_eq_true rfl) ?_
          refine go_if_eqB (tgt := 66) (pc := 57) dX7_fits_57 (by decide) (fun c_57 => ?_) (fun c_57 => ?_)
          · have hMa := hRa.2.2 (by omega)
            refine go_aload_n (pc := 66) dX7_fits_66 rfl ?_
            refine go_getR (pc := 67) dX7_fits_67 fX7_10 rfl rfl ?_
            refine go_iload_n (pc := 70) dX7_fits_70 rfl ?_
            refine go_iload_n (pc := 71) dX7_fits_71 rfl ?_
            refine go_iload (pc := 72) dX7_fits_72 rfl ?_
            refine go_cV (pc := 74) dX7_fits_74 (ev_hasPlaces ha hMa.2.1 hMa.1) lX7_82 YX4_hasPlaces VX4_hasPlaces rfl rfl rfl (by decide) rfl (Nat.le_of_ble_eq_true rfl) ?_
            refine go_if_neB (tgt := 86) (pc := 77) dX7_fits_77 (by decide) (fun c_77 => ?_) (fun c_77 => ?_)
            · obtain ⟨i, rfl, hi0, hi, hiI, hiC⟩ := py_rg_of (x := xi) (a := 0) (b := 40) ⟨by omega, by omega⟩
              refine go_aload_n (pc := 86) dX7_fits_86 rfl ?_
              refine go_getR (pc := 87) dX7_fits_87 fX7_10 rfl rfl ?_
              refine go_iload_n (pc := 90) dX7_fits_90 rfl ?_
              refine go_iload_n (pc := 91) dX7_fits_91 rfl ?_
              refine go_iload (pc := 92) dX7_fits_92 rfl ?_
              refine go_aload_n (pc := 94) dX7_fits_94 rfl ?_
              refine go_getR (pc := 95) dX7_fits_95 fX7_49 rfl rfl ?_
              refine go_getR (pc := 98) dX7_fits_98 fX7_247 rfl rfl ?_
              refine go_cVv (pc := 101) dX7_fits_101 (ev_tell ha (by omega) hm) lX7_250 YX4_tell VX4_tell rfl rfl rfl (by decide) rfl (Nat.le_of_ble_eq_true rfl) (fun s1 e1 => ?_)
              have hf1 : py_fr [39] [] σ s1 := by rw [e1]; exact (py_fr.rf [39] [] σ).row (by decide) _
              have hc1 := py_hd_fr hf1 (by decide) (by decide) hc
              have htau : ∀ j, j < m → s1 39 j = R.2.2 (40 * a + i + j) := fun j hj => by rw [e1, py_row_self, pk_cpy_in (by omega) (by omega), show a * 40 + i + (j - 0) = 40 * a + (i + j) by omega, show 40 * a + i + j = 40 * a + (i + j) by omega]; exact hMa.2.2 (i + j) (by omega)
              refine go_iload (pc := 104) dX7_fits_104 rfl ?_
              rcases (show (nI k).toInt = 0 ∨ (nI k).toInt = 1 ∨ (nI k).toInt = 2 ∨ (nI k).toInt < 0 ∨ 2 < (nI k).toInt by omega) with hk | hk | hk | hk
              · refine go_swIn (off := 26) (pc := 106) (tgt := 132) dX7_fits_106 (by omega) (by omega) (by rw [hk]; rfl) (by decide) ?_
                refine go_aload_n (pc := 132) dX7_fits_132 rfl ?_
                refine go_aload_n (pc := 133) dX7_fits_133 rfl ?_
                refine go_getR (pc := 134) dX7_fits_134 fX7_49 rfl rfl ?_
                refine go_aload_n (pc := 137) dX7_fits_137 rfl ?_
                refine go_getR (pc := 138) dX7_fits_138 fX7_26 rfl rfl ?_
                refine go_iload_n (pc := 141) dX7_fits_141 rfl ?_
                refine go_iload (pc := 142) dX7_fits_142 rfl ?_
                refine go_cVi (pc := 144) dX7_fits_144 (ev_kindsFit hc1 hw hp hm) lX7_254 YX5_kindsThatFit VX5_kindsThatFit rfl rfl rfl (by decide) rfl (Nat.le_of_ble_eq_true rfl) (fun s2 hf2 => ?_)
                refine go_cVi (pc := 147) dX7_fits_147 ev_foundNothing lX7_76 YX7_foundNothing VX7_foundNothing rfl rfl rfl (by decide) rfl (Nat.le_of_ble_eq_true rfl) (fun sf ef => ?_)
                subst ef
                have hf : py_fr [38, 39] [(0, 10)] σ (py_up s2 0 10 (nI 0)) := (((hf1.wd (S := [38, 39]) (T := [(0, 10)]) (by decide) (by decide)).tr hf2 (by decide) (by decide)).ut (by decide) _)
                refine go_retI (pc := 150) dX7_fits_150 ?_ ⟨?_, hf.wd (by decide) (by decide)⟩
                · unfold an_fits
                  rw [if_pos (by omega), haC, if_neg (by omega), if_pos (by omega), hpC, hiC, hmC]
                  unfold py_ft4
                  (repeat' split) <;> first | omega | skip
                  exact congrArg nI (py_bs_cong (fun v _ => by rw [py_fit_cong htau]))
                · refine ⟨py_rc_fr hf (by decide) h1, ?_, py_tc_fr hf (by decide) (by decide) (by decide) (by decide) h3, (by rw [hf 0 9 (by decide) (by decide)]; exact h4), py_hc_fr hf (by decide) (by decide) h5, py_ac_fr hf (by decide) h6, py_im_fr hf (by decide) (by decide) h7, py_im_fr hf (by decide) (by decide) h8, py_tr_fr hf (by decide) h9, py_cr_fr hf (by decide) h10⟩
                  rw [py_up_s]
                  unfold nq_fits
                  (repeat' split) <;> first | rfl | omega
              · refine go_swIn (off := 45) (pc := 106) (tgt := 151) dX7_fits_106 (by omega) (by omega) (by rw [hk]; rfl) (by decide) ?_
                refine go_aload_n (pc := 151) dX7_fits_151 rfl ?_
                refine go_aload_n (pc := 152) dX7_fits_152 rfl ?_
                refine go_getR (pc := 153) dX7_fits_153 fX7_49 rfl rfl ?_
                refine go_aload_n (pc := 156) dX7_fits_156 rfl ?_
                refine go_getR (pc := 157) dX7_fits_157 fX7_26 rfl rfl ?_
                refine go_iload_n (pc := 160) dX7_fits_160 rfl ?_
                refine go_iload (pc := 161) dX7_fits_161 rfl ?_
                refine go_cVi (pc := 163) dX7_fits_163 (ev_skillsFit hc1 hw hp hm) lX7_257 YX5_skillsThatFit VX5_skillsThatFit rfl rfl rfl (by decide) rfl (Nat.le_of_ble_eq_true rfl) (fun s2 hf2 => ?_)
                refine go_cVi (pc := 166) dX7_fits_166 ev_foundNothing lX7_76 YX7_foundNothing VX7_foundNothing rfl rfl rfl (by decide) rfl (Nat.le_of_ble_eq_true rfl) (fun sf ef => ?_)
                subst ef
                have hf : py_fr [38, 39] [(0, 10)] σ (py_up s2 0 10 (nI 0)) := (((hf1.wd (S := [38, 39]) (T := [(0, 10)]) (by decide) (by decide)).tr hf2 (by decide) (by decide)).ut (by decide) _)
                refine go_retI (pc := 169) dX7_fits_169 ?_ ⟨?_, hf.wd (by decide) (by decide)⟩
                · unfold an_fits
                  rw [if_pos (by omega), haC, if_neg (by omega), if_pos (by omega), hpC, hiC, hmC]
                  unfold py_ft4
                  (repeat' split) <;> first | omega | skip
                  exact congrArg nI (py_bs_cong (fun v _ => by rw [py_fit_cong htau]))
                · refine ⟨py_rc_fr hf (by decide) h1, ?_, py_tc_fr hf (by decide) (by decide) (by decide) (by decide) h3, (by rw [hf 0 9 (by decide) (by decide)]; exact h4), py_hc_fr hf (by decide) (by decide) h5, py_ac_fr hf (by decide) h6, py_im_fr hf (by decide) (by decide) h7, py_im_fr hf (by decide) (by decide) h8, py_tr_fr hf (by decide) h9, py_cr_fr hf (by decide) h10⟩
                  rw [py_up_s]
                  unfold nq_fits
                  (repeat' split) <;> first | rfl | omega
              · refine go_swIn (off := 64) (pc := 106) (tgt := 170) dX7_fits_106 (by omega) (by omega) (by rw [hk]; rfl) (by decide) ?_
                refine go_aload_n (pc := 170) dX7_fits_170 rfl ?_
                refine go_aload_n (pc := 171) dX7_fits_171 rfl ?_
                refine go_getR (pc := 172) dX7_fits_172 fX7_49 rfl rfl ?_
                refine go_aload_n (pc := 175) dX7_fits_175 rfl ?_
                refine go_getR (pc := 176) dX7_fits_176 fX7_26 rfl rfl ?_
                refine go_iload_n (pc := 179) dX7_fits_179 rfl ?_
                refine go_iload (pc := 180) dX7_fits_180 rfl ?_
                refine go_cVi (pc := 182) dX7_fits_182 (ev_wallsFit hc1 hw hp hm) lX7_260 YX5_wallsThatFit VX5_wallsThatFit rfl rfl rfl (by decide) rfl (Nat.le_of_ble_eq_true rfl) (fun s2 hf2 => ?_)
                refine go_cVi (pc := 185) dX7_fits_185 ev_foundNothing lX7_76 YX7_foundNothing VX7_foundNothing rfl rfl rfl (by decide) rfl (Nat.le_of_ble_eq_true rfl) (fun sf ef => ?_)
                subst ef
                have hf : py_fr [38, 39] [(0, 10)] σ (py_up s2 0 10 (nI 0)) := (((hf1.wd (S := [38, 39]) (T := [(0, 10)]) (by decide) (by decide)).tr hf2 (by decide) (by decide)).ut (by decide) _)
                refine go_retI (pc := 188) dX7_fits_188 ?_ ⟨?_, hf.wd (by decide) (by decide)⟩
                · unfold an_fits
                  rw [if_pos (by omega), haC, if_neg (by omega), if_pos (by omega), hpC, hiC, hmC]
                  unfold py_ft4
                  (repeat' split) <;> first | omega | skip
                  exact congrArg nI (py_bs_cong (fun v _ => by rw [py_fit_cong htau]))
                · refine ⟨py_rc_fr hf (by decide) h1, ?_, py_tc_fr hf (by decide) (by decide) (by decide) (by decide) h3, (by rw [hf 0 9 (by decide) (by decide)]; exact h4), py_hc_fr hf (by decide) (by decide) h5, py_ac_fr hf (by decide) h6, py_im_fr hf (by decide) (by decide) h7, py_im_fr hf (by decide) (by decide) h8, py_tr_fr hf (by decide) h9, py_cr_fr hf (by decide) h10⟩
                  rw [py_up_s]
                  unfold nq_fits
                  (repeat' split) <;> first | rfl | omega
              · refine go_swOut (pc := 106) (tgt := 189) dX7_fits_106 hk (by decide) ?_
                refine go_aload_n (pc := 189) dX7_fits_189 rfl ?_
                refine go_aload_n (pc := 190) dX7_fits_190 rfl ?_
                refine go_getR (pc := 191) dX7_fits_191 fX7_49 rfl rfl ?_
                refine go_aload_n (pc := 194) dX7_fits_194 rfl ?_
                refine go_getR (pc := 195) dX7_fits_195 fX7_26 rfl rfl ?_
                refine go_iload_n (pc := 198) dX7_fits_198 rfl ?_
                refine go_iload (pc := 199) dX7_fits_199 rfl ?_
                refine go_cVi (pc := 201) dX7_fits_201 (ev_deedsFit hc1 hw hp hm) lX7_263 YX5_deedsThatFit VX5_deedsThatFit rfl rfl rfl (by decide) rfl (Nat.le_of_ble_eq_true rfl) (fun s2 hf2 => ?_)
                refine go_cVi (pc := 204) dX7_fits_204 ev_foundNothing lX7_76 YX7_foundNothing VX7_foundNothing rfl rfl rfl (by decide) rfl (Nat.le_of_ble_eq_true rfl) (fun sf ef => ?_)
                subst ef
                have hf : py_fr [38, 39] [(0, 10)] σ (py_up s2 0 10 (nI 0)) := (((hf1.wd (S := [38, 39]) (T := [(0, 10)]) (by decide) (by decide)).tr hf2 (by decide) (by decide)).ut (by decide) _)
                refine go_retI (pc := 207) dX7_fits_207 ?_ ⟨?_, hf.wd (by decide) (by decide)⟩
                · unfold an_fits
                  rw [if_pos (by omega), haC, if_neg (by omega), if_pos (by omega), hpC, hiC, hmC]
                  unfold py_ft4
                  (repeat' split) <;> first | omega | skip
                  exact congrArg nI (py_bs_cong (fun v _ => by rw [py_fit_cong htau]))
                · refine ⟨py_rc_fr hf (by decide) h1, ?_, py_tc_fr hf (by decide) (by decide) (by decide) (by decide) h3, (by rw [hf 0 9 (by decide) (by decide)]; exact h4), py_hc_fr hf (by decide) (by decide) h5, py_ac_fr hf (by decide) h6, py_im_fr hf (by decide) (by decide) h7, py_im_fr hf (by decide) (by decide) h8, py_tr_fr hf (by decide) h9, py_cr_fr hf (by decide) h10⟩
                  rw [py_up_s]
                  unfold nq_fits
                  (repeat' split) <;> first | rfl | omega
            · refine go_aload_n (pc := 80) dX7_fits_80 rfl ?_
              refine go_iconst (v := nI 2) (pc := 81) dX7_fits_81 (by decide) ?_
              refine go_cVi (pc := 82) dX7_fits_82 ev_found lX7_68 YX7_found VX7_found rfl rfl rfl (by decide) rfl (Nat.le_of_ble_eq_true rfl) (fun sf ef => ?_)
              subst ef
              refine go_retI (pc := 85) dX7_fits_85 (by unfold an_fits; (repeat' split) <;> first | rfl | omega) ⟨?_, ((py_fr.rf [] [(0, 10)] σ).ut (by decide) _).wd (by decide) (by decide)⟩
              refine ⟨py_rc_fr ((py_fr.rf [] [(0, 10)] σ).ut (by decide) _) (by decide) h1, ?_, py_tc_fr ((py_fr.rf [] [(0, 10)] σ).ut (by decide) _) (by decide) (by decide) (by decide) (by decide) h3, (by rw [((py_fr.rf [] [(0, 10)] σ).ut (by decide) _) 0 9 (by decide) (by decide)]; exact h4), py_hc_fr ((py_fr.rf [] [(0, 10)] σ).ut (by decide) _) (by decide) (by decide) h5, py_ac_fr ((py_fr.rf [] [(0, 10)] σ).ut (by decide) _) (by decide) h6, py_im_fr ((py_fr.rf [] [(0, 10)] σ).ut (by decide) _) (by decide) (by decide) h7, py_im_fr ((py_fr.rf [] [(0, 10)] σ).ut (by decide) _) (by decide) (by decide) h8, py_tr_fr ((py_fr.rf [] [(0, 10)] σ).ut (by decide) _) (by decide) h9, py_cr_fr ((py_fr.rf [] [(0, 10)] σ).ut (by decide) _) (by decide) h10⟩
              rw [py_up_s]
              unfold nq_fits; (repeat' split) <;> first | rfl | omega
          · refine go_aload_n (pc := 60) dX7_fits_60 rfl ?_
            refine go_iconst (v := nI 1) (pc := 61) dX7_fits_61 (by decide) ?_
            refine go_cVi (pc := 62) dX7_fits_62 ev_found lX7_68 YX7_found VX7_found rfl rfl rfl (by decide) rfl (Nat.le_of_ble_eq_true rfl) (fun sf ef => ?_)
            subst ef
            refine go_retI (pc := 65) dX7_fits_65 (by unfold an_fits; (repeat' split) <;> first | rfl | omega) ⟨?_, ((py_fr.rf [] [(0, 10)] σ).ut (by decide) _).wd (by decide) (by decide)⟩
            refine ⟨py_rc_fr ((py_fr.rf [] [(0, 10)] σ).ut (by decide) _) (by decide) h1, ?_, py_tc_fr ((py_fr.rf [] [(0, 10)] σ).ut (by decide) _) (by decide) (by decide) (by decide) (by decide) h3, (by rw [((py_fr.rf [] [(0, 10)] σ).ut (by decide) _) 0 9 (by decide) (by decide)]; exact h4), py_hc_fr ((py_fr.rf [] [(0, 10)] σ).ut (by decide) _) (by decide) (by decide) h5, py_ac_fr ((py_fr.rf [] [(0, 10)] σ).ut (by decide) _) (by decide) h6, py_im_fr ((py_fr.rf [] [(0, 10)] σ).ut (by decide) _) (by decide) (by decide) h7, py_im_fr ((py_fr.rf [] [(0, 10)] σ).ut (by decide) _) (by decide) (by decide) h8, py_tr_fr ((py_fr.rf [] [(0, 10)] σ).ut (by decide) _) (by decide) h9, py_cr_fr ((py_fr.rf [] [(0, 10)] σ).ut (by decide) _) (by decide) h10⟩
            rw [py_up_s]
            unfold nq_fits; (repeat' split) <;> first | rfl | omega
        · refine go_ldc (pc := 46) dX7_fits_46 kX7_67 ?_
          have e2 : nq_fits R q H ((nI p)) ((nI a)) ((xi)) ((nI m)) ((y)) = q := by unfold nq_fits; (repeat' split) <;> first | rfl | omega
          exact go_retI (pc := 48) dX7_fits_48 (by unfold an_fits; (repeat' split) <;> first | rfl | omega) ⟨by rw [e2]; exact hI, py_fr.rf _ _ σ⟩
    · refine go_ldc (pc := 22) dX7_fits_22 kX7_67 ?_
      have e2 : nq_fits R q H ((nI p)) ((xr)) ((xi)) ((xn)) ((y)) = q := by unfold nq_fits; (repeat' split) <;> first | rfl | omega
      exact go_retI (pc := 24) dX7_fits_24 (by unfold an_fits; (repeat' split) <;> first | rfl | omega) ⟨by rw [e2]; exact hI, py_fr.rf _ _ σ⟩
