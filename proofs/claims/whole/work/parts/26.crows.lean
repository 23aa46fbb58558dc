/-! contracts: the class's public methods: rows -/
set_option maxHeartbeats 4000000 in
set_option maxRecDepth 100000 in
theorem cl_row {X : py_X} {σ : py_H} {R : py_Rt} {q : Int32} {B : Nat → Nat} {N : Nat} {ft : Int32} {H : Nat → Nat} {n : Nat} {As : Nat → Nat → Nat} {I0 I1 : Option (Nat → Nat)} {t : Nat} {tr : Nat → Int32} (hI : py_IC σ R q B N ft H n As I0 I1 t tr) (hW : py_IW H n As I0 I1 t) {x y z : Int32} : py_Ev X 2 yX7_row cX7_row 4 (some .int) [.ref 0, .int (x), .int (y), .int (z)] σ (py_vs (some (.int (an_row x y z))) (fun s => py_IC s (nr_row R x y z) (nq_row q x y z) B N ft H n As I0 I1 t tr ∧ py_fr py_SC [] σ s)) := by
  obtain ⟨h1, h2, h3, h4, h5, h6, h7, h8, h9, h10⟩ := id hI
  obtain ⟨hw, hA, hJ0, hJ1, ht16⟩ := id hW
  obtain ⟨w0, w1, w2, w3, w12, w03, w00, wW, wP, wR⟩ := id hw
  have hc := h5.2
  refine py_ofI (own := RX7) YX7_row.2.2.2.2 rfl rfl (Nat.le_of_ble_eq_true rfl)  ?_
  show py_Go X RX7 cX7_row 4 2 0 [some (.ref 0), some (.int (x)), some (.int (y)), some (.int (z))] [] σ (py_vs (some (.int (an_row x y z))) (fun s => py_IC s (nr_row R x y z) (nq_row q x y z) B N ft H n As I0 I1 t tr ∧ py_fr py_SC [] σ s))
  refine go_aload_n (pc := 0) dX7_row_0 rfl ?_
  refine go_getR (pc := 1) dX7_row_1 fX7_10 rfl rfl ?_
  refine go_iload_n (pc := 4) dX7_row_4 rfl ?_
  refine go_cV (pc := 5) dX7_row_5 ev_isRow lX7_60 YX4_isRow VX4_isRow rfl rfl rfl (by decide) rfl (Nat.le_of_ble_eq_true rfl) ?_
  refine go_if_eqB (tgt := 28) (pc := 8) dX7_row_8 (by decide) (fun c_8 => ?_) (fun c_8 => ?_)
  · refine go_ldc (pc := 28) dX7_row_28 kX7_67 ?_
    have e1 : nr_row R ((x)) ((y)) z = R := by unfold nr_row; rw [if_neg (by omega)]
    have e2 : nq_row q ((x)) ((y)) z = q := by unfold nq_row; (repeat' split) <;> first | rfl | omega
    exact go_retI (pc := 30) dX7_row_30 (by unfold an_row; (repeat' split) <;> first | rfl | omega) ⟨by rw [e1, e2]; exact hI, py_fr.rf _ _ σ⟩
  · obtain ⟨r, rfl, hr, hrI, hrC⟩ := py_pi_of c_8
    refine go_aload_n (pc := 11) dX7_row_11 rfl ?_
    refine go_getR (pc := 12) dX7_row_12 fX7_10 rfl rfl ?_
    refine go_iload_n (pc := 15) dX7_row_15 rfl ?_
    refine go_cV (pc := 16) dX7_row_16 ev_isLane lX7_64 YX4_isLane VX4_isLane rfl rfl rfl (by decide) rfl (Nat.le_of_ble_eq_true rfl) ?_
    refine go_if_eqB (tgt := 28) (pc := 19) dX7_row_19 (by decide) (fun c_19 => ?_) (fun c_19 => ?_)
    · refine go_ldc (pc := 28) dX7_row_28 kX7_67 ?_
      have e1 : nr_row R ((nI r)) ((y)) z = R := by unfold nr_row; rw [if_neg (by omega)]
      have e2 : nq_row q ((nI r)) ((y)) z = q := by unfold nq_row; (repeat' split) <;> first | rfl | omega
      exact go_retI (pc := 30) dX7_row_30 (by unfold an_row; (repeat' split) <;> first | rfl | omega) ⟨by rw [e1, e2]; exact hI, py_fr.rf _ _ σ⟩
    · obtain ⟨l, rfl, hl, hlI, hlC⟩ := py_pi_of c_19
      refine go_iload_n (pc := 22) dX7_row_22 rfl ?_
      refine go_bipush (v := nI 40) (pc := 23) dX7_row_23 (by decide) ?_
      refine go_icmp_leJN (tgt := 31) (pc := 25) dX7_row_25 (by omega) (by decide) (fun c_25 => ?_) (fun c_25 => ?_)
      · refine go_iload_n (pc := 31) dX7_row_31 rfl ?_
        refine go_if_geJ (tgt := 41) (pc := 32) dX7_row_32 (by decide) (fun c_32 => ?_) (fun c_32 => ?_)
        · obtain ⟨m, rfl, hm0, hm, hmI, hmC⟩ := py_rg_of (x := z) (a := 0) (b := 40) ⟨by omega, by omega⟩
          refine go_aload_n (pc := 41) dX7_row_41 rfl ?_
          refine go_getR (pc := 42) dX7_row_42 fX7_10 rfl rfl ?_
          refine go_iload_n (pc := 45) dX7_row_45 rfl ?_
          refine go_iload_n (pc := 46) dX7_row_46 rfl ?_
          refine go_iload_n (pc := 47) dX7_row_47 rfl ?_
          refine go_cVv (pc := 48) dX7_row_48 (ev_make hr hm) lX7_72 YX4_make VX4_make rfl rfl rfl (by decide) rfl (Nat.le_of_ble_eq_true rfl) (fun s1 e1 => ?_)
          refine go_aload_n (pc := 51) dX7_row_51 rfl ?_
          refine go_iload_n (pc := 52) dX7_row_52 rfl ?_
          refine go_cVi (pc := 53) dX7_row_53 ev_foundNothing lX7_76 YX7_foundNothing VX7_foundNothing rfl rfl rfl (by decide) rfl (Nat.le_of_ble_eq_true rfl) (fun sf ef => ?_)
          subst e1
          subst ef
          have en : nr_row R (nI r) (nI l) (nI m) = (va_up R.1 r l, va_up R.2.1 r m, py_zs R.2.2 (40 * r) 40) := by unfold nr_row; rw [if_pos (by omega), hrC, hlC, hmC]
          have hf : py_fr [2, 3, 4] [(0, 10)] σ (py_up (py_row (py_up (py_up σ 3 r (nI l)) 4 r (nI m)) 2 (py_zs (σ 2) (r * 40) m)) 0 10 (nI 0)) := ((((py_fr.rf [2, 3, 4] [(0, 10)] σ).up (by decide) _).up (by decide) _).row (by decide) _).ut (by decide) _
          refine go_retI (pc := 56) dX7_row_56 (by unfold an_row; (repeat' split) <;> first | rfl | omega) ⟨?_, hf.wd (by decide) (by decide)⟩
          rw [en]
          refine ⟨py_rc_row hr hl hm h1 ?_ ?_ ?_, ?_, py_tc_fr hf (by decide) (by decide) (by decide) (by decide) h3, (by rw [hf 0 9 (by decide) (by decide)]; exact h4), py_hc_fr hf (by decide) (by decide) h5, py_ac_fr hf (by decide) h6, py_im_fr hf (by decide) (by decide) h7, py_im_fr hf (by decide) (by decide) h8, py_tr_fr hf (by decide) h9, py_cr_fr hf (by decide) h10⟩
          · rw [py_up_k _ _ _ (by decide), py_row_ne _ _ (by decide), py_up_k _ _ _ (by decide)]; exact py_row_self _ _ _
          · rw [py_up_k _ _ _ (by decide), py_row_ne _ _ (by decide)]
            refine (py_row_self _ _ _).trans ?_
            rw [py_up_k _ _ _ (by decide)]
          · rw [py_up_k _ _ _ (by decide), py_row_self]
          · rw [py_up_s]; unfold nq_row; rw [if_pos (by omega), if_neg (by omega)]
        · refine go_aload_n (pc := 35) dX7_row_35 rfl ?_
          refine go_iconst (v := nI 4) (pc := 36) dX7_row_36 (by decide) ?_
          refine go_cVi (pc := 37) dX7_row_37 ev_found lX7_68 YX7_found VX7_found rfl rfl rfl (by decide) rfl (Nat.le_of_ble_eq_true rfl) (fun sf ef => ?_)
          have e1 : nr_row R ((nI r)) ((nI l)) z = R := by unfold nr_row; rw [if_neg (by omega)]
          subst ef
          refine go_retI (pc := 40) dX7_row_40 (by unfold an_row; (repeat' split) <;> first | rfl | omega) ⟨?_, ((py_fr.rf [] [(0, 10)] σ).ut (by decide) _).wd (by decide) (by decide)⟩
          rw [e1]
          refine ⟨py_rc_fr ((py_fr.rf [] [(0, 10)] σ).ut (by decide) _) (by decide) h1, ?_, py_tc_fr ((py_fr.rf [] [(0, 10)] σ).ut (by decide) _) (by decide) (by decide) (by decide) (by decide) h3, (by rw [((py_fr.rf [] [(0, 10)] σ).ut (by decide) _) 0 9 (by decide) (by decide)]; exact h4), py_hc_fr ((py_fr.rf [] [(0, 10)] σ).ut (by decide) _) (by decide) (by decide) h5, py_ac_fr ((py_fr.rf [] [(0, 10)] σ).ut (by decide) _) (by decide) h6, py_im_fr ((py_fr.rf [] [(0, 10)] σ).ut (by decide) _) (by decide) (by decide) h7, py_im_fr ((py_fr.rf [] [(0, 10)] σ).ut (by decide) _) (by decide) (by decide) h8, py_tr_fr ((py_fr.rf [] [(0, 10)] σ).ut (by decide) _) (by decide) h9, py_cr_fr ((py_fr.rf [] [(0, 10)] σ).ut (by decide) _) (by decide) h10⟩
          rw [py_up_s]
          unfold nq_row
          (repeat' split) <;> first | rfl | omega
      · refine go_ldc (pc := 28) dX7_row_28 kX7_67 ?_
        have e1 : nr_row R ((nI r)) ((nI l)) z = R := by unfold nr_row; rw [if_neg (by omega)]
        have e2 : nq_row q ((nI r)) ((nI l)) z = q := by unfold nq_row; (repeat' split) <;> first | rfl | omega
        exact go_retI (pc := 30) dX7_row_30 (by unfold an_row; (repeat' split) <;> first | rfl | omega) ⟨by rw [e1, e2]; exact hI, py_fr.rf _ _ σ⟩
set_option maxHeartbeats 4000000 in
set_option maxRecDepth 100000 in
theorem cl_set {X : py_X} {σ : py_H} {R : py_Rt} {q : Int32} {B : Nat → Nat} {N : Nat} {ft : Int32} {H : Nat → Nat} {n : Nat} {As : Nat → Nat → Nat} {I0 I1 : Option (Nat → Nat)} {t : Nat} {tr : Nat → Int32} (hI : py_IC σ R q B N ft H n As I0 I1 t tr) (hW : py_IW H n As I0 I1 t) {x y z : Int32} : py_Ev X 2 yX7_set cX7_set 4 (some .int) [.ref 0, .int (x), .int (y), .int (z)] σ (py_vs (some (.int (an_set R x y z))) (fun s => py_IC s (nr_set R x y z) (nq_set R q x y) B N ft H n As I0 I1 t tr ∧ py_fr py_SC [] σ s)) := by
  obtain ⟨h1, h2, h3, h4, h5, h6, h7, h8, h9, h10⟩ := id hI
  obtain ⟨hw, hA, hJ0, hJ1, ht16⟩ := id hW
  obtain ⟨w0, w1, w2, w3, w12, w03, w00, wW, wP, wR⟩ := id hw
  have hc := h5.2
  refine py_ofI (own := RX7) YX7_set.2.2.2.2 rfl rfl (Nat.le_of_ble_eq_true rfl)  ?_
  show py_Go X RX7 cX7_set 4 2 0 [some (.ref 0), some (.int (x)), some (.int (y)), some (.int (z))] [] σ (py_vs (some (.int (an_set R x y z))) (fun s => py_IC s (nr_set R x y z) (nq_set R q x y) B N ft H n As I0 I1 t tr ∧ py_fr py_SC [] σ s))
  refine go_aload_n (pc := 0) dX7_set_0 rfl ?_
  refine go_getR (pc := 1) dX7_set_1 fX7_10 rfl rfl ?_
  refine go_iload_n (pc := 4) dX7_set_4 rfl ?_
  refine go_cV (pc := 5) dX7_set_5 ev_isRow lX7_60 YX4_isRow VX4_isRow rfl rfl rfl (by decide) rfl (Nat.le_of_ble_eq_true rfl) ?_
  refine go_if_neB (tgt := 14) (pc := 8) dX7_set_8 (by decide) (fun c_8 => ?_) (fun c_8 => ?_)
  · obtain ⟨r, rfl, hr, hrI, hrC⟩ := py_pi_of c_8
    have hR := h1 r hr
    have hu1 : R.1 (nI r).toNatClampNeg = R.1 r := by rw [hrC]
    have hu2 : R.2.1 (nI r).toNatClampNeg = R.2.1 r := by rw [hrC]
    refine go_aload_n (pc := 14) dX7_set_14 rfl ?_
    refine go_getR (pc := 15) dX7_set_15 fX7_10 rfl rfl ?_
    refine go_iload_n (pc := 18) dX7_set_18 rfl ?_
    refine go_cV (pc := 19) dX7_set_19 (ev_isMissing hr hR.2.1 hR.1) lX7_79 YX4_isMissing VX4_isMissing rfl rfl rfl (by decide) rfl (Nat.le_of_ble_eq_true rfl) ?_
    refine go_if_eqB (tgt := 31) (pc := 22) dX7_set_22 (by decide) (fun c_22 => ?_) (fun c_22 => ?_)
    · have hl3 : R.1 r < 3 := by omega
      have hM := hR.2.2 hl3
      refine go_aload_n (pc := 31) dX7_set_31 rfl ?_
      refine go_getR (pc := 32) dX7_set_32 fX7_10 rfl rfl ?_
      refine go_iload_n (pc := 35) dX7_set_35 rfl ?_
      refine go_iload_n (pc := 36) dX7_set_36 rfl ?_
      refine go_iconst (v := nI 1) (pc := 37) dX7_set_37 (by decide) ?_
      refine go_cV (pc := 38) dX7_set_38 (ev_hasPlaces hr hM.2.1 hM.1) lX7_82 YX4_hasPlaces VX4_hasPlaces rfl rfl rfl (by decide) rfl (Nat.le_of_ble_eq_true rfl) ?_
      have h1I : (nI 1).toInt = 1 := by decide
      refine go_if_neB (tgt := 50) (pc := 41) dX7_set_41 (by decide) (fun c_41 => ?_) (fun c_41 => ?_)
      · obtain ⟨i, rfl, hi, hiI, hiC⟩ := py_pi_of (x := y) (n := R.2.1 r) ⟨by omega, by omega⟩
        refine go_aload_n (pc := 50) dX7_set_50 rfl ?_
        refine go_aload_n (pc := 51) dX7_set_51 rfl ?_
        refine go_getR (pc := 52) dX7_set_52 fX7_10 rfl rfl ?_
        refine go_iload_n (pc := 55) dX7_set_55 rfl ?_
        refine go_iload_n (pc := 56) dX7_set_56 rfl ?_
        refine go_iload_n (pc := 57) dX7_set_57 rfl ?_
        have hlr : σ 3 r = nI (R.1 r) := by rw [hR.2.1, if_neg (by omega)]
        refine go_cVi (pc := 58) dX7_set_58 (ev_put hr (by omega) hlr (by omega)) lX7_86 YX4_put VX4_put rfl rfl rfl (by decide) rfl (Nat.le_of_ble_eq_true rfl) (fun s1 e1 => ?_)
        refine go_cVi (pc := 61) dX7_set_61 ev_foundNothing lX7_76 YX7_foundNothing VX7_foundNothing rfl rfl rfl (by decide) rfl (Nat.le_of_ble_eq_true rfl) (fun sf ef => ?_)
        subst e1
        subst ef
        have en : nr_set R (nI r) (nI i) z = (R.1, R.2.1, upd R.2.2 (40 * r + i) (py_cut (R.1 r) z)) := by unfold nr_set; rw [if_pos (by omega), hrC, hiC]
        have hf : py_fr [2] [(0, 10)] σ (py_up (py_up σ 2 (r * 40 + i) (py_cut (R.1 r) z)) 0 10 (nI 0)) := ((py_fr.rf [2] [(0, 10)] σ).up (by decide) _).ut (by decide) _
        refine go_retI (pc := 64) dX7_set_64 (by unfold an_set; rw [if_pos (by omega), if_neg (by omega), if_pos (by omega), hrC]) ⟨?_, hf.wd (by decide) (by decide)⟩
        rw [en]
        refine ⟨py_rc_set hr (show i < 40 by omega) h1 ?_ ?_ ?_, ?_, py_tc_fr hf (by decide) (by decide) (by decide) (by decide) h3, (by rw [hf 0 9 (by decide) (by decide)]; exact h4), py_hc_fr hf (by decide) (by decide) h5, py_ac_fr hf (by decide) h6, py_im_fr hf (by decide) (by decide) h7, py_im_fr hf (by decide) (by decide) h8, py_tr_fr hf (by decide) h9, py_cr_fr hf (by decide) h10⟩
        · rw [py_up_k _ _ _ (by decide), py_up_k _ _ _ (by decide)]
        · rw [py_up_k _ _ _ (by decide), py_up_k _ _ _ (by decide)]
        · rw [py_up_k _ _ _ (by decide)]; exact py_row_self _ _ _
        · rw [py_up_s]; unfold nq_set; rw [if_pos (by omega), if_neg (by omega), if_pos (by omega)]
      · refine go_aload_n (pc := 44) dX7_set_44 rfl ?_
        refine go_iconst (v := nI 2) (pc := 45) dX7_set_45 (by decide) ?_
        refine go_cVi (pc := 46) dX7_set_46 ev_found lX7_68 YX7_found VX7_found rfl rfl rfl (by decide) rfl (Nat.le_of_ble_eq_true rfl) (fun sf ef => ?_)
        have e1 : nr_set R ((nI r)) y z = R := by unfold nr_set; rw [if_neg (by omega)]
        subst ef
        refine go_retI (pc := 49) dX7_set_49 (by unfold an_set; (repeat' split) <;> first | rfl | omega) ⟨?_, ((py_fr.rf [] [(0, 10)] σ).ut (by decide) _).wd (by decide) (by decide)⟩
        rw [e1]
        refine ⟨py_rc_fr ((py_fr.rf [] [(0, 10)] σ).ut (by decide) _) (by decide) h1, ?_, py_tc_fr ((py_fr.rf [] [(0, 10)] σ).ut (by decide) _) (by decide) (by decide) (by decide) (by decide) h3, (by rw [((py_fr.rf [] [(0, 10)] σ).ut (by decide) _) 0 9 (by decide) (by decide)]; exact h4), py_hc_fr ((py_fr.rf [] [(0, 10)] σ).ut (by decide) _) (by decide) (by decide) h5, py_ac_fr ((py_fr.rf [] [(0, 10)] σ).ut (by decide) _) (by decide) h6, py_im_fr ((py_fr.rf [] [(0, 10)] σ).ut (by decide) _) (by decide) (by decide) h7, py_im_fr ((py_fr.rf [] [(0, 10)] σ).ut (by decide) _) (by decide) (by decide) h8, py_tr_fr ((py_fr.rf [] [(0, 10)] σ).ut (by decide) _) (by decide) h9, py_cr_fr ((py_fr.rf [] [(0, 10)] σ).ut (by decide) _) (by decide) h10⟩
        rw [py_up_s]
        unfold nq_set
        (repeat' split) <;> first | rfl | omega
    · refine go_aload_n (pc := 25) dX7_set_25 rfl ?_
      refine go_iconst (v := nI 1) (pc := 26) dX7_set_26 (by decide) ?_
      refine go_cVi (pc := 27) dX7_set_27 ev_found lX7_68 YX7_found VX7_found rfl rfl rfl (by decide) rfl (Nat.le_of_ble_eq_true rfl) (fun sf ef => ?_)
      have e1 : nr_set R ((nI r)) y z = R := by unfold nr_set; rw [if_neg (by omega)]
      subst ef
      refine go_retI (pc := 30) dX7_set_30 (by unfold an_set; (repeat' split) <;> first | rfl | omega) ⟨?_, ((py_fr.rf [] [(0, 10)] σ).ut (by decide) _).wd (by decide) (by decide)⟩
      rw [e1]
      refine ⟨py_rc_fr ((py_fr.rf [] [(0, 10)] σ).ut (by decide) _) (by decide) h1, ?_, py_tc_fr ((py_fr.rf [] [(0, 10)] σ).ut (by decide) _) (by decide) (by decide) (by decide) (by decide) h3, (by rw [((py_fr.rf [] [(0, 10)] σ).ut (by decide) _) 0 9 (by decide) (by decide)]; exact h4), py_hc_fr ((py_fr.rf [] [(0, 10)] σ).ut (by decide) _) (by decide) (by decide) h5, py_ac_fr ((py_fr.rf [] [(0, 10)] σ).ut (by decide) _) (by decide) h6, py_im_fr ((py_fr.rf [] [(0, 10)] σ).ut (by decide) _) (by decide) (by decide) h7, py_im_fr ((py_fr.rf [] [(0, 10)] σ).ut (by decide) _) (by decide) (by decide) h8, py_tr_fr ((py_fr.rf [] [(0, 10)] σ).ut (by decide) _) (by decide) h9, py_cr_fr ((py_fr.rf [] [(0, 10)] σ).ut (by decide) _) (by decide) h10⟩
      rw [py_up_s]
      unfold nq_set
      (repeat' split) <;> first | rfl | omega
  · refine go_ldc (pc := 11) dX7_set_11 kX7_67 ?_
    have e1 : nr_set R ((x)) y z = R := by unfold nr_set; rw [if_neg (by omega)]
    have e2 : nq_set R q ((x)) y = q := by unfold nq_set; (repeat' split) <;> first | rfl | omega
    exact go_retI (pc := 13) dX7_set_13 (by unfold an_set; (repeat' split) <;> first | rfl | omega) ⟨by rw [e1, e2]; exact hI, py_fr.rf _ _ σ⟩
set_option maxHeartbeats 4000000 in
set_option maxRecDepth 100000 in
theorem cl_drop {X : py_X} {σ : py_H} {R : py_Rt} {q : Int32} {B : Nat → Nat} {N : Nat} {ft : Int32} {H : Nat → Nat} {n : Nat} {As : Nat → Nat → Nat} {I0 I1 : Option (Nat → Nat)} {t : Nat} {tr : Nat → Int32} (hI : py_IC σ R q B N ft H n As I0 I1 t tr) (hW : py_IW H n As I0 I1 t) {x : Int32} : py_Ev X 2 yX7_drop cX7_drop 2 (some .int) [.ref 0, .int (x)] σ (py_vs (some (.int (an_drop R x))) (fun s => py_IC s (nr_drop R x) (nq_drop R q x) B N ft H n As I0 I1 t tr ∧ py_fr py_SC [] σ s)) := by
  obtain ⟨h1, h2, h3, h4, h5, h6, h7, h8, h9, h10⟩ := id hI
  obtain ⟨hw, hA, hJ0, hJ1, ht16⟩ := id hW
  obtain ⟨w0, w1, w2, w3, w12, w03, w00, wW, wP, wR⟩ := id hw
  have hc := h5.2
  refine py_ofI (own := RX7) YX7_drop.2.2.2.2 rfl rfl (Nat.le_of_ble_eq_true rfl)  ?_
  show py_Go X RX7 cX7_drop 2 2 0 [some (.ref 0), some (.int (x))] [] σ (py_vs (some (.int (an_drop R x))) (fun s => py_IC s (nr_drop R x) (nq_drop R q x) B N ft H n As I0 I1 t tr ∧ py_fr py_SC [] σ s))
  refine go_aload_n (pc := 0) dX7_drop_0 rfl ?_
  refine go_getR (pc := 1) dX7_drop_1 fX7_10 rfl rfl ?_
  refine go_iload_n (pc := 4) dX7_drop_4 rfl ?_
  refine go_cV (pc := 5) dX7_drop_5 ev_isRow lX7_60 YX4_isRow VX4_isRow rfl rfl rfl (by decide) rfl (Nat.le_of_ble_eq_true rfl) ?_
  refine go_if_neB (tgt := 14) (pc := 8) dX7_drop_8 (by decide) (fun c_8 => ?_) (fun c_8 => ?_)
  · obtain ⟨r, rfl, hr, hrI, hrC⟩ := py_pi_of c_8
    have hR := h1 r hr
    have hu1 : R.1 (nI r).toNatClampNeg = R.1 r := by rw [hrC]
    have hu2 : R.2.1 (nI r).toNatClampNeg = R.2.1 r := by rw [hrC]
    refine go_aload_n (pc := 14) dX7_drop_14 rfl ?_
    refine go_getR (pc := 15) dX7_drop_15 fX7_10 rfl rfl ?_
    refine go_iload_n (pc := 18) dX7_drop_18 rfl ?_
    refine go_cV (pc := 19) dX7_drop_19 (ev_isMissing hr hR.2.1 hR.1) lX7_79 YX4_isMissing VX4_isMissing rfl rfl rfl (by decide) rfl (Nat.le_of_ble_eq_true rfl) ?_
    refine go_if_eqB (tgt := 31) (pc := 22) dX7_drop_22 (by decide) (fun c_22 => ?_) (fun c_22 => ?_)
    · have hl3 : R.1 r < 3 := by omega
      have hM := hR.2.2 hl3
      refine go_aload_n (pc := 31) dX7_drop_31 rfl ?_
      refine go_aload_n (pc := 32) dX7_drop_32 rfl ?_
      refine go_getR (pc := 33) dX7_drop_33 fX7_10 rfl rfl ?_
      refine go_iload_n (pc := 36) dX7_drop_36 rfl ?_
      refine go_cVi (pc := 37) dX7_drop_37 (ev_lose hr) lX7_98 YX4_lose VX4_lose rfl rfl rfl (by decide) rfl (Nat.le_of_ble_eq_true rfl) (fun s1 e1 => ?_)
      refine go_top hM.2.1 ?_
      refine go_cVi (pc := 40) dX7_drop_40 ev_foundNothing lX7_76 YX7_foundNothing VX7_foundNothing rfl rfl rfl (by decide) rfl (Nat.le_of_ble_eq_true rfl) (fun sf ef => ?_)
      subst e1
      subst ef
      have en : nr_drop R (nI r) = (va_up R.1 r 3, R.2.1, R.2.2) := by unfold nr_drop; rw [if_pos (by omega), hrC]
      have hf : py_fr [3, 4] [(0, 10)] σ (py_up (py_up (py_up σ 3 r (-1)) 4 r (nI 0)) 0 10 (nI 0)) := (((py_fr.rf [3, 4] [(0, 10)] σ).up (by decide) _).up (by decide) _).ut (by decide) _
      refine go_retI (pc := 43) dX7_drop_43 (by unfold an_drop; rw [if_pos (by omega), if_neg (by omega), hrC]) ⟨?_, hf.wd (by decide) (by decide)⟩
      rw [en]
      refine ⟨py_rc_drop hr h1 ?_ ?_ ?_, ?_, py_tc_fr hf (by decide) (by decide) (by decide) (by decide) h3, (by rw [hf 0 9 (by decide) (by decide)]; exact h4), py_hc_fr hf (by decide) (by decide) h5, py_ac_fr hf (by decide) h6, py_im_fr hf (by decide) (by decide) h7, py_im_fr hf (by decide) (by decide) h8, py_tr_fr hf (by decide) h9, py_cr_fr hf (by decide) h10⟩
      · rw [py_up_k _ _ _ (by decide), py_up_k _ _ _ (by decide)]; exact py_row_self _ _ _
      · intro k hk; rw [py_up_k _ _ _ (by decide), py_up_j _ _ _ hk, py_up_k _ _ _ (by decide)]
      · rw [py_up_k _ _ _ (by decide), py_up_k _ _ _ (by decide), py_up_k _ _ _ (by decide)]
      · rw [py_up_s]; unfold nq_drop; rw [if_pos (by omega), if_neg (by omega)]
    · refine go_aload_n (pc := 25) dX7_drop_25 rfl ?_
      refine go_iconst (v := nI 1) (pc := 26) dX7_drop_26 (by decide) ?_
      refine go_cVi (pc := 27) dX7_drop_27 ev_found lX7_68 YX7_found VX7_found rfl rfl rfl (by decide) rfl (Nat.le_of_ble_eq_true rfl) (fun sf ef => ?_)
      have e1 : nr_drop R ((nI r)) = R := by unfold nr_drop; rw [if_neg (by omega)]
      subst ef
      refine go_retI (pc := 30) dX7_drop_30 (by unfold an_drop; (repeat' split) <;> first | rfl | omega) ⟨?_, ((py_fr.rf [] [(0, 10)] σ).ut (by decide) _).wd (by decide) (by decide)⟩
      rw [e1]
      refine ⟨py_rc_fr ((py_fr.rf [] [(0, 10)] σ).ut (by decide) _) (by decide) h1, ?_, py_tc_fr ((py_fr.rf [] [(0, 10)] σ).ut (by decide) _) (by decide) (by decide) (by decide) (by decide) h3, (by rw [((py_fr.rf [] [(0, 10)] σ).ut (by decide) _) 0 9 (by decide) (by decide)]; exact h4), py_hc_fr ((py_fr.rf [] [(0, 10)] σ).ut (by decide) _) (by decide) (by decide) h5, py_ac_fr ((py_fr.rf [] [(0, 10)] σ).ut (by decide) _) (by decide) h6, py_im_fr ((py_fr.rf [] [(0, 10)] σ).ut (by decide) _) (by decide) (by decide) h7, py_im_fr ((py_fr.rf [] [(0, 10)] σ).ut (by decide) _) (by decide) (by decide) h8, py_tr_fr ((py_fr.rf [] [(0, 10)] σ).ut (by decide) _) (by decide) h9, py_cr_fr ((py_fr.rf [] [(0, 10)] σ).ut (by decide) _) (by decide) h10⟩
      rw [py_up_s]
      unfold nq_drop
      (repeat' split) <;> first | rfl | omega
  · refine go_ldc (pc := 11) dX7_drop_11 kX7_67 ?_
    have e1 : nr_drop R ((x)) = R := by unfold nr_drop; rw [if_neg (by omega)]
    have e2 : nq_drop R q ((x)) = q := by unfold nq_drop; (repeat' split) <;> first | rfl | omega
    exact go_retI (pc := 13) dX7_drop_13 (by unfold an_drop; (repeat' split) <;> first | rfl | omega) ⟨by rw [e1, e2]; exact hI, py_fr.rf _ _ σ⟩
set_option maxHeartbeats 4000000 in
set_option maxRecDepth 100000 in
theorem cl_copy {X : py_X} {σ : py_H} {R : py_Rt} {q : Int32} {B : Nat → Nat} {N : Nat} {ft : Int32} {H : Nat → Nat} {n : Nat} {As : Nat → Nat → Nat} {I0 I1 : Option (Nat → Nat)} {t : Nat} {tr : Nat → Int32} (hI : py_IC σ R q B N ft H n As I0 I1 t tr) (hW : py_IW H n As I0 I1 t) {xa xi xb xj xn : Int32} : py_Ev X 2 yX7_copy cX7_copy 6 (some .int) [.ref 0, .int (xa), .int (xi), .int (xb), .int (xj), .int (xn)] σ (py_vs (some (.int (an_copy R xa xi xb xj xn))) (fun s => py_IC s (nr_copy R xa xi xb xj xn) (nq_copy R q xa xi xb xj xn) B N ft H n As I0 I1 t tr ∧ py_fr py_SC [] σ s)) := by
  obtain ⟨h1, h2, h3, h4, h5, h6, h7, h8, h9, h10⟩ := id hI
  obtain ⟨hw, hA, hJ0, hJ1, ht16⟩ := id hW
  obtain ⟨w0, w1, w2, w3, w12, w03, w00, wW, wP, wR⟩ := id hw
  have hc := h5.2
  refine py_ofI (own := RX7) YX7_copy.2.2.2.2 rfl rfl (Nat.le_of_ble_eq_true rfl)  ?_
  show py_Go X RX7 cX7_copy 6 2 0 [some (.ref 0), some (.int (xa)), some (.int (xi)), some (.int (xb)), some (.int (xj)), some (.int (xn))] [] σ (py_vs (some (.int (an_copy R xa xi xb xj xn))) (fun s => py_IC s (nr_copy R xa xi xb xj xn) (nq_copy R q xa xi xb xj xn) B N ft H n As I0 I1 t tr ∧ py_fr py_SC [] σ s))
  refine go_aload_n (pc := 0) dX7_copy_0 rfl ?_
  refine go_getR (pc := 1) dX7_copy_1 fX7_10 rfl rfl ?_
  refine go_iload_n (pc := 4) dX7_copy_4 rfl ?_
  refine go_cV (pc := 5) dX7_copy_5 ev_isRow lX7_60 YX4_isRow VX4_isRow rfl rfl rfl (by decide) rfl (Nat.le_of_ble_eq_true rfl) ?_
  refine go_if_eqB (tgt := 22) (pc := 8) dX7_copy_8 (by decide) (fun c_8 => ?_) (fun c_8 => ?_)
  · refine go_ldc (pc := 22) dX7_copy_22 kX7_67 ?_
    have e1 : nr_copy R ((xa)) ((xi)) ((xb)) ((xj)) ((xn)) = R := by unfold nr_copy; rw [if_neg (by omega)]
    have e2 : nq_copy R q ((xa)) ((xi)) ((xb)) ((xj)) ((xn)) = q := by unfold nq_copy; (repeat' split) <;> first | rfl | omega
    exact go_retI (pc := 24) dX7_copy_24 (by unfold an_copy; (repeat' split) <;> first | rfl | omega) ⟨by rw [e1, e2]; exact hI, py_fr.rf _ _ σ⟩
  · obtain ⟨a, rfl, ha, haI, haC⟩ := py_pi_of c_8
    have hRa := h1 a ha
    have hua1 : R.1 (nI a).toNatClampNeg = R.1 a := by rw [haC]
    have hua2 : R.2.1 (nI a).toNatClampNeg = R.2.1 a := by rw [haC]
    refine go_aload_n (pc := 11) dX7_copy_11 rfl ?_
    refine go_getR (pc := 12) dX7_copy_12 fX7_10 rfl rfl ?_
    refine go_iload_n (pc := 15) dX7_copy_15 rfl ?_
    refine go_cV (pc := 16) dX7_copy_16 ev_isRow lX7_60 YX4_isRow VX4_isRow rfl rfl rfl (by decide) rfl (Nat.le_of_ble_eq_true rfl) ?_
    refine go_if_neB (tgt := 25) (pc := 19) dX7_copy_19 (by decide) (fun c_19 => ?_) (fun c_19 => ?_)
    · obtain ⟨b, rfl, hb, hbI, hbC⟩ := py_pi_of c_19
      have hRb := h1 b hb
      have hub1 : R.1 (nI b).toNatClampNeg = R.1 b := by rw [hbC]
      have hub2 : R.2.1 (nI b).toNatClampNeg = R.2.1 b := by rw [hbC]
      refine go_aload_n (pc := 25) dX7_copy_25 rfl ?_
      refine go_getR (pc := 26) dX7_copy_26 fX7_10 rfl rfl ?_
      refine go_iload_n (pc := 29) dX7_copy_29 rfl ?_
      refine go_cV (pc := 30) dX7_copy_30 (ev_isMissing ha hRa.2.1 hRa.1) lX7_79 YX4_isMissing VX4_isMissing rfl rfl rfl (by decide) rfl (Nat.le_of_ble_eq_true rfl) ?_
      refine go_if_neB (tgt := 47) (pc := 33) dX7_copy_33 (by decide) (fun c_33 => ?_) (fun c_33 => ?_)
      · refine go_aload_n (pc := 47) dX7_copy_47 rfl ?_
        refine go_iconst (v := nI 1) (pc := 48) dX7_copy_48 (by decide) ?_
        refine go_cVi (pc := 49) dX7_copy_49 ev_found lX7_68 YX7_found VX7_found rfl rfl rfl (by decide) rfl (Nat.le_of_ble_eq_true rfl) (fun sf ef => ?_)
        have e1 : nr_copy R ((nI a)) ((xi)) ((nI b)) ((xj)) ((xn)) = R := by unfold nr_copy; rw [if_neg (by omega)]
        subst ef
        refine go_retI (pc := 52) dX7_copy_52 (by unfold an_copy; (repeat' split) <;> first | rfl | omega) ⟨?_, ((py_fr.rf [] [(0, 10)] σ).ut (by decide) _).wd (by decide) (by decide)⟩
        rw [e1]
        refine ⟨py_rc_fr ((py_fr.rf [] [(0, 10)] σ).ut (by decide) _) (by decide) h1, ?_, py_tc_fr ((py_fr.rf [] [(0, 10)] σ).ut (by decide) _) (by decide) (by decide) (by decide) (by decide) h3, (by rw [((py_fr.rf [] [(0, 10)] σ).ut (by decide) _) 0 9 (by decide) (by decide)]; exact h4), py_hc_fr ((py_fr.rf [] [(0, 10)] σ).ut (by decide) _) (by decide) (by decide) h5, py_ac_fr ((py_fr.rf [] [(0, 10)] σ).ut (by decide) _) (by decide) h6, py_im_fr ((py_fr.rf [] [(0, 10)] σ).ut (by decide) _) (by decide) (by decide) h7, py_im_fr ((py_fr.rf [] [(0, 10)] σ).ut (by decide) _) (by decide) (by decide) h8, py_tr_fr ((py_fr.rf [] [(0, 10)] σ).ut (by decide) _) (by decide) h9, py_cr_fr ((py_fr.rf [] [(0, 10)] σ).ut (by decide) _) (by decide) h10⟩
        rw [py_up_s]
        unfold nq_copy
        (repeat' split) <;> first | rfl | omega
      · refine go_aload_n (pc := 36) dX7_copy_36 rfl ?_
        refine go_getR (pc := 37) dX7_copy_37 fX7_10 rfl rfl ?_
        refine go_iload_n (pc := 40) dX7_copy_40 rfl ?_
        refine go_cV (pc := 41) dX7_copy_41 (ev_isMissing hb hRb.2.1 hRb.1) lX7_79 YX4_isMissing VX4_isMissing rfl rfl rfl (by decide) rfl (Nat.le_of_ble_eq_true rfl) ?_
        refine go_if_eqB (tgt := 53) (pc := 44) dX7_copy_44 (by decide) (fun c_44 => ?_) (fun c_44 => ?_)
        · refine go_aload_n (pc := 53) dX7_copy_53 rfl ?_
          refine go_getR (pc := 54) dX7_copy_54 fX7_10 rfl rfl ?_
          refine go_iload_n (pc := 57) dX7_copy_57 rfl ?_
          refine go_iload_n (pc := 58) dX7_copy_58 rfl ?_
          refine go_cV (pc := 59) dX7_copy_59 (ev_areOfOneLane ha hb hRa.2.1 hRa.1 hRb.2.1 hRb.1) lX7_90 YX4_areOfOneLane VX4_areOfOneLane rfl rfl rfl (by decide) rfl (Nat.le_of_ble_eq_true rfl) ?_
          have hMa := hRa.2.2 (by omega)
          have hMb := hRb.2.2 (by omega)
          refine go_if_neB (tgt := 71) (pc := 62) dX7_copy_62 (by decide) (fun c_62 => ?_) (fun c_62 => ?_)
          · refine go_aload_n (pc := 71) dX7_copy_71 rfl ?_
            refine go_getR (pc := 72) dX7_copy_72 fX7_10 rfl rfl ?_
            refine go_iload_n (pc := 75) dX7_copy_75 rfl ?_
            refine go_iload_n (pc := 76) dX7_copy_76 rfl ?_
            refine go_iload (pc := 77) dX7_copy_77 rfl ?_
            refine go_cV (pc := 79) dX7_copy_79 (ev_hasPlaces ha hMa.2.1 hMa.1) lX7_82 YX4_hasPlaces VX4_hasPlaces rfl rfl rfl (by decide) rfl (Nat.le_of_ble_eq_true rfl) ?_
            refine go_if_eqB (tgt := 100) (pc := 82) dX7_copy_82 (by decide) (fun c_82 => ?_) (fun c_82 => ?_)
            · refine go_aload_n (pc := 100) dX7_copy_100 rfl ?_
              refine go_iconst (v := nI 2) (pc := 101) dX7_copy_101 (by decide) ?_
              refine go_cVi (pc := 102) dX7_copy_102 ev_found lX7_68 YX7_found VX7_found rfl rfl rfl (by decide) rfl (Nat.le_of_ble_eq_true rfl) (fun sf ef => ?_)
              have e1 : nr_copy R ((nI a)) ((xi)) ((nI b)) ((xj)) ((xn)) = R := by unfold nr_copy; rw [if_neg (by omega)]
              subst ef
              refine go_retI (pc := 105) dX7_copy_105 (by unfold an_copy; (repeat' split) <;> first | rfl | omega) ⟨?_, ((py_fr.rf [] [(0, 10)] σ).ut (by decide) _).wd (by decide) (by decide)⟩
              rw [e1]
              refine ⟨py_rc_fr ((py_fr.rf [] [(0, 10)] σ).ut (by decide) _) (by decide) h1, ?_, py_tc_fr ((py_fr.rf [] [(0, 10)] σ).ut (by decide) _) (by decide) (by decide) (by decide) (by decide) h3, (by rw [((py_fr.rf [] [(0, 10)] σ).ut (by decide) _) 0 9 (by decide) (by decide)]; exact h4), py_hc_fr ((py_fr.rf [] [(0, 10)] σ).ut (by decide) _) (by decide) (by decide) h5, py_ac_fr ((py_fr.rf [] [(0, 10)] σ).ut (by decide) _) (by decide) h6, py_im_fr ((py_fr.rf [] [(0, 10)] σ).ut (by decide) _) (by decide) (by decide) h7, py_im_fr ((py_fr.rf [] [(0, 10)] σ).ut (by decide) _) (by decide) (by decide) h8, py_tr_fr ((py_fr.rf [] [(0, 10)] σ).ut (by decide) _) (by decide) h9, py_cr_fr ((py_fr.rf [] [(0, 10)] σ).ut (by decide) _) (by decide) h10⟩
              rw [py_up_s]
              unfold nq_copy
              (repeat' split) <;> first | rfl | omega
            · refine go_aload_n (pc := 85) dX7_copy_85 rfl ?_
              refine go_getR (pc := 86) dX7_copy_86 fX7_10 rfl rfl ?_
              refine go_iload_n (pc := 89) dX7_copy_89 rfl ?_
              refine go_iload (pc := 90) dX7_copy_90 rfl ?_
              refine go_iload (pc := 92) dX7_copy_92 rfl ?_
              refine go_cV (pc := 94) dX7_copy_94 (ev_hasPlaces hb hMb.2.1 hMb.1) lX7_82 YX4_hasPlaces VX4_hasPlaces rfl rfl rfl (by decide) rfl (Nat.le_of_ble_eq_true rfl) ?_
              refine go_if_neB (tgt := 106) (pc := 97) dX7_copy_97 (by decide) (fun c_97 => ?_) (fun c_97 => ?_)
              · obtain ⟨i, rfl, hi0, hi, hiI, hiC⟩ := py_rg_of (x := xi) (a := 0) (b := 40) ⟨by omega, by omega⟩
                obtain ⟨j, rfl, hj0, hj, hjI, hjC⟩ := py_rg_of (x := xj) (a := 0) (b := 40) ⟨by omega, by omega⟩
                obtain ⟨m, rfl, hm0, hm, hmI, hmC⟩ := py_rg_of (x := xn) (a := 0) (b := 40) ⟨by omega, by omega⟩
                refine go_aload_n (pc := 106) dX7_copy_106 rfl ?_
                refine go_getR (pc := 107) dX7_copy_107 fX7_10 rfl rfl ?_
                refine go_iload_n (pc := 110) dX7_copy_110 rfl ?_
                refine go_iload_n (pc := 111) dX7_copy_111 rfl ?_
                refine go_iload_n (pc := 112) dX7_copy_112 rfl ?_
                refine go_iload (pc := 113) dX7_copy_113 rfl ?_
                refine go_iload (pc := 115) dX7_copy_115 rfl ?_
                refine go_cVv (pc := 117) dX7_copy_117 (ev_move ha hb (by omega) (by omega)) lX7_94 YX4_move VX4_move rfl rfl rfl (by decide) rfl (Nat.le_of_ble_eq_true rfl) (fun s1 e1 => ?_)
                refine go_aload_n (pc := 120) dX7_copy_120 rfl ?_
                refine go_iload (pc := 121) dX7_copy_121 rfl ?_
                refine go_cVi (pc := 123) dX7_copy_123 ev_foundNothing lX7_76 YX7_foundNothing VX7_foundNothing rfl rfl rfl (by decide) rfl (Nat.le_of_ble_eq_true rfl) (fun sf ef => ?_)
                subst e1
                subst ef
                have en : nr_copy R (nI a) (nI i) (nI b) (nI j) (nI m) = (R.1, R.2.1, va_cpy R.2.2 R.2.2 (40 * a + i) (40 * b + j) m) := by unfold nr_copy; rw [if_pos (by unfold py_cpok; omega), haC, hiC, hbC, hjC, hmC]
                have hf : py_fr [2] [(0, 10)] σ (py_up (py_row σ 2 (va_cpy (σ 2) (σ 2) (a * 40 + i) (b * 40 + j) m)) 0 10 (nI 0)) := ((py_fr.rf [2] [(0, 10)] σ).row (by decide) _).ut (by decide) _
                refine go_retI (pc := 126) dX7_copy_126 (by unfold an_copy; rw [if_pos (by omega), if_neg (by omega), if_pos (by omega), if_pos (by omega)]) ⟨?_, hf.wd (by decide) (by decide)⟩
                rw [en]
                refine ⟨py_rc_copy ha hb h1 (by omega) (by omega) (show i + m ≤ R.2.1 a by omega) (show j + m ≤ R.2.1 b by omega) ?_ ?_ ?_, ?_, py_tc_fr hf (by decide) (by decide) (by decide) (by decide) h3, (by rw [hf 0 9 (by decide) (by decide)]; exact h4), py_hc_fr hf (by decide) (by decide) h5, py_ac_fr hf (by decide) h6, py_im_fr hf (by decide) (by decide) h7, py_im_fr hf (by decide) (by decide) h8, py_tr_fr hf (by decide) h9, py_cr_fr hf (by decide) h10⟩
                · rw [py_up_k _ _ _ (by decide), py_row_ne _ _ (by decide)]
                · rw [py_up_k _ _ _ (by decide), py_row_ne _ _ (by decide)]
                · rw [py_up_k _ _ _ (by decide), py_row_self]
                · rw [py_up_s]; unfold nq_copy; rw [if_pos (by omega), if_neg (by omega), if_pos (by omega), if_pos (by omega)]
              · refine go_aload_n (pc := 100) dX7_copy_100 rfl ?_
                refine go_iconst (v := nI 2) (pc := 101) dX7_copy_101 (by decide) ?_
                refine go_cVi (pc := 102) dX7_copy_102 ev_found lX7_68 YX7_found VX7_found rfl rfl rfl (by decide) rfl (Nat.le_of_ble_eq_true rfl) (fun sf ef => ?_)
                have e1 : nr_copy R ((nI a)) ((xi)) ((nI b)) ((xj)) ((xn)) = R := by unfold nr_copy; rw [if_neg (by omega)]
                subst ef
                refine go_retI (pc := 105) dX7_copy_105 (by unfold an_copy; (repeat' split) <;> first | rfl | omega) ⟨?_, ((py_fr.rf [] [(0, 10)] σ).ut (by decide) _).wd (by decide) (by decide)⟩
                rw [e1]
                refine ⟨py_rc_fr ((py_fr.rf [] [(0, 10)] σ).ut (by decide) _) (by decide) h1, ?_, py_tc_fr ((py_fr.rf [] [(0, 10)] σ).ut (by decide) _) (by decide) (by decide) (by decide) (by decide) h3, (by rw [((py_fr.rf [] [(0, 10)] σ).ut (by decide) _) 0 9 (by decide) (by decide)]; exact h4), py_hc_fr ((py_fr.rf [] [(0, 10)] σ).ut (by decide) _) (by decide) (by decide) h5, py_ac_fr ((py_fr.rf [] [(0, 10)] σ).ut (by decide) _) (by decide) h6, py_im_fr ((py_fr.rf [] [(0, 10)] σ).ut (by decide) _) (by decide) (by decide) h7, py_im_fr ((py_fr.rf [] [(0, 10)] σ).ut (by decide) _) (by decide) (by decide) h8, py_tr_fr ((py_fr.rf [] [(0, 10)] σ).ut (by decide) _) (by decide) h9, py_cr_fr ((py_fr.rf [] [(0, 10)] σ).ut (by decide) _) (by decide) h10⟩
                rw [py_up_s]
                unfold nq_copy
                (repeat' split) <;> first | rfl | omega
          · refine go_aload_n (pc := 65) dX7_copy_65 rfl ?_
            refine go_iconst (v := nI 5) (pc := 66) dX7_copy_66 (by decide) ?_
            refine go_cVi (pc := 67) dX7_copy_67 ev_found lX7_68 YX7_found VX7_found rfl rfl rfl (by decide) rfl (Nat.le_of_ble_eq_true rfl) (fun sf ef => ?_)
            have e1 : nr_copy R ((nI a)) ((xi)) ((nI b)) ((xj)) ((xn)) = R := by unfold nr_copy; rw [if_neg (by omega)]
            subst ef
            refine go_retI (pc := 70) dX7_copy_70 (by unfold an_copy; (repeat' split) <;> first | rfl | omega) ⟨?_, ((py_fr.rf [] [(0, 10)] σ).ut (by decide) _).wd (by decide) (by decide)⟩
            rw [e1]
            refine ⟨py_rc_fr ((py_fr.rf [] [(0, 10)] σ).ut (by decide) _) (by decide) h1, ?_, py_tc_fr ((py_fr.rf [] [(0, 10)] σ).ut (by decide) _) (by decide) (by decide) (by decide) (by decide) h3, (by rw [((py_fr.rf [] [(0, 10)] σ).ut (by decide) _) 0 9 (by decide) (by decide)]; exact h4), py_hc_fr ((py_fr.rf [] [(0, 10)] σ).ut (by decide) _) (by decide) (by decide) h5, py_ac_fr ((py_fr.rf [] [(0, 10)] σ).ut (by decide) _) (by decide) h6, py_im_fr ((py_fr.rf [] [(0, 10)] σ).ut (by decide) _) (by decide) (by decide) h7, py_im_fr ((py_fr.rf [] [(0, 10)] σ).ut (by decide) _) (by decide) (by decide) h8, py_tr_fr ((py_fr.rf [] [(0, 10)] σ).ut (by decide) _) (by decide) h9, py_cr_fr ((py_fr.rf [] [(0, 10)] σ).ut (by decide) _) (by decide) h10⟩
            rw [py_up_s]
            unfold nq_copy
            (repeat' split) <;> first | rfl | omega
        · refine go_aload_n (pc := 47) dX7_copy_47 rfl ?_
          refine go_iconst (v := nI 1) (pc := 48) dX7_copy_48 (by decide) ?_
          refine go_cVi (pc := 49) dX7_copy_49 ev_found lX7_68 YX7_found VX7_found rfl rfl rfl (by decide) rfl (Nat.le_of_ble_eq_true rfl) (fun sf ef => ?_)
          have e1 : nr_copy R ((nI a)) ((xi)) ((nI b)) ((xj)) ((xn)) = R := by unfold nr_copy; rw [if_neg (by omega)]
          subst ef
          refine go_retI (pc := 52) dX7_copy_52 (by unfold an_copy; (repeat' split) <;> first | rfl | omega) ⟨?_, ((py_fr.rf [] [(0, 10)] σ).ut (by decide) _).wd (by decide) (by decide)⟩
          rw [e1]
          refine ⟨py_rc_fr ((py_fr.rf [] [(0, 10)] σ).ut (by decide) _) (by decide) h1, ?_, py_tc_fr ((py_fr.rf [] [(0, 10)] σ).ut (by decide) _) (by decide) (by decide) (by decide) (by decide) h3, (by rw [((py_fr.rf [] [(0, 10)] σ).ut (by decide) _) 0 9 (by decide) (by decide)]; exact h4), py_hc_fr ((py_fr.rf [] [(0, 10)] σ).ut (by decide) _) (by decide) (by decide) h5, py_ac_fr ((py_fr.rf [] [(0, 10)] σ).ut (by decide) _) (by decide) h6, py_im_fr ((py_fr.rf [] [(0, 10)] σ).ut (by decide) _) (by decide) (by decide) h7, py_im_fr ((py_fr.rf [] [(0, 10)] σ).ut (by decide) _) (by decide) (by decide) h8, py_tr_fr ((py_fr.rf [] [(0, 10)] σ).ut (by decide) _) (by decide) h9, py_cr_fr ((py_fr.rf [] [(0, 10)] σ).ut (by decide) _) (by decide) h10⟩
          rw [py_up_s]
          unfold nq_copy
          (repeat' split) <;> first | rfl | omega
    · refine go_ldc (pc := 22) dX7_copy_22 kX7_67 ?_
      have e1 : nr_copy R ((nI a)) ((xi)) ((xb)) ((xj)) ((xn)) = R := by unfold nr_copy; rw [if_neg (by omega)]
      have e2 : nq_copy R q ((nI a)) ((xi)) ((xb)) ((xj)) ((xn)) = q := by unfold nq_copy; (repeat' split) <;> first | rfl | omega
      exact go_retI (pc := 24) dX7_copy_24 (by unfold an_copy; (repeat' split) <;> first | rfl | omega) ⟨by rw [e1, e2]; exact hI, py_fr.rf _ _ σ⟩
