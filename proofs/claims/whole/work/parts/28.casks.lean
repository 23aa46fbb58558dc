/-! contracts: the class's public methods: what is asked and foretold -/
theorem py_whI_lt {H : Nat → Nat} (h : py_whI H (H 12) ≠ -1000000) : py_sn H (H 12) < 100 ∧ py_whI H (H 12) = nI (py_wh H (H 12)) ∧ py_wh H (H 12) < H 12 ∧ py_dyI H (py_wh H (H 12)) = nI (py_sn H (H 12)) := by
  unfold py_whI at h ⊢
  by_cases h1 : py_sn H (H 12) < 100
  · have h2 := (py_sn_spec H (H 12)).2 h1
    refine ⟨h1, if_pos h1, h2.1, ?_⟩
    unfold py_dyI
    rw [h2.2.2.1, if_pos h1]
  · rw [if_neg h1] at h
    exact absurd rfl h
theorem py_whI_eq {H : Nat → Nat} (h5 : H 12 ≤ 5) (h : py_whI H (H 12) = -1000000) : ¬ py_sn H (H 12) < 100 := by
  intro h1
  unfold py_whI at h
  rw [if_pos h1] at h
  have h2 := (py_sn_spec H (H 12)).2 h1
  have h3 := congrArg Int32.toInt h
  rw [nI_toInt (by omega)] at h3
  have h4 : (-1000000 : Int32).toInt = -1000000 := by decide
  omega
set_option maxHeartbeats 4000000 in
set_option maxRecDepth 100000 in
theorem cl_fault {X : py_X} {σ : py_H} {R : py_Rt} {q : Int32} {B : Nat → Nat} {N : Nat} {ft : Int32} {H : Nat → Nat} {n : Nat} {As : Nat → Nat → Nat} {I0 I1 : Option (Nat → Nat)} {t : Nat} {tr : Nat → Int32} (hI : py_IC σ R q B N ft H n As I0 I1 t tr) (hW : py_IW H n As I0 I1 t) : py_Ev X 0 yX7_fault cX7_fault 1 (some .int) [.ref 0] σ (py_vs (some (.int (ft))) (fun s => py_IC s R q B N ft H n As I0 I1 t tr ∧ py_fr py_SC [] σ s)) := by
  obtain ⟨h1, h2, h3, h4, h5, h6, h7, h8, h9, h10⟩ := id hI
  obtain ⟨hw, hA, hJ0, hJ1, ht16⟩ := id hW
  obtain ⟨w0, w1, w2, w3, w12, w03, w00, wW, wP, wR⟩ := id hw
  have hc := h5.2
  refine py_ofI (own := RX7) YX7_fault.2.2.2.2 rfl rfl (Nat.le_of_ble_eq_true rfl)  ?_
  show py_Go X RX7 cX7_fault 1 0 0 [some (.ref 0)] [] σ (py_vs (some (.int (ft))) (fun s => py_IC s R q B N ft H n As I0 I1 t tr ∧ py_fr py_SC [] σ s))
  refine go_aload_n (pc := 0) dX7_fault_0 rfl ?_
  refine go_getI (x := (ft)) (pc := 1) dX7_fault_1 fX7_122 rfl rfl h4 ?_
  exact go_retI (pc := 4) dX7_fault_4 rfl ⟨hI, py_fr.rf _ _ σ⟩
set_option maxHeartbeats 4000000 in
set_option maxRecDepth 100000 in
theorem cl_status {X : py_X} {σ : py_H} {R : py_Rt} {q : Int32} {B : Nat → Nat} {N : Nat} {ft : Int32} {H : Nat → Nat} {n : Nat} {As : Nat → Nat → Nat} {I0 I1 : Option (Nat → Nat)} {t : Nat} {tr : Nat → Int32} (hI : py_IC σ R q B N ft H n As I0 I1 t tr) (hW : py_IW H n As I0 I1 t) : py_Ev X 0 yX7_status cX7_status 1 (some .int) [.ref 0] σ (py_vs (some (.int (q))) (fun s => py_IC s R q B N ft H n As I0 I1 t tr ∧ py_fr py_SC [] σ s)) := by
  obtain ⟨h1, h2, h3, h4, h5, h6, h7, h8, h9, h10⟩ := id hI
  obtain ⟨hw, hA, hJ0, hJ1, ht16⟩ := id hW
  obtain ⟨w0, w1, w2, w3, w12, w03, w00, wW, wP, wR⟩ := id hw
  have hc := h5.2
  refine py_ofI (own := RX7) YX7_status.2.2.2.2 rfl rfl (Nat.le_of_ble_eq_true rfl)  ?_
  show py_Go X RX7 cX7_status 1 0 0 [some (.ref 0)] [] σ (py_vs (some (.int (q))) (fun s => py_IC s R q B N ft H n As I0 I1 t tr ∧ py_fr py_SC [] σ s))
  refine go_aload_n (pc := 0) dX7_status_0 rfl ?_
  refine go_getI (x := (q)) (pc := 1) dX7_status_1 fX7_319 rfl rfl h2 ?_
  exact go_retI (pc := 4) dX7_status_4 rfl ⟨hI, py_fr.rf _ _ σ⟩
set_option maxHeartbeats 4000000 in
set_option maxRecDepth 100000 in
theorem cl_picture {X : py_X} {σ : py_H} {R : py_Rt} {q : Int32} {B : Nat → Nat} {N : Nat} {ft : Int32} {H : Nat → Nat} {n : Nat} {As : Nat → Nat → Nat} {I0 I1 : Option (Nat → Nat)} {t : Nat} {tr : Nat → Int32} (hI : py_IC σ R q B N ft H n As I0 I1 t tr) (hW : py_IW H n As I0 I1 t) {x y : Int32} : py_Ev X 5 yX7_picture cX7_picture 3 (some .int) [.ref 0, .int (x), .int (y)] σ (py_vs (some (.int (an_picture H x y))) (fun s => py_IC s R q B N ft H n As I0 I1 t tr ∧ py_fr py_SC [] σ s)) := by
  obtain ⟨h1, h2, h3, h4, h5, h6, h7, h8, h9, h10⟩ := id hI
  obtain ⟨hw, hA, hJ0, hJ1, ht16⟩ := id hW
  obtain ⟨w0, w1, w2, w3, w12, w03, w00, wW, wP, wR⟩ := id hw
  have hc := h5.2
  refine py_ofI (own := RX7) YX7_picture.2.2.2.2 rfl rfl (Nat.le_of_ble_eq_true rfl)  ?_
  show py_Go X RX7 cX7_picture 3 5 0 [some (.ref 0), some (.int (x)), some (.int (y))] [] σ (py_vs (some (.int (an_picture H x y))) (fun s => py_IC s R q B N ft H n As I0 I1 t tr ∧ py_fr py_SC [] σ s))
  refine go_aload_n (pc := 0) dX7_picture_0 rfl ?_
  refine go_getR (pc := 1) dX7_picture_1 fX7_26 rfl rfl ?_
  refine go_iload_n (pc := 4) dX7_picture_4 rfl ?_
  refine go_cV (pc := 5) dX7_picture_5 (ev_hasPicture (Or.inl rfl) hc.2.2.2.2.1 w12) lX7_157 YX2_hasPicture VX2_hasPicture rfl rfl rfl (by decide) rfl (Nat.le_of_ble_eq_true rfl) ?_
  refine go_if_neB (tgt := 14) (pc := 8) dX7_picture_8 (by decide) (fun c_8 => ?_) (fun c_8 => ?_)
  · obtain ⟨p, rfl, hp, hpI, hpC⟩ := py_pi_of (x := x) c_8
    have hcl : H (15 + 4 * p) ≤ 60 := (wP p hp).2.2.2.2.1
    refine go_iload_n (pc := 14) dX7_picture_14 rfl ?_
    rcases (show (y).toInt = 0 ∨ (y).toInt = 1 ∨ (y).toInt = 2 ∨ (y).toInt = 3 ∨ (y).toInt = 4 ∨ (y).toInt < 0 ∨ 4 < (y).toInt by omega) with hk | hk | hk | hk | hk | hk
    · refine go_swIn (off := 33) (pc := 15) (tgt := 48) dX7_picture_15 (by omega) (by omega) (by rw [hk]; rfl) (by decide) ?_
      refine go_aload_n (pc := 48) dX7_picture_48 rfl ?_
      refine go_getR (pc := 49) dX7_picture_49 fX7_26 rfl rfl ?_
      refine go_getR (pc := 52) dX7_picture_52 fX7_191 rfl rfl ?_
      refine go_iload_n (pc := 55) dX7_picture_55 rfl ?_
      refine go_aldN (x := (nI (H (14 + 4 * p)))) (pc := 56) dX7_picture_56 rfl (by show p < 5; omega) (hc.2.2.2.2.2.2 p hp).2.1 ?_
      exact go_retI (pc := 57) dX7_picture_57 (by unfold an_picture; (try simp only [hpC]); (repeat' split) <;> first | rfl | omega) ⟨hI, py_fr.rf _ _ σ⟩
    · refine go_swIn (off := 43) (pc := 15) (tgt := 58) dX7_picture_15 (by omega) (by omega) (by rw [hk]; rfl) (by decide) ?_
      refine go_aload_n (pc := 58) dX7_picture_58 rfl ?_
      refine go_getR (pc := 59) dX7_picture_59 fX7_26 rfl rfl ?_
      refine go_getR (pc := 62) dX7_picture_62 fX7_160 rfl rfl ?_
      refine go_iload_n (pc := 65) dX7_picture_65 rfl ?_
      refine go_aldN (x := (nI (H (15 + 4 * p)))) (pc := 66) dX7_picture_66 rfl (by show p < 5; omega) (hc.2.2.2.2.2.2 p hp).2.2.1 ?_
      exact go_retI (pc := 67) dX7_picture_67 (by unfold an_picture; (try simp only [hpC]); (repeat' split) <;> first | rfl | omega) ⟨hI, py_fr.rf _ _ σ⟩
    · refine go_swIn (off := 53) (pc := 15) (tgt := 68) dX7_picture_15 (by omega) (by omega) (by rw [hk]; rfl) (by decide) ?_
      refine go_aload_n (pc := 68) dX7_picture_68 rfl ?_
      refine go_getR (pc := 69) dX7_picture_69 fX7_26 rfl rfl ?_
      refine go_getR (pc := 72) dX7_picture_72 fX7_179 rfl rfl ?_
      refine go_iload_n (pc := 75) dX7_picture_75 rfl ?_
      refine go_aldN (x := (nI (H (16 + 4 * p)))) (pc := 76) dX7_picture_76 rfl (by show p < 5; omega) (hc.2.2.2.2.2.2 p hp).2.2.2 ?_
      exact go_retI (pc := 77) dX7_picture_77 (by unfold an_picture; (try simp only [hpC]); (repeat' split) <;> first | rfl | omega) ⟨hI, py_fr.rf _ _ σ⟩
    · refine go_swIn (off := 63) (pc := 15) (tgt := 78) dX7_picture_15 (by omega) (by omega) (by rw [hk]; rfl) (by decide) ?_
      refine go_aload_n (pc := 78) dX7_picture_78 rfl ?_
      refine go_getR (pc := 79) dX7_picture_79 fX7_26 rfl rfl ?_
      refine go_getR (pc := 82) dX7_picture_82 fX7_160 rfl rfl ?_
      refine go_iload_n (pc := 85) dX7_picture_85 rfl ?_
      refine go_aldN (x := (nI (H (15 + 4 * p)))) (pc := 86) dX7_picture_86 rfl (by show p < 5; omega) (hc.2.2.2.2.2.2 p hp).2.2.1 ?_
      refine go_if_leN (tgt := 94) (pc := 87) dX7_picture_87 (by omega) (by decide) (fun c_87 => ?_) (fun c_87 => ?_)
      · refine go_iconst (v := nI 0) (pc := 94) dX7_picture_94 (by decide) ?_
        exact go_retI (pc := 95) dX7_picture_95 (by unfold an_picture; (try simp only [hpC]); (repeat' split) <;> first | rfl | omega) ⟨hI, py_fr.rf _ _ σ⟩
      · refine go_iconst (v := nI 1) (pc := 90) dX7_picture_90 (by decide) ?_
        refine go_goto (tgt := 95) (pc := 91) dX7_picture_91 (by decide) ?_
        exact go_retI (pc := 95) dX7_picture_95 (by unfold an_picture; (try simp only [hpC]); (repeat' split) <;> first | rfl | omega) ⟨hI, py_fr.rf _ _ σ⟩
    · refine go_swIn (off := 81) (pc := 15) (tgt := 96) dX7_picture_15 (by omega) (by omega) (by rw [hk]; rfl) (by decide) ?_
      refine go_aload_n (pc := 96) dX7_picture_96 rfl ?_
      refine go_getR (pc := 97) dX7_picture_97 fX7_49 rfl rfl ?_
      refine go_aload_n (pc := 100) dX7_picture_100 rfl ?_
      refine go_getR (pc := 101) dX7_picture_101 fX7_26 rfl rfl ?_
      refine go_iload_n (pc := 104) dX7_picture_104 rfl ?_
      refine go_cVi (pc := 105) dX7_picture_105 (ev_fadesNow hc hw hp) lX7_194 YX5_fadesNow VX5_fadesNow rfl rfl rfl (by decide) rfl (Nat.le_of_ble_eq_true rfl) (fun s1 hf => ?_)
      exact go_retI (pc := 108) dX7_picture_108 (by unfold an_picture; (try simp only [hpC]); (repeat' split) <;> first | rfl | omega) ⟨⟨py_rc_fr hf (by decide) h1, (by rw [hf 0 10 (by decide) (by decide)]; exact h2), py_tc_fr hf (by decide) (by decide) (by decide) (by decide) h3, (by rw [hf 0 9 (by decide) (by decide)]; exact h4), py_hc_fr hf (by decide) (by decide) h5, py_ac_fr hf (by decide) h6, py_im_fr hf (by decide) (by decide) h7, py_im_fr hf (by decide) (by decide) h8, py_tr_fr hf (by decide) h9, py_cr_fr hf (by decide) h10⟩, hf.wd (by decide) (by decide)⟩
    · refine go_swOut (pc := 15) (tgt := 109) dX7_picture_15 hk (by decide) ?_
      refine go_ldc (pc := 109) dX7_picture_109 kX7_67 ?_
      exact go_retI (pc := 111) dX7_picture_111 (by unfold an_picture; (repeat' split) <;> first | rfl | omega) ⟨hI, py_fr.rf _ _ σ⟩
  · refine go_ldc (pc := 11) dX7_picture_11 kX7_67 ?_
    exact go_retI (pc := 13) dX7_picture_13 (by unfold an_picture; (repeat' split) <;> first | rfl | omega) ⟨hI, py_fr.rf _ _ σ⟩
set_option maxHeartbeats 4000000 in
set_option maxRecDepth 100000 in
theorem cl_wall {X : py_X} {σ : py_H} {R : py_Rt} {q : Int32} {B : Nat → Nat} {N : Nat} {ft : Int32} {H : Nat → Nat} {n : Nat} {As : Nat → Nat → Nat} {I0 I1 : Option (Nat → Nat)} {t : Nat} {tr : Nat → Int32} (hI : py_IC σ R q B N ft H n As I0 I1 t tr) (hW : py_IW H n As I0 I1 t) {x y : Int32} : py_Ev X 2 yX7_wall cX7_wall 3 (some .int) [.ref 0, .int (x), .int (y)] σ (py_vs (some (.int (an_wall H x y))) (fun s => py_IC s R q B N ft H n As I0 I1 t tr ∧ py_fr py_SC [] σ s)) := by
  obtain ⟨h1, h2, h3, h4, h5, h6, h7, h8, h9, h10⟩ := id hI
  obtain ⟨hw, hA, hJ0, hJ1, ht16⟩ := id hW
  obtain ⟨w0, w1, w2, w3, w12, w03, w00, wW, wP, wR⟩ := id hw
  have hc := h5.2
  refine py_ofI (own := RX7) YX7_wall.2.2.2.2 rfl rfl (Nat.le_of_ble_eq_true rfl)  ?_
  show py_Go X RX7 cX7_wall 3 2 0 [some (.ref 0), some (.int (x)), some (.int (y))] [] σ (py_vs (some (.int (an_wall H x y))) (fun s => py_IC s R q B N ft H n As I0 I1 t tr ∧ py_fr py_SC [] σ s))
  refine go_aload_n (pc := 0) dX7_wall_0 rfl ?_
  refine go_getR (pc := 1) dX7_wall_1 fX7_26 rfl rfl ?_
  refine go_iload_n (pc := 4) dX7_wall_4 rfl ?_
  refine go_cV (pc := 5) dX7_wall_5 (ev_hasWall (Or.inl rfl) hc.2.2.2.1 (by omega)) lX7_176 YX2_hasWall VX2_hasWall rfl rfl rfl (by decide) rfl (Nat.le_of_ble_eq_true rfl) ?_
  refine go_if_neB (tgt := 14) (pc := 8) dX7_wall_8 (by decide) (fun c_8 => ?_) (fun c_8 => ?_)
  · obtain ⟨a, rfl, ha, haI, haC⟩ := py_pi_of (x := x) c_8
    refine go_iload_n (pc := 14) dX7_wall_14 rfl ?_
    rcases (show (y).toInt = 0 ∨ (y).toInt = 1 ∨ (y).toInt = 2 ∨ (y).toInt < 0 ∨ 2 < (y).toInt by omega) with hk | hk | hk | hk
    · refine go_swIn (off := 25) (pc := 15) (tgt := 40) dX7_wall_15 (by omega) (by omega) (by rw [hk]; rfl) (by decide) ?_
      refine go_aload_n (pc := 40) dX7_wall_40 rfl ?_
      refine go_getR (pc := 41) dX7_wall_41 fX7_26 rfl rfl ?_
      refine go_getR (pc := 44) dX7_wall_44 fX7_198 rfl rfl ?_
      refine go_iload_n (pc := 47) dX7_wall_47 rfl ?_
      refine go_aldN (x := (nI (H (4 + 2 * a)))) (pc := 48) dX7_wall_48 rfl (by show a < 4; omega) (hc.2.2.2.2.2.1 a ha).1 ?_
      exact go_retI (pc := 49) dX7_wall_49 (by unfold an_wall; (try simp only [haC]); (repeat' split) <;> first | rfl | omega) ⟨hI, py_fr.rf _ _ σ⟩
    · refine go_swIn (off := 35) (pc := 15) (tgt := 50) dX7_wall_15 (by omega) (by omega) (by rw [hk]; rfl) (by decide) ?_
      refine go_aload_n (pc := 50) dX7_wall_50 rfl ?_
      refine go_getR (pc := 51) dX7_wall_51 fX7_26 rfl rfl ?_
      refine go_getR (pc := 54) dX7_wall_54 fX7_201 rfl rfl ?_
      refine go_iload_n (pc := 57) dX7_wall_57 rfl ?_
      refine go_aldN (x := (nI (H (5 + 2 * a)))) (pc := 58) dX7_wall_58 rfl (by show a < 4; omega) (hc.2.2.2.2.2.1 a ha).2 ?_
      exact go_retI (pc := 59) dX7_wall_59 (by unfold an_wall; (try simp only [haC]); (repeat' split) <;> first | rfl | omega) ⟨hI, py_fr.rf _ _ σ⟩
    · refine go_swIn (off := 45) (pc := 15) (tgt := 60) dX7_wall_15 (by omega) (by omega) (by rw [hk]; rfl) (by decide) ?_
      refine go_aload_n (pc := 60) dX7_wall_60 rfl ?_
      refine go_getR (pc := 61) dX7_wall_61 fX7_26 rfl rfl ?_
      refine go_iload_n (pc := 64) dX7_wall_64 rfl ?_
      refine go_cV (pc := 65) dX7_wall_65 (ev_hungOn (Or.inl rfl) hc.2.2.2.2.1 w12 (fun p hp => ⟨(hc.2.2.2.2.2.2 p hp).2.2.2, Nat.lt_of_lt_of_le (wP p hp).2.2.2.2.2 w3⟩) (by omega)) lX7_204 YX2_hungOn VX2_hungOn rfl rfl rfl (by decide) rfl (Nat.le_of_ble_eq_true rfl) ?_
      exact go_retI (pc := 68) dX7_wall_68 (by unfold an_wall; (try simp only [haC]); (repeat' split) <;> first | rfl | omega) ⟨hI, py_fr.rf _ _ σ⟩
    · refine go_swOut (pc := 15) (tgt := 69) dX7_wall_15 hk (by decide) ?_
      refine go_ldc (pc := 69) dX7_wall_69 kX7_67 ?_
      exact go_retI (pc := 71) dX7_wall_71 (by unfold an_wall; (repeat' split) <;> first | rfl | omega) ⟨hI, py_fr.rf _ _ σ⟩
  · refine go_ldc (pc := 11) dX7_wall_11 kX7_67 ?_
    exact go_retI (pc := 13) dX7_wall_13 (by unfold an_wall; (repeat' split) <;> first | rfl | omega) ⟨hI, py_fr.rf _ _ σ⟩
set_option maxHeartbeats 4000000 in
set_option maxRecDepth 100000 in
theorem cl_remains {X : py_X} {σ : py_H} {R : py_Rt} {q : Int32} {B : Nat → Nat} {N : Nat} {ft : Int32} {H : Nat → Nat} {n : Nat} {As : Nat → Nat → Nat} {I0 I1 : Option (Nat → Nat)} {t : Nat} {tr : Nat → Int32} (hI : py_IC σ R q B N ft H n As I0 I1 t tr) (hW : py_IW H n As I0 I1 t) {x y : Int32} : py_Ev X 5 yX7_remains cX7_remains 3 (some .int) [.ref 0, .int (x), .int (y)] σ (py_vs (some (.int (an_remains H x y))) (fun s => py_IC s R q B N ft H n As I0 I1 t tr ∧ py_fr py_SC [] σ s)) := by
  obtain ⟨h1, h2, h3, h4, h5, h6, h7, h8, h9, h10⟩ := id hI
  obtain ⟨hw, hA, hJ0, hJ1, ht16⟩ := id hW
  obtain ⟨w0, w1, w2, w3, w12, w03, w00, wW, wP, wR⟩ := id hw
  have hc := h5.2
  refine py_ofI (own := RX7) YX7_remains.2.2.2.2 rfl rfl (Nat.le_of_ble_eq_true rfl)  ?_
  show py_Go X RX7 cX7_remains 3 5 0 [some (.ref 0), some (.int (x)), some (.int (y))] [] σ (py_vs (some (.int (an_remains H x y))) (fun s => py_IC s R q B N ft H n As I0 I1 t tr ∧ py_fr py_SC [] σ s))
  refine go_aload_n (pc := 0) dX7_remains_0 rfl ?_
  refine go_getR (pc := 1) dX7_remains_1 fX7_26 rfl rfl ?_
  refine go_iload_n (pc := 4) dX7_remains_4 rfl ?_
  refine go_cV (pc := 5) dX7_remains_5 (ev_hasPicture (Or.inl rfl) hc.2.2.2.2.1 w12) lX7_157 YX2_hasPicture VX2_hasPicture rfl rfl rfl (by decide) rfl (Nat.le_of_ble_eq_true rfl) ?_
  refine go_if_eqB (tgt := 18) (pc := 8) dX7_remains_8 (by decide) (fun c_8 => ?_) (fun c_8 => ?_)
  · refine go_ldc (pc := 18) dX7_remains_18 kX7_67 ?_
    exact go_retI (pc := 20) dX7_remains_20 (by unfold an_remains; (repeat' split) <;> first | rfl | omega) ⟨hI, py_fr.rf _ _ σ⟩
  · obtain ⟨p, rfl, hp, hpI, hpC⟩ := py_pi_of (x := x) c_8
    refine go_iload_n (pc := 11) dX7_remains_11 rfl ?_
    refine go_cS (pc := 12) dX7_remains_12 ev_isAhead lX7_207 YX7_isAhead SX7_isAhead rfl (by decide) rfl (Nat.le_of_ble_eq_true rfl) ?_
    refine go_if_neB (tgt := 21) (pc := 15) dX7_remains_15 (by decide) (fun c_15 => ?_) (fun c_15 => ?_)
    · obtain ⟨d, rfl, hd0, hd, hdI, hdC⟩ := py_rg_of (x := y) (a := 0) (b := 60) c_15
      refine go_aload_n (pc := 21) dX7_remains_21 rfl ?_
      refine go_getR (pc := 22) dX7_remains_22 fX7_49 rfl rfl ?_
      refine go_aload_n (pc := 25) dX7_remains_25 rfl ?_
      refine go_getR (pc := 26) dX7_remains_26 fX7_26 rfl rfl ?_
      refine go_iload_n (pc := 29) dX7_remains_29 rfl ?_
      refine go_iload_n (pc := 30) dX7_remains_30 rfl ?_
      refine go_cVi (pc := 31) dX7_remains_31 (ev_cellsB hc hw hp (by omega)) lX7_210 YX5_cellsBehind VX5_cellsBehind rfl rfl rfl (by decide) rfl (Nat.le_of_ble_eq_true rfl) (fun s1 hf => ?_)
      exact go_retI (pc := 34) dX7_remains_34 (by unfold an_remains; (try simp only [hpC, hdC]); (repeat' split) <;> first | rfl | omega) ⟨⟨py_rc_fr hf (by decide) h1, (by rw [hf 0 10 (by decide) (by decide)]; exact h2), py_tc_fr hf (by decide) (by decide) (by decide) (by decide) h3, (by rw [hf 0 9 (by decide) (by decide)]; exact h4), py_hc_fr hf (by decide) (by decide) h5, py_ac_fr hf (by decide) h6, py_im_fr hf (by decide) (by decide) h7, py_im_fr hf (by decide) (by decide) h8, py_tr_fr hf (by decide) h9, py_cr_fr hf (by decide) h10⟩, hf.wd (by decide) (by decide)⟩
    · refine go_ldc (pc := 18) dX7_remains_18 kX7_67 ?_
      exact go_retI (pc := 20) dX7_remains_20 (by unfold an_remains; (repeat' split) <;> first | rfl | omega) ⟨hI, py_fr.rf _ _ σ⟩
set_option maxHeartbeats 4000000 in
set_option maxRecDepth 100000 in
theorem cl_lives {X : py_X} {σ : py_H} {R : py_Rt} {q : Int32} {B : Nat → Nat} {N : Nat} {ft : Int32} {H : Nat → Nat} {n : Nat} {As : Nat → Nat → Nat} {I0 I1 : Option (Nat → Nat)} {t : Nat} {tr : Nat → Int32} (hI : py_IC σ R q B N ft H n As I0 I1 t tr) (hW : py_IW H n As I0 I1 t) {x : Int32} : py_Ev X 6 yX7_lives cX7_lives 2 (some .int) [.ref 0, .int (x)] σ (py_vs (some (.int (an_lives H x))) (fun s => py_IC s R q B N ft H n As I0 I1 t tr ∧ py_fr py_SC [] σ s)) := by
  obtain ⟨h1, h2, h3, h4, h5, h6, h7, h8, h9, h10⟩ := id hI
  obtain ⟨hw, hA, hJ0, hJ1, ht16⟩ := id hW
  obtain ⟨w0, w1, w2, w3, w12, w03, w00, wW, wP, wR⟩ := id hw
  have hc := h5.2
  refine py_ofI (own := RX7) YX7_lives.2.2.2.2 rfl rfl (Nat.le_of_ble_eq_true rfl)  ?_
  show py_Go X RX7 cX7_lives 2 6 0 [some (.ref 0), some (.int (x))] [] σ (py_vs (some (.int (an_lives H x))) (fun s => py_IC s R q B N ft H n As I0 I1 t tr ∧ py_fr py_SC [] σ s))
  refine go_aload_n (pc := 0) dX7_lives_0 rfl ?_
  refine go_getR (pc := 1) dX7_lives_1 fX7_26 rfl rfl ?_
  refine go_getI (x := (py_b (0 < H 0))) (pc := 4) dX7_lives_4 fX7_139 rfl rfl h5.1 ?_
  refine go_if_neB (tgt := 13) (pc := 7) dX7_lives_7 (by decide) (fun c_7 => ?_) (fun c_7 => ?_)
  · refine go_iload_n (pc := 13) dX7_lives_13 rfl ?_
    refine go_cS (pc := 14) dX7_lives_14 ev_isAhead lX7_207 YX7_isAhead SX7_isAhead rfl (by decide) rfl (Nat.le_of_ble_eq_true rfl) ?_
    refine go_if_eqB (tgt := 35) (pc := 17) dX7_lives_17 (by decide) (fun c_17 => ?_) (fun c_17 => ?_)
    · refine go_ldc (pc := 35) dX7_lives_35 kX7_67 ?_
      exact go_retI (pc := 37) dX7_lives_37 (by unfold an_lives; (repeat' split) <;> first | rfl | omega) ⟨hI, py_fr.rf _ _ σ⟩
    · obtain ⟨d, rfl, hd0, hd, hdI, hdC⟩ := py_rg_of (x := x) (a := 0) (b := 60) c_17
      refine go_aload_n (pc := 20) dX7_lives_20 rfl ?_
      refine go_getR (pc := 21) dX7_lives_21 fX7_49 rfl rfl ?_
      refine go_aload_n (pc := 24) dX7_lives_24 rfl ?_
      refine go_getR (pc := 25) dX7_lives_25 fX7_26 rfl rfl ?_
      refine go_iload_n (pc := 28) dX7_lives_28 rfl ?_
      refine go_cVi (pc := 29) dX7_lives_29 (ev_livingB hc hw (by omega)) lX7_214 YX5_livingBehind VX5_livingBehind rfl rfl rfl (by decide) rfl (Nat.le_of_ble_eq_true rfl) (fun s1 hf => ?_)
      refine go_goto (tgt := 37) (pc := 32) dX7_lives_32 (by decide) ?_
      exact go_retI (pc := 37) dX7_lives_37 (by unfold an_lives; (try simp only [hdC]); (repeat' split) <;> first | rfl | omega) ⟨⟨py_rc_fr hf (by decide) h1, (by rw [hf 0 10 (by decide) (by decide)]; exact h2), py_tc_fr hf (by decide) (by decide) (by decide) (by decide) h3, (by rw [hf 0 9 (by decide) (by decide)]; exact h4), py_hc_fr hf (by decide) (by decide) h5, py_ac_fr hf (by decide) h6, py_im_fr hf (by decide) (by decide) h7, py_im_fr hf (by decide) (by decide) h8, py_tr_fr hf (by decide) h9, py_cr_fr hf (by decide) h10⟩, hf.wd (by decide) (by decide)⟩
  · refine go_ldc (pc := 10) dX7_lives_10 kX7_143 ?_
    exact go_retI (pc := 12) dX7_lives_12 (by unfold an_lives; (repeat' split) <;> first | rfl | omega) ⟨hI, py_fr.rf _ _ σ⟩
set_option maxHeartbeats 4000000 in
set_option maxRecDepth 100000 in
theorem cl_dies {X : py_X} {σ : py_H} {R : py_Rt} {q : Int32} {B : Nat → Nat} {N : Nat} {ft : Int32} {H : Nat → Nat} {n : Nat} {As : Nat → Nat → Nat} {I0 I1 : Option (Nat → Nat)} {t : Nat} {tr : Nat → Int32} (hI : py_IC σ R q B N ft H n As I0 I1 t tr) (hW : py_IW H n As I0 I1 t) {x : Int32} : py_Ev X 5 yX7_dies cX7_dies 2 (some .int) [.ref 0, .int (x)] σ (py_vs (some (.int (an_dies H x))) (fun s => py_IC s R q B N ft H n As I0 I1 t tr ∧ py_fr py_SC [] σ s)) := by
  obtain ⟨h1, h2, h3, h4, h5, h6, h7, h8, h9, h10⟩ := id hI
  obtain ⟨hw, hA, hJ0, hJ1, ht16⟩ := id hW
  obtain ⟨w0, w1, w2, w3, w12, w03, w00, wW, wP, wR⟩ := id hw
  have hc := h5.2
  refine py_ofI (own := RX7) YX7_dies.2.2.2.2 rfl rfl (Nat.le_of_ble_eq_true rfl)  ?_
  show py_Go X RX7 cX7_dies 2 5 0 [some (.ref 0), some (.int (x))] [] σ (py_vs (some (.int (an_dies H x))) (fun s => py_IC s R q B N ft H n As I0 I1 t tr ∧ py_fr py_SC [] σ s))
  refine go_aload_n (pc := 0) dX7_dies_0 rfl ?_
  refine go_getR (pc := 1) dX7_dies_1 fX7_26 rfl rfl ?_
  refine go_iload_n (pc := 4) dX7_dies_4 rfl ?_
  refine go_cV (pc := 5) dX7_dies_5 (ev_hasPicture (Or.inl rfl) hc.2.2.2.2.1 w12) lX7_157 YX2_hasPicture VX2_hasPicture rfl rfl rfl (by decide) rfl (Nat.le_of_ble_eq_true rfl) ?_
  refine go_if_eqB (tgt := 26) (pc := 8) dX7_dies_8 (by decide) (fun c_8 => ?_) (fun c_8 => ?_)
  · refine go_ldc (pc := 26) dX7_dies_26 kX7_67 ?_
    exact go_retI (pc := 28) dX7_dies_28 (by unfold an_dies; (repeat' split) <;> first | rfl | omega) ⟨hI, py_fr.rf _ _ σ⟩
  · obtain ⟨p, rfl, hp, hpI, hpC⟩ := py_pi_of (x := x) c_8
    refine go_aload_n (pc := 11) dX7_dies_11 rfl ?_
    refine go_getR (pc := 12) dX7_dies_12 fX7_49 rfl rfl ?_
    refine go_aload_n (pc := 15) dX7_dies_15 rfl ?_
    refine go_getR (pc := 16) dX7_dies_16 fX7_26 rfl rfl ?_
    refine go_iload_n (pc := 19) dX7_dies_19 rfl ?_
    refine go_cVi (pc := 20) dX7_dies_20 (ev_death hc hw hp) lX7_217 YX5_death VX5_death rfl rfl rfl (by decide) rfl (Nat.le_of_ble_eq_true rfl) (fun s1 hf => ?_)
    refine go_goto (tgt := 28) (pc := 23) dX7_dies_23 (by decide) ?_
    exact go_retI (pc := 28) dX7_dies_28 (by unfold an_dies; (try simp only [hpC]); (repeat' split) <;> first | rfl | omega) ⟨⟨py_rc_fr hf (by decide) h1, (by rw [hf 0 10 (by decide) (by decide)]; exact h2), py_tc_fr hf (by decide) (by decide) (by decide) (by decide) h3, (by rw [hf 0 9 (by decide) (by decide)]; exact h4), py_hc_fr hf (by decide) (by decide) h5, py_ac_fr hf (by decide) h6, py_im_fr hf (by decide) (by decide) h7, py_im_fr hf (by decide) (by decide) h8, py_tr_fr hf (by decide) h9, py_cr_fr hf (by decide) h10⟩, hf.wd (by decide) (by decide)⟩
set_option maxHeartbeats 4000000 in
set_option maxRecDepth 100000 in
theorem cl_first {X : py_X} {σ : py_H} {R : py_Rt} {q : Int32} {B : Nat → Nat} {N : Nat} {ft : Int32} {H : Nat → Nat} {n : Nat} {As : Nat → Nat → Nat} {I0 I1 : Option (Nat → Nat)} {t : Nat} {tr : Nat → Int32} (hI : py_IC σ R q B N ft H n As I0 I1 t tr) (hW : py_IW H n As I0 I1 t) {x : Int32} : py_Ev X 6 yX7_first cX7_first 3 (some .int) [.ref 0, .int (x)] σ (py_vs (some (.int (an_first H x))) (fun s => py_IC s R q B N ft H n As I0 I1 t tr ∧ py_fr py_SC [] σ s)) := by
  obtain ⟨h1, h2, h3, h4, h5, h6, h7, h8, h9, h10⟩ := id hI
  obtain ⟨hw, hA, hJ0, hJ1, ht16⟩ := id hW
  obtain ⟨w0, w1, w2, w3, w12, w03, w00, wW, wP, wR⟩ := id hw
  have hc := h5.2
  refine py_ofI (own := RX7) YX7_first.2.2.2.2 rfl rfl (Nat.le_of_ble_eq_true rfl)  ?_
  show py_Go X RX7 cX7_first 3 6 0 [some (.ref 0), some (.int (x)), none] [] σ (py_vs (some (.int (an_first H x))) (fun s => py_IC s R q B N ft H n As I0 I1 t tr ∧ py_fr py_SC [] σ s))
  refine go_aload_n (pc := 0) dX7_first_0 rfl ?_
  refine go_getR (pc := 1) dX7_first_1 fX7_26 rfl rfl ?_
  refine go_getI (x := (py_b (0 < H 0))) (pc := 4) dX7_first_4 fX7_139 rfl rfl h5.1 ?_
  refine go_if_neB (tgt := 13) (pc := 7) dX7_first_7 (by decide) (fun c_7 => ?_) (fun c_7 => ?_)
  · refine go_iload_n (pc := 13) dX7_first_13 rfl ?_
    refine go_iconst (v := nI 0) (pc := 14) dX7_first_14 (by decide) ?_
    refine go_iconst (v := nI 1) (pc := 15) dX7_first_15 (by decide) ?_
    refine go_cS (pc := 16) dX7_first_16 ev_isWithinN lX7_101 YX7_isWithin SX7_isWithin rfl (by decide) rfl (Nat.le_of_ble_eq_true rfl) ?_
    refine go_if_neB (tgt := 25) (pc := 19) dX7_first_19 (by decide) (fun c_19 => ?_) (fun c_19 => ?_)
    · obtain ⟨k, rfl, hk0, hk, hkI, hkC⟩ := py_rg_of (x := x) (a := 0) (b := 1) c_19
      refine go_aload_n (pc := 25) dX7_first_25 rfl ?_
      refine go_getR (pc := 26) dX7_first_26 fX7_49 rfl rfl ?_
      refine go_aload_n (pc := 29) dX7_first_29 rfl ?_
      refine go_getR (pc := 30) dX7_first_30 fX7_26 rfl rfl ?_
      refine go_cVi (pc := 33) dX7_first_33 (ev_firstToDie hc hw) lX7_220 YX5_firstToDie VX5_firstToDie rfl rfl rfl (by decide) rfl (Nat.le_of_ble_eq_true rfl) (fun s1 hf => ?_)
      have hc1 := py_hd_fr hf (by decide) (by decide) hc
      refine go_istore_n (pc := 36) dX7_first_36 (by decide) rfl ?_
      refine go_iload_n (pc := 37) dX7_first_37 rfl ?_
      refine go_if_eqN (tgt := 47) (pc := 38) dX7_first_38 (by omega) (by decide) (fun c_38 => ?_) (fun c_38 => ?_)
      · refine go_iload_n (pc := 47) dX7_first_47 rfl ?_
        refine go_goto (tgt := 63) (pc := 48) dX7_first_48 (by decide) ?_
        exact go_retI (pc := 63) dX7_first_63 (by unfold an_first py_whI; (repeat' split) <;> first | rfl | omega) ⟨⟨py_rc_fr hf (by decide) h1, (by rw [hf 0 10 (by decide) (by decide)]; exact h2), py_tc_fr hf (by decide) (by decide) (by decide) (by decide) h3, (by rw [hf 0 9 (by decide) (by decide)]; exact h4), py_hc_fr hf (by decide) (by decide) h5, py_ac_fr hf (by decide) h6, py_im_fr hf (by decide) (by decide) h7, py_im_fr hf (by decide) (by decide) h8, py_tr_fr hf (by decide) h9, py_cr_fr hf (by decide) h10⟩, hf.wd (by decide) (by decide)⟩
      · refine go_iload_n (pc := 41) dX7_first_41 rfl ?_
        refine go_ldc (pc := 42) dX7_first_42 kX7_224 ?_
        refine go_icmp_ne (tgt := 51) (pc := 44) dX7_first_44 (by decide) (fun c_44 => ?_) (fun c_44 => ?_)
        · obtain ⟨hs, he, hl, hd⟩ := py_whI_lt c_44
          rw [he]
          refine go_aload_n (pc := 51) dX7_first_51 rfl ?_
          refine go_getR (pc := 52) dX7_first_52 fX7_49 rfl rfl ?_
          refine go_aload_n (pc := 55) dX7_first_55 rfl ?_
          refine go_getR (pc := 56) dX7_first_56 fX7_26 rfl rfl ?_
          refine go_iload_n (pc := 59) dX7_first_59 rfl ?_
          refine go_cVi (pc := 60) dX7_first_60 (ev_death hc1 hw hl) lX7_217 YX5_death VX5_death rfl rfl rfl (by decide) rfl (Nat.le_of_ble_eq_true rfl) (fun s2 hf2 => ?_)
          have hg := hf.tr hf2 (by decide) (by decide)
          exact go_retI (pc := 63) dX7_first_63 (by rw [hd]; unfold an_first; (repeat' split) <;> first | rfl | omega) ⟨⟨py_rc_fr hg (by decide) h1, (by rw [hg 0 10 (by decide) (by decide)]; exact h2), py_tc_fr hg (by decide) (by decide) (by decide) (by decide) h3, (by rw [hg 0 9 (by decide) (by decide)]; exact h4), py_hc_fr hg (by decide) (by decide) h5, py_ac_fr hg (by decide) h6, py_im_fr hg (by decide) (by decide) h7, py_im_fr hg (by decide) (by decide) h8, py_tr_fr hg (by decide) h9, py_cr_fr hg (by decide) h10⟩, hg.wd (by decide) (by decide)⟩
        · have hs := py_whI_eq w12 c_44
          refine go_iload_n (pc := 47) dX7_first_47 rfl ?_
          refine go_goto (tgt := 63) (pc := 48) dX7_first_48 (by decide) ?_
          exact go_retI (pc := 63) dX7_first_63 (by unfold an_first py_whI; (repeat' split) <;> first | rfl | omega) ⟨⟨py_rc_fr hf (by decide) h1, (by rw [hf 0 10 (by decide) (by decide)]; exact h2), py_tc_fr hf (by decide) (by decide) (by decide) (by decide) h3, (by rw [hf 0 9 (by decide) (by decide)]; exact h4), py_hc_fr hf (by decide) (by decide) h5, py_ac_fr hf (by decide) h6, py_im_fr hf (by decide) (by decide) h7, py_im_fr hf (by decide) (by decide) h8, py_tr_fr hf (by decide) h9, py_cr_fr hf (by decide) h10⟩, hf.wd (by decide) (by decide)⟩
    · refine go_ldc (pc := 22) dX7_first_22 kX7_67 ?_
      exact go_retI (pc := 24) dX7_first_24 (by unfold an_first; (repeat' split) <;> first | rfl | omega) ⟨hI, py_fr.rf _ _ σ⟩
  · refine go_ldc (pc := 10) dX7_first_10 kX7_143 ?_
    exact go_retI (pc := 12) dX7_first_12 (by unfold an_first; (repeat' split) <;> first | rfl | omega) ⟨hI, py_fr.rf _ _ σ⟩
theorem py_lp_keep {g : Nat → py_B → py_B} (hg : ∀ w B, B ≠ none → g w B ≠ none) : ∀ n B, B ≠ none → py_lp g n B ≠ none
  | 0, _, h => h
  | n + 1, B, h => hg n _ (py_lp_keep hg n B h)
theorem py_lp_some {g : Nat → py_B → py_B} (hg : ∀ w B, B ≠ none → g w B ≠ none) {w : Nat} (hw : ∀ B, g w B ≠ none) : ∀ n B, w < n → py_lp g n B ≠ none
  | 0, _, h => absurd h (by omega)
  | n + 1, B, h => by
    by_cases e : w = n
    · subst e; exact hw _
    · exact hg n _ (py_lp_some hg hw n B (by omega))
theorem py_wg_some (B : py_B) (l c : Nat) (tw : Nat → Nat) : py_wg B l c tw ≠ none := by
  unfold py_wg
  cases B with
  | none => exact Option.some_ne_none _
  | some q => show (if _ then _ else _) ≠ none; split <;> exact Option.some_ne_none _
theorem py_hf_keep (H : Nat → Nat) (d : Nat) : ∀ r p cr tw l c B, B ≠ none → py_hf H d r p cr tw l c B ≠ none
  | 0, _, _, _, _, _, _, _ => py_wg_some _ _ _ _
  | r + 1, p, cr, tw, l, c, B, h => by
    unfold py_hf
    refine py_lp_keep (fun w B hB => ?_) _ _ h
    show (if _ then _ else _) ≠ none
    split
    · exact py_hf_keep H d r _ _ _ _ _ _ hB
    · exact hB
theorem py_sm_up (cr : Nat → Nat) {w : Nat} (v : Nat) : ∀ n, py_sm (va_up cr w v) n + (if w < n then cr w else 0) = py_sm cr n + (if w < n then v else 0)
  | 0 => by rw [if_neg (by omega), if_neg (by omega)]; rfl
  | n + 1 => by
    have ih := py_sm_up cr (w := w) v n
    show py_sm (va_up cr w v) n + va_up cr w v n + _ = py_sm cr n + cr n + _
    by_cases e : n = w
    · subst e
      have u : va_up cr n v n = v := by unfold va_up; rw [if_pos rfl]
      rw [if_neg (by omega), if_neg (by omega)] at ih
      rw [u, if_pos (by omega), if_pos (by omega)]
      omega
    · have u : va_up cr w v n = cr n := by unfold va_up; rw [if_neg e]
      rw [u]
      by_cases h : w < n
      · rw [if_pos h, if_pos h] at ih; rw [if_pos (by omega), if_pos (by omega)]; omega
      · rw [if_neg h, if_neg h] at ih; rw [if_neg (by omega), if_neg (by omega)]; omega
theorem py_sm_ge {cr : Nat → Nat} {m : Nat} : ∀ n, (∀ w, w < n → m ≤ cr w) → n * m ≤ py_sm cr n
  | 0, _ => by omega
  | n + 1, h => by
    have ih := py_sm_ge n (fun w hw => h w (by omega))
    have z := h n (by omega)
    show (n + 1) * m ≤ py_sm cr n + cr n
    rw [Nat.succ_mul]
    omega
theorem py_smb {cr : Nat → Nat} {m : Nat} : ∀ n, (∀ w, w < n → cr w ≤ m) → py_sm cr n ≤ n * m
  | 0, _ => Nat.zero_le _
  | n + 1, h => by
    have ih := py_smb n (fun w hw => h w (by omega))
    have z := h n (by omega)
    show py_sm cr n + cr n ≤ (n + 1) * m
    rw [Nat.succ_mul]
    omega
theorem py_hf_some {H : Nat → Nat} (d : Nat) (hN : H 12 ≤ H 3 * H 0) : ∀ r p cr tw l c B, p + r = H 12 → py_sm cr (H 3) = p → py_hf H d r p cr tw l c B ≠ none
  | 0, _, _, _, _, _, _, _, _ => py_wg_some _ _ _ _
  | r + 1, p, cr, tw, l, c, B, h, hs => by
    unfold py_hf
    have hx : ∃ w, w < H 3 ∧ cr w < H 0 := by
      refine Classical.byContradiction (fun hn => ?_)
      have z := py_sm_ge (cr := cr) (m := H 0) (H 3) (fun w hw => by
        refine Classical.byContradiction (fun h2 => hn ⟨w, hw, by omega⟩))
      omega
    obtain ⟨w, hw, hc⟩ := hx
    refine py_lp_some (fun w B hB => ?_) (w := w) (fun B => ?_) _ _ hw
    · show (if _ then _ else _) ≠ none
      split
      · exact py_hf_keep H d r _ _ _ _ _ _ hB
      · exact hB
    · show (if _ then _ else _) ≠ none
      rw [if_pos hc]
      refine py_hf_some d hN r (p + 1) _ _ _ _ _ (by omega) ?_
      have z := py_sm_up cr (w := w) (cr w + 1) (H 3)
      rw [if_pos hw, if_pos hw] at z
      omega
theorem py_cn_s (f : Nat → Bool) (n : Nat) : py_cn f (n + 1) = py_cn f n + (if f n then 1 else 0) := rfl
theorem py_sm_z : ∀ W, py_sm (fun _ => 0) W = 0
  | 0 => rfl
  | W + 1 => by show py_sm (fun _ => 0) W + 0 = 0; rw [py_sm_z W]
theorem py_sm_cn {g : Nat → Nat} {W : Nat} : ∀ n, (∀ p, p < n → g p < W) → py_sm (fun w => py_cn (fun p => decide (g p = w)) n) W = n
  | 0, _ => py_sm_z W
  | n + 1, h => by
    have ih := py_sm_cn n (fun p hp => h p (by omega))
    have z := h n (by omega)
    have e : (fun w => py_cn (fun p => decide (g p = w)) (n + 1)) = va_up (fun w => py_cn (fun p => decide (g p = w)) n) (g n) (py_cn (fun p => decide (g p = g n)) n + 1) := by
      funext w
      rw [py_cn_s]
      unfold va_up
      by_cases e : w = g n
      · subst e; rw [if_pos rfl, if_pos (by simp)]
      · rw [if_neg e, if_neg (by simp; omega)]
        rfl
    rw [e]
    have y := py_sm_up (fun w => py_cn (fun p => decide (g p = w)) n) (w := g n) (py_cn (fun p => decide (g p = g n)) n + 1) W
    rw [if_pos z, if_pos z] at y
    omega
theorem py_hz_cap {H : Nat → Nat} (hw : py_wf H) : H 12 ≤ H 3 * H 0 := by
  obtain ⟨w0, w1, w2, w3, w12, w03, w00, wW, wP, wR⟩ := hw
  have e := py_sm_cn (g := fun p => H (16 + 4 * p)) (W := H 3) (H 12) (fun p hp => (wP p hp).2.2.2.2.2)
  have z := py_smb (cr := fun w => py_cn (fun p => decide (H (16 + 4 * p) = w)) (H 12)) (m := H 0) (H 3) wR
  omega
theorem py_hz_some {H : Nat → Nat} (hw : py_wf H) {d : Nat} : py_hz H d ≠ none := by
  unfold py_hz
  exact py_hf_some d (py_hz_cap hw) (H 12) 0 _ _ _ _ _ (by omega) (py_sm_z _)
set_option maxHeartbeats 4000000 in
set_option maxRecDepth 100000 in
theorem cl_hanging {X : py_X} {σ : py_H} {R : py_Rt} {q : Int32} {B : Nat → Nat} {N : Nat} {ft : Int32} {H : Nat → Nat} {n : Nat} {As : Nat → Nat → Nat} {I0 I1 : Option (Nat → Nat)} {t : Nat} {tr : Nat → Int32} (hI : py_IC σ R q B N ft H n As I0 I1 t tr) (hW : py_IW H n As I0 I1 t) {x y : Int32} : py_Ev X 9 yX7_hanging cX7_hanging 3 (some .int) [.ref 0, .int (x), .int (y)] σ (py_vs (some (.int (an_hanging H x y))) (fun s => py_IC s R q B N ft H n As I0 I1 t tr ∧ py_fr py_SC [] σ s)) := by
  obtain ⟨h1, h2, h3, h4, h5, h6, h7, h8, h9, h10⟩ := id hI
  obtain ⟨hw, hA, hJ0, hJ1, ht16⟩ := id hW
  obtain ⟨w0, w1, w2, w3, w12, w03, w00, wW, wP, wR⟩ := id hw
  have hc := h5.2
  refine py_ofI (own := RX7) YX7_hanging.2.2.2.2 rfl rfl (Nat.le_of_ble_eq_true rfl)  ?_
  show py_Go X RX7 cX7_hanging 3 9 0 [some (.ref 0), some (.int (x)), some (.int (y))] [] σ (py_vs (some (.int (an_hanging H x y))) (fun s => py_IC s R q B N ft H n As I0 I1 t tr ∧ py_fr py_SC [] σ s))
  refine go_aload_n (pc := 0) dX7_hanging_0 rfl ?_
  refine go_getR (pc := 1) dX7_hanging_1 fX7_26 rfl rfl ?_
  refine go_getI (x := (py_b (0 < H 0))) (pc := 4) dX7_hanging_4 fX7_139 rfl rfl h5.1 ?_
  refine go_if_neB (tgt := 13) (pc := 7) dX7_hanging_7 (by decide) (fun c_7 => ?_) (fun c_7 => ?_)
  · refine go_iload_n (pc := 13) dX7_hanging_13 rfl ?_
    refine go_cS (pc := 14) dX7_hanging_14 ev_isAhead lX7_207 YX7_isAhead SX7_isAhead rfl (by decide) rfl (Nat.le_of_ble_eq_true rfl) ?_
    refine go_if_eqB (tgt := 30) (pc := 17) dX7_hanging_17 (by decide) (fun c_17 => ?_) (fun c_17 => ?_)
    · refine go_ldc (pc := 30) dX7_hanging_30 kX7_67 ?_
      exact go_retI (pc := 32) dX7_hanging_32 (by unfold an_hanging; (repeat' split) <;> first | rfl | omega) ⟨hI, py_fr.rf _ _ σ⟩
    · obtain ⟨d, rfl, hd0, hd, hdI, hdC⟩ := py_rg_of (x := x) (a := 0) (b := 60) c_17
      refine go_iload_n (pc := 20) dX7_hanging_20 rfl ?_
      refine go_bipush (v := -2) (pc := 21) dX7_hanging_21 (by decide) ?_
      refine go_iconst (v := nI 4) (pc := 23) dX7_hanging_23 (by decide) ?_
      refine go_cS (pc := 24) dX7_hanging_24 ev_isWithin lX7_101 YX7_isWithin SX7_isWithin rfl (by decide) rfl (Nat.le_of_ble_eq_true rfl) ?_
      refine go_if_neB (tgt := 33) (pc := 27) dX7_hanging_27 (by decide) (fun c_27 => ?_) (fun c_27 => ?_)
      · have hm2 : (-2 : Int32).toInt = -2 := by decide
        have hm4 : (nI 4).toInt = 4 := by decide
        refine go_aload_n (pc := 33) dX7_hanging_33 rfl ?_
        refine go_getR (pc := 34) dX7_hanging_34 fX7_49 rfl rfl ?_
        refine go_aload_n (pc := 37) dX7_hanging_37 rfl ?_
        refine go_getR (pc := 38) dX7_hanging_38 fX7_26 rfl rfl ?_
        refine go_iload_n (pc := 41) dX7_hanging_41 rfl ?_
        refine go_cVv (pc := 42) dX7_hanging_42 (ev_seekHanging hc hw hd h10) lX7_225 YX5_seekHanging VX5_seekHanging rfl rfl rfl (by decide) rfl (Nat.le_of_ble_eq_true rfl) (fun s1 hs => ?_)
        obtain ⟨hcr, hrb, hf⟩ := hs
        have hc1 := py_hd_fr hf (by decide) (by decide) hc
        obtain ⟨bz, hbz⟩ : ∃ b, py_hz H d = b := ⟨_, rfl⟩
        rw [show py_hf H d (H 12) 0 (fun _ => 0) (fun _ => 0) 0 0 none = bz from hbz] at hrb
        refine go_iload_n (pc := 45) dX7_hanging_45 rfl ?_
        cases bz with
        | none =>
          exact absurd hbz (py_hz_some hw)
        | some b =>
          obtain ⟨r7, r8, b5, b300, r43⟩ := hrb
          rcases (show y.toInt = -1 ∨ y.toInt = -2 ∨ (y.toInt ≠ -1 ∧ y.toInt ≠ -2) by omega) with hx | hx | hx
          · refine go_look (off := 26) (pc := 46) (tgt := 72) dX7_hanging_46 (by decide) (by rw [hx]; decide) (by decide) ?_
            refine go_aload_n (pc := 72) dX7_hanging_72 rfl ?_
            refine go_getR (pc := 73) dX7_hanging_73 fX7_49 rfl rfl ?_
            refine go_getI (x := (nI (b.1))) (pc := 76) dX7_hanging_76 fX7_229 rfl rfl r7 ?_
            exact go_retI (pc := 79) dX7_hanging_79 (by unfold an_hanging; simp only [hdC, hbz]; (repeat' split) <;> first | rfl | omega) ⟨⟨py_rc_fr hf (by decide) h1, (by rw [hf 0 10 (by decide) (by decide)]; exact h2), py_tc_fr hf (by decide) (by decide) (by decide) (by decide) h3, (by rw [hf 0 9 (by decide) (by decide)]; exact h4), py_hc_fr hf (by decide) (by decide) h5, py_ac_fr hf (by decide) h6, py_im_fr hf (by decide) (by decide) h7, py_im_fr hf (by decide) (by decide) h8, py_tr_fr hf (by decide) h9, hcr⟩, hf.wd (by decide) (by decide)⟩
          · refine go_look (off := 34) (pc := 46) (tgt := 80) dX7_hanging_46 (by decide) (by rw [hx]; decide) (by decide) ?_
            refine go_aload_n (pc := 80) dX7_hanging_80 rfl ?_
            refine go_getR (pc := 81) dX7_hanging_81 fX7_49 rfl rfl ?_
            refine go_getI (x := (nI (b.2.1))) (pc := 84) dX7_hanging_84 fX7_232 rfl rfl r8 ?_
            exact go_retI (pc := 87) dX7_hanging_87 (by unfold an_hanging; simp only [hdC, hbz]; (repeat' split) <;> first | rfl | omega) ⟨⟨py_rc_fr hf (by decide) h1, (by rw [hf 0 10 (by decide) (by decide)]; exact h2), py_tc_fr hf (by decide) (by decide) (by decide) (by decide) h3, (by rw [hf 0 9 (by decide) (by decide)]; exact h4), py_hc_fr hf (by decide) (by decide) h5, py_ac_fr hf (by decide) h6, py_im_fr hf (by decide) (by decide) h7, py_im_fr hf (by decide) (by decide) h8, py_tr_fr hf (by decide) h9, hcr⟩, hf.wd (by decide) (by decide)⟩
          · refine go_look (off := 42) (pc := 46) (tgt := 88) dX7_hanging_46 (by decide) (by (repeat rw [Op.lookupswitch.offset_cons, if_neg (by first | exact hx.1 | exact hx.2 | exact Ne.symm hx.1 | exact Ne.symm hx.2)]); rfl) (by decide) ?_
            refine go_aload_n (pc := 88) dX7_hanging_88 rfl ?_
            refine go_getR (pc := 89) dX7_hanging_89 fX7_26 rfl rfl ?_
            refine go_iload_n (pc := 92) dX7_hanging_92 rfl ?_
            refine go_cV (pc := 93) dX7_hanging_93 (ev_hasPicture (Or.inl rfl) hc1.2.2.2.2.1 w12) lX7_157 YX2_hasPicture VX2_hasPicture rfl rfl rfl (by decide) rfl (Nat.le_of_ble_eq_true rfl) ?_
            refine go_if_eqB (tgt := 111) (pc := 96) dX7_hanging_96 (by decide) (fun c_96 => ?_) (fun c_96 => ?_)
            · refine go_ldc (pc := 111) dX7_hanging_111 kX7_224 ?_
              exact go_retI (pc := 113) dX7_hanging_113 (by unfold an_hanging; simp only [hdC, hbz]; (repeat' split) <;> first | rfl | omega) ⟨⟨py_rc_fr hf (by decide) h1, (by rw [hf 0 10 (by decide) (by decide)]; exact h2), py_tc_fr hf (by decide) (by decide) (by decide) (by decide) h3, (by rw [hf 0 9 (by decide) (by decide)]; exact h4), py_hc_fr hf (by decide) (by decide) h5, py_ac_fr hf (by decide) h6, py_im_fr hf (by decide) (by decide) h7, py_im_fr hf (by decide) (by decide) h8, py_tr_fr hf (by decide) h9, hcr⟩, hf.wd (by decide) (by decide)⟩
            · obtain ⟨k, rfl, hk9, hkI, hkC⟩ := py_pi_of (x := y) c_96
              refine go_aload_n (pc := 99) dX7_hanging_99 rfl ?_
              refine go_getR (pc := 100) dX7_hanging_100 fX7_49 rfl rfl ?_
              refine go_getR (pc := 103) dX7_hanging_103 fX7_235 rfl rfl ?_
              refine go_iload_n (pc := 106) dX7_hanging_106 rfl ?_
              refine go_aldN (x := (nI (b.2.2 k))) (pc := 107) dX7_hanging_107 rfl (by show k < 5; omega) (r43 k hk9) ?_
              refine go_goto (tgt := 113) (pc := 108) dX7_hanging_108 (by decide) ?_
              exact go_retI (pc := 113) dX7_hanging_113 (by unfold an_hanging; simp only [hdC, hbz, hkC]; (repeat' split) <;> first | rfl | omega) ⟨⟨py_rc_fr hf (by decide) h1, (by rw [hf 0 10 (by decide) (by decide)]; exact h2), py_tc_fr hf (by decide) (by decide) (by decide) (by decide) h3, (by rw [hf 0 9 (by decide) (by decide)]; exact h4), py_hc_fr hf (by decide) (by decide) h5, py_ac_fr hf (by decide) h6, py_im_fr hf (by decide) (by decide) h7, py_im_fr hf (by decide) (by decide) h8, py_tr_fr hf (by decide) h9, hcr⟩, hf.wd (by decide) (by decide)⟩
      · have hm2 : (-2 : Int32).toInt = -2 := by decide
        have hm4 : (nI 4).toInt = 4 := by decide
        refine go_ldc (pc := 30) dX7_hanging_30 kX7_67 ?_
        exact go_retI (pc := 32) dX7_hanging_32 (by unfold an_hanging; (repeat' split) <;> first | rfl | omega) ⟨hI, py_fr.rf _ _ σ⟩
  · refine go_ldc (pc := 10) dX7_hanging_10 kX7_143 ?_
    exact go_retI (pc := 12) dX7_hanging_12 (by unfold an_hanging; (repeat' split) <;> first | rfl | omega) ⟨hI, py_fr.rf _ _ σ⟩
theorem py_p2 {n : Nat} (hn : n ≤ 5) : (nI 1 <<< (nI n &&& 31)) - nI 1 = nI (2 ^ n - 1) ∧ 1 ≤ 2 ^ n ∧ 2 ^ n ≤ 32 := by
  rcases (show n = 0 ∨ n = 1 ∨ n = 2 ∨ n = 3 ∨ n = 4 ∨ n = 5 by omega) with h | h | h | h | h | h <;> subst h <;> exact ⟨by decide, by decide, by decide⟩
set_option maxHeartbeats 4000000 in
set_option maxRecDepth 100000 in
theorem cl_save {X : py_X} {σ : py_H} {R : py_Rt} {q : Int32} {B : Nat → Nat} {N : Nat} {ft : Int32} {H : Nat → Nat} {n : Nat} {As : Nat → Nat → Nat} {I0 I1 : Option (Nat → Nat)} {t : Nat} {tr : Nat → Int32} (hI : py_IC σ R q B N ft H n As I0 I1 t tr) (hW : py_IW H n As I0 I1 t) {x y : Int32} : py_Ev X 5 yX7_save cX7_save 3 (some .int) [.ref 0, .int (x), .int (y)] σ (py_vs (some (.int (an_save H x y))) (fun s => py_IC s R q B N ft H n As I0 I1 t tr ∧ py_fr py_SC [] σ s)) := by
  obtain ⟨h1, h2, h3, h4, h5, h6, h7, h8, h9, h10⟩ := id hI
  obtain ⟨hw, hA, hJ0, hJ1, ht16⟩ := id hW
  obtain ⟨w0, w1, w2, w3, w12, w03, w00, wW, wP, wR⟩ := id hw
  have hc := h5.2
  refine py_ofI (own := RX7) YX7_save.2.2.2.2 rfl rfl (Nat.le_of_ble_eq_true rfl)  ?_
  show py_Go X RX7 cX7_save 3 5 0 [some (.ref 0), some (.int (x)), some (.int (y))] [] σ (py_vs (some (.int (an_save H x y))) (fun s => py_IC s R q B N ft H n As I0 I1 t tr ∧ py_fr py_SC [] σ s))
  refine go_aload_n (pc := 0) dX7_save_0 rfl ?_
  refine go_getR (pc := 1) dX7_save_1 fX7_26 rfl rfl ?_
  refine go_getI (x := (py_b (0 < H 0))) (pc := 4) dX7_save_4 fX7_139 rfl rfl h5.1 ?_
  refine go_if_neB (tgt := 13) (pc := 7) dX7_save_7 (by decide) (fun c_7 => ?_) (fun c_7 => ?_)
  · refine go_iload_n (pc := 13) dX7_save_13 rfl ?_
    refine go_iconst (v := nI 0) (pc := 14) dX7_save_14 (by decide) ?_
    refine go_iconst (v := nI 1) (pc := 15) dX7_save_15 (by decide) ?_
    refine go_aload_n (pc := 16) dX7_save_16 rfl ?_
    refine go_getR (pc := 17) dX7_save_17 fX7_26 rfl rfl ?_
    refine go_getI (x := (nI (H 12))) (pc := 20) dX7_save_20 fX7_136 rfl rfl hc.2.2.2.2.1 ?_
    refine go_ishl (pc := 23) dX7_save_23 ?_
    refine go_iconst (v := nI 1) (pc := 24) dX7_save_24 (by decide) ?_
    refine go_isub (pc := 25) dX7_save_25  ?_
    have hp2 := py_p2 w12
    refine go_top (y := nI (2 ^ H 12 - 1)) hp2.1 ?_
    refine go_cS (pc := 26) dX7_save_26 (ev_isWithinN (hb := by omega)) lX7_101 YX7_isWithin SX7_isWithin rfl (by decide) rfl (Nat.le_of_ble_eq_true rfl) ?_
    refine go_if_eqB (tgt := 39) (pc := 29) dX7_save_29 (by decide) (fun c_29 => ?_) (fun c_29 => ?_)
    · refine go_ldc (pc := 39) dX7_save_39 kX7_67 ?_
      exact go_retI (pc := 41) dX7_save_41 (by unfold an_save; (repeat' split) <;> first | rfl | omega) ⟨hI, py_fr.rf _ _ σ⟩
    · obtain ⟨v, rfl, hv0, hv, hvI, hvC⟩ := py_rg_of (x := x) (a := 0) (b := 2 ^ H 12 - 1) c_29
      have hv31 : v < 32 := by omega
      refine go_iload_n (pc := 32) dX7_save_32 rfl ?_
      refine go_cS (pc := 33) dX7_save_33 ev_isAhead lX7_207 YX7_isAhead SX7_isAhead rfl (by decide) rfl (Nat.le_of_ble_eq_true rfl) ?_
      refine go_if_neB (tgt := 42) (pc := 36) dX7_save_36 (by decide) (fun c_36 => ?_) (fun c_36 => ?_)
      · obtain ⟨d, rfl, hd0, hd, hdI, hdC⟩ := py_rg_of (x := y) (a := 0) (b := 60) c_36
        refine go_aload_n (pc := 42) dX7_save_42 rfl ?_
        refine go_getR (pc := 43) dX7_save_43 fX7_49 rfl rfl ?_
        refine go_aload_n (pc := 46) dX7_save_46 rfl ?_
        refine go_getR (pc := 47) dX7_save_47 fX7_26 rfl rfl ?_
        refine go_iload_n (pc := 50) dX7_save_50 rfl ?_
        refine go_iload_n (pc := 51) dX7_save_51 rfl ?_
        refine go_cVi (pc := 52) dX7_save_52 (ev_cellsToSave hc hw hv31 hd) lX7_238 YX5_cellsToSave VX5_cellsToSave rfl rfl rfl (by decide) rfl (Nat.le_of_ble_eq_true rfl) (fun s1 hf => ?_)
        exact go_retI (pc := 55) dX7_save_55 (by unfold an_save; (try simp only [hvC, hdC]); (repeat' split) <;> first | rfl | omega) ⟨⟨py_rc_fr hf (by decide) h1, (by rw [hf 0 10 (by decide) (by decide)]; exact h2), py_tc_fr hf (by decide) (by decide) (by decide) (by decide) h3, (by rw [hf 0 9 (by decide) (by decide)]; exact h4), py_hc_fr hf (by decide) (by decide) h5, py_ac_fr hf (by decide) h6, py_im_fr hf (by decide) (by decide) h7, py_im_fr hf (by decide) (by decide) h8, py_tr_fr hf (by decide) h9, py_cr_fr hf (by decide) h10⟩, hf.wd (by decide) (by decide)⟩
      · refine go_ldc (pc := 39) dX7_save_39 kX7_67 ?_
        exact go_retI (pc := 41) dX7_save_41 (by unfold an_save; (repeat' split) <;> first | rfl | omega) ⟨hI, py_fr.rf _ _ σ⟩
  · refine go_ldc (pc := 10) dX7_save_10 kX7_143 ?_
    exact go_retI (pc := 12) dX7_save_12 (by unfold an_save; (repeat' split) <;> first | rfl | omega) ⟨hI, py_fr.rf _ _ σ⟩
set_option maxHeartbeats 4000000 in
set_option maxRecDepth 100000 in
theorem cl_dark {X : py_X} {σ : py_H} {R : py_Rt} {q : Int32} {B : Nat → Nat} {N : Nat} {ft : Int32} {H : Nat → Nat} {n : Nat} {As : Nat → Nat → Nat} {I0 I1 : Option (Nat → Nat)} {t : Nat} {tr : Nat → Int32} (hI : py_IC σ R q B N ft H n As I0 I1 t tr) (hW : py_IW H n As I0 I1 t) {x y : Int32} : py_Ev X 6 yX7_dark cX7_dark 4 (some .int) [.ref 0, .int (x), .int (y)] σ (py_vs (some (.int (an_dark H x y))) (fun s => py_IC s R q B N ft H n As I0 I1 t tr ∧ py_fr py_SC [] σ s)) := by
  obtain ⟨h1, h2, h3, h4, h5, h6, h7, h8, h9, h10⟩ := id hI
  obtain ⟨hw, hA, hJ0, hJ1, ht16⟩ := id hW
  obtain ⟨w0, w1, w2, w3, w12, w03, w00, wW, wP, wR⟩ := id hw
  have hc := h5.2
  refine py_ofI (own := RX7) YX7_dark.2.2.2.2 rfl rfl (Nat.le_of_ble_eq_true rfl)  ?_
  show py_Go X RX7 cX7_dark 4 6 0 [some (.ref 0), some (.int (x)), some (.int (y)), none] [] σ (py_vs (some (.int (an_dark H x y))) (fun s => py_IC s R q B N ft H n As I0 I1 t tr ∧ py_fr py_SC [] σ s))
  refine go_aload_n (pc := 0) dX7_dark_0 rfl ?_
  refine go_getR (pc := 1) dX7_dark_1 fX7_26 rfl rfl ?_
  refine go_getI (x := (py_b (0 < H 0))) (pc := 4) dX7_dark_4 fX7_139 rfl rfl h5.1 ?_
  refine go_if_neB (tgt := 13) (pc := 7) dX7_dark_7 (by decide) (fun c_7 => ?_) (fun c_7 => ?_)
  · refine go_iload_n (pc := 13) dX7_dark_13 rfl ?_
    refine go_cS (pc := 14) dX7_dark_14 ev_isAhead lX7_207 YX7_isAhead SX7_isAhead rfl (by decide) rfl (Nat.le_of_ble_eq_true rfl) ?_
    refine go_if_eqB (tgt := 29) (pc := 17) dX7_dark_17 (by decide) (fun c_17 => ?_) (fun c_17 => ?_)
    · refine go_ldc (pc := 29) dX7_dark_29 kX7_67 ?_
      exact go_retI (pc := 31) dX7_dark_31 (by unfold an_dark; (repeat' split) <;> first | rfl | omega) ⟨hI, py_fr.rf _ _ σ⟩
    · obtain ⟨d, rfl, hd0, hd, hdI, hdC⟩ := py_rg_of (x := x) (a := 0) (b := 60) c_17
      refine go_iload_n (pc := 20) dX7_dark_20 rfl ?_
      refine go_iconst (v := nI 0) (pc := 21) dX7_dark_21 (by decide) ?_
      refine go_iconst (v := nI 1) (pc := 22) dX7_dark_22 (by decide) ?_
      refine go_cS (pc := 23) dX7_dark_23 ev_isWithinN lX7_101 YX7_isWithin SX7_isWithin rfl (by decide) rfl (Nat.le_of_ble_eq_true rfl) ?_
      refine go_if_neB (tgt := 32) (pc := 26) dX7_dark_26 (by decide) (fun c_26 => ?_) (fun c_26 => ?_)
      · obtain ⟨k, rfl, hk0, hk, hkI, hkC⟩ := py_rg_of (x := y) (a := 0) (b := 1) c_26
        refine go_aload_n (pc := 32) dX7_dark_32 rfl ?_
        refine go_getR (pc := 33) dX7_dark_33 fX7_49 rfl rfl ?_
        refine go_aload_n (pc := 36) dX7_dark_36 rfl ?_
        refine go_getR (pc := 37) dX7_dark_37 fX7_26 rfl rfl ?_
        refine go_iload_n (pc := 40) dX7_dark_40 rfl ?_
        refine go_cVi (pc := 41) dX7_dark_41 (ev_wallToDarken hc hw hd) lX7_241 YX5_wallToDarken VX5_wallToDarken rfl rfl rfl (by decide) rfl (Nat.le_of_ble_eq_true rfl) (fun s1 hf => ?_)
        have hc1 := py_hd_fr hf (by decide) (by decide) hc
        have hmx : py_mx (fun w => py_dn H w d) (H 3) < H 3 := py_mx_lt _ (by omega)
        refine go_istore_n (pc := 44) dX7_dark_44 (by decide) rfl ?_
        refine go_iload_n (pc := 45) dX7_dark_45 rfl ?_
        refine go_if_neN (tgt := 53) (pc := 46) dX7_dark_46 (by omega) (by decide) (fun c_46 => ?_) (fun c_46 => ?_)
        · refine go_aload_n (pc := 53) dX7_dark_53 rfl ?_
          refine go_getR (pc := 54) dX7_dark_54 fX7_49 rfl rfl ?_
          refine go_aload_n (pc := 57) dX7_dark_57 rfl ?_
          refine go_getR (pc := 58) dX7_dark_58 fX7_26 rfl rfl ?_
          refine go_iload_n (pc := 61) dX7_dark_61 rfl ?_
          refine go_iload_n (pc := 62) dX7_dark_62 rfl ?_
          refine go_cVi (pc := 63) dX7_dark_63 (ev_livingInDark hc1 hw hmx hd) lX7_244 YX5_livingInDark VX5_livingInDark rfl rfl rfl (by decide) rfl (Nat.le_of_ble_eq_true rfl) (fun s2 hf2 => ?_)
          have hg := hf.tr hf2 (by decide) (by decide)
          exact go_retI (pc := 66) dX7_dark_66 (by unfold an_dark; (try simp only [hdC]); (repeat' split) <;> first | rfl | omega) ⟨⟨py_rc_fr hg (by decide) h1, (by rw [hg 0 10 (by decide) (by decide)]; exact h2), py_tc_fr hg (by decide) (by decide) (by decide) (by decide) h3, (by rw [hg 0 9 (by decide) (by decide)]; exact h4), py_hc_fr hg (by decide) (by decide) h5, py_ac_fr hg (by decide) h6, py_im_fr hg (by decide) (by decide) h7, py_im_fr hg (by decide) (by decide) h8, py_tr_fr hg (by decide) h9, py_cr_fr hg (by decide) h10⟩, hg.wd (by decide) (by decide)⟩
        · refine go_iload_n (pc := 49) dX7_dark_49 rfl ?_
          refine go_goto (tgt := 66) (pc := 50) dX7_dark_50 (by decide) ?_
          exact go_retI (pc := 66) dX7_dark_66 (by unfold an_dark; (try simp only [hdC]); (repeat' split) <;> first | rfl | omega) ⟨⟨py_rc_fr hf (by decide) h1, (by rw [hf 0 10 (by decide) (by decide)]; exact h2), py_tc_fr hf (by decide) (by decide) (by decide) (by decide) h3, (by rw [hf 0 9 (by decide) (by decide)]; exact h4), py_hc_fr hf (by decide) (by decide) h5, py_ac_fr hf (by decide) h6, py_im_fr hf (by decide) (by decide) h7, py_im_fr hf (by decide) (by decide) h8, py_tr_fr hf (by decide) h9, py_cr_fr hf (by decide) h10⟩, hf.wd (by decide) (by decide)⟩
      · refine go_ldc (pc := 29) dX7_dark_29 kX7_67 ?_
        exact go_retI (pc := 31) dX7_dark_31 (by unfold an_dark; (repeat' split) <;> first | rfl | omega) ⟨hI, py_fr.rf _ _ σ⟩
  · refine go_ldc (pc := 10) dX7_dark_10 kX7_143 ?_
    exact go_retI (pc := 12) dX7_dark_12 (by unfold an_dark; (repeat' split) <;> first | rfl | omega) ⟨hI, py_fr.rf _ _ σ⟩
set_option maxHeartbeats 4000000 in
set_option maxRecDepth 100000 in
theorem cl_kind {X : py_X} {σ : py_H} {R : py_Rt} {q : Int32} {B : Nat → Nat} {N : Nat} {ft : Int32} {H : Nat → Nat} {n : Nat} {As : Nat → Nat → Nat} {I0 I1 : Option (Nat → Nat)} {t : Nat} {tr : Nat → Int32} (hI : py_IC σ R q B N ft H n As I0 I1 t tr) (hW : py_IW H n As I0 I1 t) {x : Int32} : py_Ev X 2 yX7_kind cX7_kind 2 (some .int) [.ref 0, .int (x)] σ (py_vs (some (.int (an_kind H x))) (fun s => py_IC s R q B N ft H n As I0 I1 t tr ∧ py_fr py_SC [] σ s)) := by
  obtain ⟨h1, h2, h3, h4, h5, h6, h7, h8, h9, h10⟩ := id hI
  obtain ⟨hw, hA, hJ0, hJ1, ht16⟩ := id hW
  obtain ⟨w0, w1, w2, w3, w12, w03, w00, wW, wP, wR⟩ := id hw
  have hc := h5.2
  refine py_ofI (own := RX7) YX7_kind.2.2.2.2 rfl rfl (Nat.le_of_ble_eq_true rfl)  ?_
  show py_Go X RX7 cX7_kind 2 2 0 [some (.ref 0), some (.int (x))] [] σ (py_vs (some (.int (an_kind H x))) (fun s => py_IC s R q B N ft H n As I0 I1 t tr ∧ py_fr py_SC [] σ s))
  refine go_aload_n (pc := 0) dX7_kind_0 rfl ?_
  refine go_getR (pc := 1) dX7_kind_1 fX7_26 rfl rfl ?_
  refine go_iload_n (pc := 4) dX7_kind_4 rfl ?_
  refine go_cV (pc := 5) dX7_kind_5 (ev_hasPicture (Or.inl rfl) hc.2.2.2.2.1 w12) lX7_157 YX2_hasPicture VX2_hasPicture rfl rfl rfl (by decide) rfl (Nat.le_of_ble_eq_true rfl) ?_
  refine go_if_eqB (tgt := 23) (pc := 8) dX7_kind_8 (by decide) (fun c_8 => ?_) (fun c_8 => ?_)
  · refine go_ldc (pc := 23) dX7_kind_23 kX7_67 ?_
    exact go_retI (pc := 25) dX7_kind_25 (by unfold an_kind; (repeat' split) <;> first | rfl | omega) ⟨hI, py_fr.rf _ _ σ⟩
  · obtain ⟨p, rfl, hp, hpI, hpC⟩ := py_pi_of (x := x) c_8
    refine go_aload_n (pc := 11) dX7_kind_11 rfl ?_
    refine go_getR (pc := 12) dX7_kind_12 fX7_26 rfl rfl ?_
    refine go_getR (pc := 15) dX7_kind_15 fX7_295 rfl rfl ?_
    refine go_iload_n (pc := 18) dX7_kind_18 rfl ?_
    refine go_aldN (x := (nI (H (13 + 4 * p)))) (pc := 19) dX7_kind_19 rfl (by show p < 5; omega) (hc.2.2.2.2.2.2 p hp).1 ?_
    refine go_goto (tgt := 25) (pc := 20) dX7_kind_20 (by decide) ?_
    exact go_retI (pc := 25) dX7_kind_25 (by unfold an_kind; (try simp only [hpC]); (repeat' split) <;> first | rfl | omega) ⟨hI, py_fr.rf _ _ σ⟩
set_option maxHeartbeats 4000000 in
set_option maxRecDepth 100000 in
theorem cl_trace {X : py_X} {σ : py_H} {R : py_Rt} {q : Int32} {B : Nat → Nat} {N : Nat} {ft : Int32} {H : Nat → Nat} {n : Nat} {As : Nat → Nat → Nat} {I0 I1 : Option (Nat → Nat)} {t : Nat} {tr : Nat → Int32} (hI : py_IC σ R q B N ft H n As I0 I1 t tr) (hW : py_IW H n As I0 I1 t) {x : Int32} : py_Ev X 1 yX7_trace cX7_trace 2 (some .int) [.ref 0, .int (x)] σ (py_vs (some (.int (an_trace t tr x))) (fun s => py_IC s R q B N ft H n As I0 I1 t tr ∧ py_fr py_SC [] σ s)) := by
  obtain ⟨h1, h2, h3, h4, h5, h6, h7, h8, h9, h10⟩ := id hI
  obtain ⟨hw, hA, hJ0, hJ1, ht16⟩ := id hW
  obtain ⟨w0, w1, w2, w3, w12, w03, w00, wW, wP, wR⟩ := id hw
  have hc := h5.2
  refine py_ofI (own := RX7) YX7_trace.2.2.2.2 rfl rfl (Nat.le_of_ble_eq_true rfl)  ?_
  show py_Go X RX7 cX7_trace 2 1 0 [some (.ref 0), some (.int (x))] [] σ (py_vs (some (.int (an_trace t tr x))) (fun s => py_IC s R q B N ft H n As I0 I1 t tr ∧ py_fr py_SC [] σ s))
  refine go_iload_n (pc := 0) dX7_trace_0 rfl ?_
  refine go_iconst (v := nI 0) (pc := 1) dX7_trace_1 (by decide) ?_
  refine go_aload_n (pc := 2) dX7_trace_2 rfl ?_
  refine go_getR (pc := 3) dX7_trace_3 fX7_56 rfl rfl ?_
  refine go_getI (x := (nI t)) (pc := 6) dX7_trace_6 fX7_307 rfl rfl h9.1 ?_
  refine go_iconst (v := nI 1) (pc := 9) dX7_trace_9 (by decide) ?_
  refine go_isub (pc := 10) dX7_trace_10  ?_
  refine go_cS (pc := 11) dX7_trace_11 ev_isWithin lX7_101 YX7_isWithin SX7_isWithin rfl (by decide) rfl (Nat.le_of_ble_eq_true rfl) ?_
  refine go_if_eqB (tgt := 29) (pc := 14) dX7_trace_14 (by decide) (fun c_14 => ?_) (fun c_14 => ?_)
  · rw [py_pi_w (by omega)] at c_14
    refine go_ldc (pc := 29) dX7_trace_29 kX7_224 ?_
    exact go_retI (pc := 31) dX7_trace_31 (by unfold an_trace; (repeat' split) <;> first | rfl | omega) ⟨hI, py_fr.rf _ _ σ⟩
  · obtain ⟨k, rfl, hk, hkI, hkC⟩ := py_pi_of (x := x) ((py_pi_w (by omega)).mp c_14)
    refine go_aload_n (pc := 17) dX7_trace_17 rfl ?_
    refine go_getR (pc := 18) dX7_trace_18 fX7_56 rfl rfl ?_
    refine go_getR (pc := 21) dX7_trace_21 fX7_310 rfl rfl ?_
    refine go_iload_n (pc := 24) dX7_trace_24 rfl ?_
    refine go_aldN (x := (tr k)) (pc := 25) dX7_trace_25 rfl (by show k < 16; omega) (h9.2 k hk) ?_
    refine go_goto (tgt := 31) (pc := 26) dX7_trace_26 (by decide) ?_
    exact go_retI (pc := 31) dX7_trace_31 (by unfold an_trace; (try simp only [hkC]); (repeat' split) <;> first | rfl | omega) ⟨hI, py_fr.rf _ _ σ⟩
set_option maxHeartbeats 4000000 in
set_option maxRecDepth 100000 in
theorem ev_present {X : py_X} {σ : py_H} {R : py_Rt} (h1 : py_rc σ R.1 R.2.1 R.2.2) : py_Ev X 1 yX4_present cX4_present 3 (some .int) [.ref 1] σ (py_ret (.int (nI (py_cn (fun r => decide (R.1 r ≠ 3)) 8))) σ) := by
  refine py_ofI (own := RX4) YX4_present.2.2.2.2 rfl rfl (Nat.le_of_ble_eq_true rfl)  ?_
  show py_Go X RX4 cX4_present 3 1 0 [some (.ref 1), none, none] [] σ (py_ret (.int (nI (py_cn (fun r => decide (R.1 r ≠ 3)) 8))) σ)
  have loop : ∀ i, i ≤ 8 → py_Go X RX4 cX4_present 3 1 4 [some (.ref 1), some (.int (nI (py_cn (fun r => decide (R.1 r ≠ 3)) i))), some (.int (nI i))] [] σ (py_ret (.int (nI (py_cn (fun r => decide (R.1 r ≠ 3)) 8))) σ) := by
    refine py_loop _ (8) (fun i hi ih  => ?_)
    refine go_iload_n (pc := 4) dX4_present_4 rfl ?_
    refine go_bipush (v := nI 8) (pc := 5) dX4_present_5 (by decide) ?_
    refine go_icmp_geN (tgt := 27) (pc := 7) dX4_present_7 (by omega) (by omega) (by decide) (fun c_7 => ?_) (fun c_7 => ?_)
    · refine go_iload_n (pc := 27) dX4_present_27 rfl ?_
      exact go_retI (pc := 28) dX4_present_28 (by rw [show i = 8 by omega]) rfl
    · refine go_aload_n (pc := 10) dX4_present_10 rfl ?_
      refine go_iload_n (pc := 11) dX4_present_11 rfl ?_
      refine go_cV (pc := 12) dX4_present_12 (ev_isMissing c_7 (h1 i c_7).2.1 (h1 i c_7).1) lX4_31 YX4_isMissing VX4_isMissing rfl rfl rfl (by decide) rfl (Nat.le_of_ble_eq_true rfl) ?_
      refine go_if_neB (tgt := 21) (pc := 15) dX4_present_15 (by decide) (fun c_15 => ?_) (fun c_15 => ?_)
      · refine go_iincN (c := 1) (pc := 21) dX4_present_21 rfl (by decide) (by decide) rfl ?_
        refine go_goto (tgt := 4) (pc := 24) dX4_present_24 (by decide) ?_
        have e8 := ih (by omega)
        rw [show py_cn (fun r => decide (R.1 r ≠ 3)) (i + 1) = py_cn (fun r => decide (R.1 r ≠ 3)) i from (py_cn_f (f := fun r => decide (R.1 r ≠ 3)) (decide_eq_false (fun z => z c_15))).symm] at e8
        exact e8
      · refine go_iincN (c := 1) (pc := 18) dX4_present_18 rfl (by decide) (by decide) rfl ?_
        refine go_iincN (c := 1) (pc := 21) dX4_present_21 rfl (by decide) (by decide) rfl ?_
        refine go_goto (tgt := 4) (pc := 24) dX4_present_24 (by decide) ?_
        have e8 := ih (by omega)
        rw [show py_cn (fun r => decide (R.1 r ≠ 3)) (i + 1) = py_cn (fun r => decide (R.1 r ≠ 3)) i + 1 from (py_cn_t (f := fun r => decide (R.1 r ≠ 3)) (decide_eq_true c_15)).symm] at e8
        exact e8
  refine go_iconst (v := nI 0) (pc := 0) dX4_present_0 (by decide) ?_
  refine go_istore_n (pc := 1) dX4_present_1 (by decide) rfl ?_
  refine go_iconst (v := nI 0) (pc := 2) dX4_present_2 (by decide) ?_
  refine go_istore_n (pc := 3) dX4_present_3 (by decide) rfl ?_
  exact loop 0 (by omega)
set_option maxHeartbeats 4000000 in
set_option maxRecDepth 100000 in
theorem cl_count {X : py_X} {σ : py_H} {R : py_Rt} {q : Int32} {B : Nat → Nat} {N : Nat} {ft : Int32} {H : Nat → Nat} {n : Nat} {As : Nat → Nat → Nat} {I0 I1 : Option (Nat → Nat)} {t : Nat} {tr : Nat → Int32} (hI : py_IC σ R q B N ft H n As I0 I1 t tr) (hW : py_IW H n As I0 I1 t) {x : Int32} : py_Ev X 2 yX7_count cX7_count 2 (some .int) [.ref 0, .int (x)] σ (py_vs (some (.int (an_count R N H n x))) (fun s => py_IC s R q B N ft H n As I0 I1 t tr ∧ py_fr py_SC [] σ s)) := by
  obtain ⟨h1, h2, h3, h4, h5, h6, h7, h8, h9, h10⟩ := id hI
  obtain ⟨hw, hA, hJ0, hJ1, ht16⟩ := id hW
  obtain ⟨w0, w1, w2, w3, w12, w03, w00, wW, wP, wR⟩ := id hw
  have hc := h5.2
  refine py_ofI (own := RX7) YX7_count.2.2.2.2 rfl rfl (Nat.le_of_ble_eq_true rfl)  ?_
  show py_Go X RX7 cX7_count 2 2 0 [some (.ref 0), some (.int (x))] [] σ (py_vs (some (.int (an_count R N H n x))) (fun s => py_IC s R q B N ft H n As I0 I1 t tr ∧ py_fr py_SC [] σ s))
  refine go_iload_n (pc := 0) dX7_count_0 rfl ?_
  rcases (show (x).toInt = 0 ∨ (x).toInt = 1 ∨ (x).toInt = 2 ∨ (x).toInt = 3 ∨ (x).toInt = 4 ∨ (x).toInt = 5 ∨ (x).toInt = 6 ∨ (x).toInt = 7 ∨ (x).toInt < 0 ∨ 7 < (x).toInt by omega) with hk | hk | hk | hk | hk | hk | hk | hk | hk
  · refine go_swIn (off := 47) (pc := 1) (tgt := 48) dX7_count_1 (by omega) (by omega) (by rw [hk]; rfl) (by decide) ?_
    refine go_aload_n (pc := 48) dX7_count_48 rfl ?_
    refine go_getR (pc := 49) dX7_count_49 fX7_10 rfl rfl ?_
    refine go_cV (pc := 52) dX7_count_52 (ev_present h1) lX7_313 YX4_present VX4_present rfl rfl rfl (by decide) rfl (Nat.le_of_ble_eq_true rfl) ?_
    exact go_retI (pc := 55) dX7_count_55 (by unfold an_count; (repeat' split) <;> first | rfl | omega) ⟨hI, py_fr.rf _ _ σ⟩
  · refine go_swIn (off := 55) (pc := 1) (tgt := 56) dX7_count_1 (by omega) (by omega) (by rw [hk]; rfl) (by decide) ?_
    refine go_aload_n (pc := 56) dX7_count_56 rfl ?_
    refine go_getR (pc := 57) dX7_count_57 fX7_26 rfl rfl ?_
    refine go_getI (x := (nI (H 3))) (pc := 60) dX7_count_60 fX7_316 rfl rfl hc.2.2.2.1 ?_
    exact go_retI (pc := 63) dX7_count_63 (by unfold an_count; (repeat' split) <;> first | rfl | omega) ⟨hI, py_fr.rf _ _ σ⟩
  · refine go_swIn (off := 63) (pc := 1) (tgt := 64) dX7_count_1 (by omega) (by omega) (by rw [hk]; rfl) (by decide) ?_
    refine go_aload_n (pc := 64) dX7_count_64 rfl ?_
    refine go_getR (pc := 65) dX7_count_65 fX7_26 rfl rfl ?_
    refine go_getI (x := (nI (H 12))) (pc := 68) dX7_count_68 fX7_136 rfl rfl hc.2.2.2.2.1 ?_
    exact go_retI (pc := 71) dX7_count_71 (by unfold an_count; (repeat' split) <;> first | rfl | omega) ⟨hI, py_fr.rf _ _ σ⟩
  · refine go_swIn (off := 71) (pc := 1) (tgt := 72) dX7_count_1 (by omega) (by omega) (by rw [hk]; rfl) (by decide) ?_
    refine go_aload_n (pc := 72) dX7_count_72 rfl ?_
    refine go_getR (pc := 73) dX7_count_73 fX7_26 rfl rfl ?_
    refine go_getI (x := (nI (H 2))) (pc := 76) dX7_count_76 fX7_144 rfl rfl hc.2.2.1 ?_
    exact go_retI (pc := 79) dX7_count_79 (by unfold an_count; (repeat' split) <;> first | rfl | omega) ⟨hI, py_fr.rf _ _ σ⟩
  · refine go_swIn (off := 79) (pc := 1) (tgt := 80) dX7_count_1 (by omega) (by omega) (by rw [hk]; rfl) (by decide) ?_
    refine go_aload_n (pc := 80) dX7_count_80 rfl ?_
    refine go_getR (pc := 81) dX7_count_81 fX7_26 rfl rfl ?_
    refine go_getI (x := (nI (H 1))) (pc := 84) dX7_count_84 fX7_173 rfl rfl hc.2.1 ?_
    exact go_retI (pc := 87) dX7_count_87 (by unfold an_count; (repeat' split) <;> first | rfl | omega) ⟨hI, py_fr.rf _ _ σ⟩
  · refine go_swIn (off := 87) (pc := 1) (tgt := 88) dX7_count_1 (by omega) (by omega) (by rw [hk]; rfl) (by decide) ?_
    refine go_aload_n (pc := 88) dX7_count_88 rfl ?_
    refine go_getR (pc := 89) dX7_count_89 fX7_26 rfl rfl ?_
    refine go_cV (pc := 92) dX7_count_92 (ev_living (Or.inl rfl) hc.2.2.2.2.1 w12 (fun p hp => ⟨(hc.2.2.2.2.2.2 p hp).2.2.1, (wP p hp).2.2.2.2.1⟩)) lX7_153 YX2_living VX2_living rfl rfl rfl (by decide) rfl (Nat.le_of_ble_eq_true rfl) ?_
    refine go_top (y := (nI (py_lvH H))) rfl ?_
    exact go_retI (pc := 95) dX7_count_95 (by unfold an_count; (repeat' split) <;> first | rfl | omega) ⟨hI, py_fr.rf _ _ σ⟩
  · refine go_swIn (off := 95) (pc := 1) (tgt := 96) dX7_count_1 (by omega) (by omega) (by rw [hk]; rfl) (by decide) ?_
    refine go_aload_n (pc := 96) dX7_count_96 rfl ?_
    refine go_getR (pc := 97) dX7_count_97 fX7_42 rfl rfl ?_
    refine go_getI (x := (nI n)) (pc := 100) dX7_count_100 fX7_188 rfl rfl (h6.elim (fun _ z => z.1)) ?_
    exact go_retI (pc := 103) dX7_count_103 (by unfold an_count; (repeat' split) <;> first | rfl | omega) ⟨hI, py_fr.rf _ _ σ⟩
  · refine go_swIn (off := 103) (pc := 1) (tgt := 104) dX7_count_1 (by omega) (by omega) (by rw [hk]; rfl) (by decide) ?_
    refine go_aload_n (pc := 104) dX7_count_104 rfl ?_
    refine go_getR (pc := 105) dX7_count_105 fX7_19 rfl rfl ?_
    refine go_getI (x := (nI N)) (pc := 108) dX7_count_108 fX7_107 rfl rfl h3.1 ?_
    exact go_retI (pc := 111) dX7_count_111 (by unfold an_count; (repeat' split) <;> first | rfl | omega) ⟨hI, py_fr.rf _ _ σ⟩
  · refine go_swOut (pc := 1) (tgt := 112) dX7_count_1 hk (by decide) ?_
    refine go_ldc (pc := 112) dX7_count_112 kX7_67 ?_
    exact go_retI (pc := 114) dX7_count_114 (by unfold an_count; (repeat' split) <;> first | rfl | omega) ⟨hI, py_fr.rf _ _ σ⟩
set_option maxHeartbeats 4000000 in
set_option maxRecDepth 100000 in
theorem cl_thieves {X : py_X} {σ : py_H} {R : py_Rt} {q : Int32} {B : Nat → Nat} {N : Nat} {ft : Int32} {H : Nat → Nat} {n : Nat} {As : Nat → Nat → Nat} {I0 I1 : Option (Nat → Nat)} {t : Nat} {tr : Nat → Int32} (hI : py_IC σ R q B N ft H n As I0 I1 t tr) (hW : py_IW H n As I0 I1 t) {x d c y : Int32} : py_Ev X 6 yX7_thieves cX7_thieves 9 (some .int) [.ref 0, .int (x), .int (d), .int (c), .int (y)] σ (py_vs (some (.int (an_thieves H x d c y))) (fun s => py_IC s R q B N ft H n As I0 I1 t tr ∧ py_fr py_SC [] σ s)) := by
  obtain ⟨h1, h2, h3, h4, h5, h6, h7, h8, h9, h10⟩ := id hI
  obtain ⟨hw, hA, hJ0, hJ1, ht16⟩ := id hW
  obtain ⟨w0, w1, w2, w3, w12, w03, w00, wW, wP, wR⟩ := id hw
  have hc := h5.2
  refine py_ofI (own := RX7) YX7_thieves.2.2.2.2 rfl rfl (Nat.le_of_ble_eq_true rfl)  ?_
  show py_Go X RX7 cX7_thieves 9 6 0 [some (.ref 0), some (.int (x)), some (.int (d)), some (.int (c)), some (.int (y)), none, none, none, none] [] σ (py_vs (some (.int (an_thieves H x d c y))) (fun s => py_IC s R q B N ft H n As I0 I1 t tr ∧ py_fr py_SC [] σ s))
  refine go_aload_n (pc := 0) dX7_thieves_0 rfl ?_
  refine go_getR (pc := 1) dX7_thieves_1 fX7_26 rfl rfl ?_
  refine go_getI (x := (py_b (0 < H 0))) (pc := 4) dX7_thieves_4 fX7_139 rfl rfl h5.1 ?_
  refine go_if_neB (tgt := 13) (pc := 7) dX7_thieves_7 (by decide) (fun c_7 => ?_) (fun c_7 => ?_)
  · refine go_iload_n (pc := 13) dX7_thieves_13 rfl ?_
    refine go_iconst (v := nI 0) (pc := 14) dX7_thieves_14 (by decide) ?_
    refine go_iconst (v := nI 5) (pc := 15) dX7_thieves_15 (by decide) ?_
    refine go_cS (pc := 16) dX7_thieves_16 ev_isWithinN lX7_101 YX7_isWithin SX7_isWithin rfl (by decide) rfl (Nat.le_of_ble_eq_true rfl) ?_
    refine go_if_eqB (tgt := 49) (pc := 19) dX7_thieves_19 (by decide) (fun c_19 => ?_) (fun c_19 => ?_)
    · refine go_ldc (pc := 49) dX7_thieves_49 kX7_67 ?_
      exact go_retI (pc := 51) dX7_thieves_51 (by unfold an_thieves; (repeat' split) <;> first | rfl | omega) ⟨hI, py_fr.rf _ _ σ⟩
    · obtain ⟨m, rfl, hm0, hm, hmI, hmC⟩ := py_rg_of (x := x) (a := 0) (b := 5) c_19
      refine go_iload_n (pc := 22) dX7_thieves_22 rfl ?_
      refine go_cS (pc := 23) dX7_thieves_23 ev_isAhead lX7_207 YX7_isAhead SX7_isAhead rfl (by decide) rfl (Nat.le_of_ble_eq_true rfl) ?_
      refine go_if_eqB (tgt := 49) (pc := 26) dX7_thieves_26 (by decide) (fun c_26 => ?_) (fun c_26 => ?_)
      · refine go_ldc (pc := 49) dX7_thieves_49 kX7_67 ?_
        exact go_retI (pc := 51) dX7_thieves_51 (by unfold an_thieves; (repeat' split) <;> first | rfl | omega) ⟨hI, py_fr.rf _ _ σ⟩
      · obtain ⟨e, rfl, he0, he, heI, heC⟩ := py_rg_of (x := d) (a := 0) (b := 60) c_26
        refine go_iload_n (pc := 29) dX7_thieves_29 rfl ?_
        refine go_iconst (v := nI 0) (pc := 30) dX7_thieves_30 (by decide) ?_
        refine go_bipush (v := nI 10) (pc := 31) dX7_thieves_31 (by decide) ?_
        refine go_cS (pc := 33) dX7_thieves_33 ev_isWithinN lX7_101 YX7_isWithin SX7_isWithin rfl (by decide) rfl (Nat.le_of_ble_eq_true rfl) ?_
        refine go_if_eqB (tgt := 49) (pc := 36) dX7_thieves_36 (by decide) (fun c_36 => ?_) (fun c_36 => ?_)
        · refine go_ldc (pc := 49) dX7_thieves_49 kX7_67 ?_
          exact go_retI (pc := 51) dX7_thieves_51 (by unfold an_thieves; (repeat' split) <;> first | rfl | omega) ⟨hI, py_fr.rf _ _ σ⟩
        · obtain ⟨k, rfl, hk0, hk, hkI, hkC⟩ := py_rg_of (x := c) (a := 0) (b := 10) c_36
          refine go_iload (pc := 39) dX7_thieves_39 rfl ?_
          refine go_iconst (v := nI 0) (pc := 41) dX7_thieves_41 (by decide) ?_
          refine go_iconst (v := nI 1) (pc := 42) dX7_thieves_42 (by decide) ?_
          refine go_cS (pc := 43) dX7_thieves_43 ev_isWithinN lX7_101 YX7_isWithin SX7_isWithin rfl (by decide) rfl (Nat.le_of_ble_eq_true rfl) ?_
          refine go_if_neB (tgt := 52) (pc := 46) dX7_thieves_46 (by decide) (fun c_46 => ?_) (fun c_46 => ?_)
          · obtain ⟨b, rfl, hb0, hb, hbI, hbC⟩ := py_rg_of (x := y) (a := 0) (b := 1) c_46
            refine go_aload_n (pc := 52) dX7_thieves_52 rfl ?_
            refine go_getR (pc := 53) dX7_thieves_53 fX7_49 rfl rfl ?_
            refine go_aload_n (pc := 56) dX7_thieves_56 rfl ?_
            refine go_getR (pc := 57) dX7_thieves_57 fX7_26 rfl rfl ?_
            refine go_iload_n (pc := 60) dX7_thieves_60 rfl ?_
            refine go_cVi (pc := 61) dX7_thieves_61 (ev_livingB hc hw (by omega)) lX7_214 YX5_livingBehind VX5_livingBehind rfl rfl rfl (by decide) rfl (Nat.le_of_ble_eq_true rfl) (fun s1 hf => ?_)
            have hbl : py_bs (fun p => decide (0 < py_lf H p e)) (H 12) < 32 := Nat.lt_of_lt_of_le (py_bs_lt _ _) (py_p2 w12).2.2
            refine go_cS (pc := 64) dX7_thieves_64 (ev_bitCount hbl) lX7_266 YJ6_bitCount_0f7a4 SJ6_bitCount_0f7a4 rfl (by decide) rfl (Nat.le_of_ble_eq_true rfl) ?_
            refine go_top (y := nI (py_lc H e)) (by rw [py_pc_bs _ w12]; rfl) ?_
            have hl5 : py_lc H e ≤ 5 := Nat.le_trans (py_cn_le _ _) w12
            refine go_istore (pc := 67) dX7_thieves_67 (by decide) rfl ?_
            refine go_aload_n (pc := 69) dX7_thieves_69 rfl ?_
            refine go_getR (pc := 70) dX7_thieves_70 fX7_49 rfl rfl ?_
            refine go_iload_n (pc := 73) dX7_thieves_73 rfl ?_
            refine go_iload (pc := 74) dX7_thieves_74 rfl ?_
            refine go_iload_n (pc := 76) dX7_thieves_76 rfl ?_
            refine go_cV (pc := 77) dX7_thieves_77 (ev_ways hm hl5 hk) lX7_271 YX5_waysToKeep VX5_waysToKeep rfl rfl rfl (by decide) rfl (Nat.le_of_ble_eq_true rfl) ?_
            refine go_top (y := (nI (py_up1 H m e k))) rfl ?_
            refine go_istore (pc := 80) dX7_thieves_80 (by decide) rfl ?_
            refine go_aload_n (pc := 82) dX7_thieves_82 rfl ?_
            refine go_getR (pc := 83) dX7_thieves_83 fX7_49 rfl rfl ?_
            refine go_bipush (v := nI 10) (pc := 86) dX7_thieves_86 (by decide) ?_
            refine go_iload (pc := 88) dX7_thieves_88 rfl ?_
            refine go_cV (pc := 90) dX7_thieves_90 (ev_power (Nat.le_refl _) hl5) lX7_274 YX5_power VX5_power rfl rfl rfl (by decide) rfl (Nat.le_of_ble_eq_true rfl) ?_
            have hp1 : 1 ≤ 10 ^ py_lc H e := Nat.pow_pos (by decide)
            have hp2 : 10 ^ py_lc H e ≤ 10 ^ 5 := Nat.pow_le_pow_right (by decide) hl5
            have hu : py_up1 H m e k < 2 ^ 31 := by have y := py_wy_le (m := m) hk hl5 (2 ^ py_lc H e) (Nat.le_refl _); have z := (py_p2 hl5).2.2; unfold py_up1; omega
            have hg1 : 1 ≤ Nat.gcd (py_up1 H m e k) (10 ^ py_lc H e) := Nat.gcd_pos_of_pos_right _ hp1
            have hg2 : Nat.gcd (py_up1 H m e k) (10 ^ py_lc H e) ≤ 10 ^ py_lc H e := Nat.le_of_dvd hp1 (Nat.gcd_dvd_right _ _)
            refine go_istore (pc := 93) dX7_thieves_93 (by decide) rfl ?_
            refine go_aload_n (pc := 95) dX7_thieves_95 rfl ?_
            refine go_getR (pc := 96) dX7_thieves_96 fX7_49 rfl rfl ?_
            refine go_iload (pc := 99) dX7_thieves_99 rfl ?_
            refine go_iload (pc := 101) dX7_thieves_101 rfl ?_
            refine go_cV (pc := 103) dX7_thieves_103 (ev_gcd hu (by omega)) lX7_277 YX5_commonDivisor VX5_commonDivisor rfl rfl rfl (by decide) rfl (Nat.le_of_ble_eq_true rfl) ?_
            refine go_top (y := nI (Nat.gcd (py_up1 H m e k) (10 ^ py_lc H e))) (by rw [Nat.max_eq_right hg1]) ?_
            refine go_istore (pc := 106) dX7_thieves_106 (by decide) rfl ?_
            refine go_iload (pc := 108) dX7_thieves_108 rfl ?_
            refine go_if_neN (tgt := 118) (pc := 110) dX7_thieves_110 (by omega) (by decide) (fun c_110 => ?_) (fun c_110 => ?_)
            · refine go_iload (pc := 118) dX7_thieves_118 rfl ?_
              refine go_iload (pc := 120) dX7_thieves_120 rfl ?_
              refine go_idivN (pc := 122) dX7_thieves_122 (by omega) (by omega) (by omega) ?_
              exact go_retI (pc := 123) dX7_thieves_123 (by unfold an_thieves; (try simp only [hmC, heC, hkC]); (repeat' split) <;> first | rfl | omega) ⟨⟨py_rc_fr hf (by decide) h1, (by rw [hf 0 10 (by decide) (by decide)]; exact h2), py_tc_fr hf (by decide) (by decide) (by decide) (by decide) h3, (by rw [hf 0 9 (by decide) (by decide)]; exact h4), py_hc_fr hf (by decide) (by decide) h5, py_ac_fr hf (by decide) h6, py_im_fr hf (by decide) (by decide) h7, py_im_fr hf (by decide) (by decide) h8, py_tr_fr hf (by decide) h9, py_cr_fr hf (by decide) h10⟩, hf.wd (by decide) (by decide)⟩
            · refine go_iload (pc := 113) dX7_thieves_113 rfl ?_
              refine go_goto (tgt := 120) (pc := 115) dX7_thieves_115 (by decide) ?_
              refine go_iload (pc := 120) dX7_thieves_120 rfl ?_
              refine go_idivN (pc := 122) dX7_thieves_122 (by omega) (by omega) (by omega) ?_
              exact go_retI (pc := 123) dX7_thieves_123 (by unfold an_thieves; (try simp only [hmC, heC, hkC]); (repeat' split) <;> first | rfl | omega) ⟨⟨py_rc_fr hf (by decide) h1, (by rw [hf 0 10 (by decide) (by decide)]; exact h2), py_tc_fr hf (by decide) (by decide) (by decide) (by decide) h3, (by rw [hf 0 9 (by decide) (by decide)]; exact h4), py_hc_fr hf (by decide) (by decide) h5, py_ac_fr hf (by decide) h6, py_im_fr hf (by decide) (by decide) h7, py_im_fr hf (by decide) (by decide) h8, py_tr_fr hf (by decide) h9, py_cr_fr hf (by decide) h10⟩, hf.wd (by decide) (by decide)⟩
          · refine go_ldc (pc := 49) dX7_thieves_49 kX7_67 ?_
            exact go_retI (pc := 51) dX7_thieves_51 (by unfold an_thieves; (repeat' split) <;> first | rfl | omega) ⟨hI, py_fr.rf _ _ σ⟩
  · refine go_ldc (pc := 10) dX7_thieves_10 kX7_143 ?_
    exact go_retI (pc := 12) dX7_thieves_12 (by unfold an_thieves; (repeat' split) <;> first | rfl | omega) ⟨hI, py_fr.rf _ _ σ⟩
set_option maxHeartbeats 4000000 in
set_option maxRecDepth 100000 in
theorem cl_drawn {X : py_X} {σ : py_H} {R : py_Rt} {q : Int32} {B : Nat → Nat} {N : Nat} {ft : Int32} {H : Nat → Nat} {n : Nat} {As : Nat → Nat → Nat} {I0 I1 : Option (Nat → Nat)} {t : Nat} {tr : Nat → Int32} (hI : py_IC σ R q B N ft H n As I0 I1 t tr) (hW : py_IW H n As I0 I1 t) {x sd y : Int32} : py_Ev X 6 yX7_drawn cX7_drawn 4 (some .int) [.ref 0, .int (x), .int (sd), .int (y)] σ (py_vs (some (.int (an_drawn H x sd y))) (fun s => py_IC s R q B N ft H n As I0 I1 t tr ∧ py_fr py_SC [] σ s)) := by
  obtain ⟨h1, h2, h3, h4, h5, h6, h7, h8, h9, h10⟩ := id hI
  obtain ⟨hw, hA, hJ0, hJ1, ht16⟩ := id hW
  obtain ⟨w0, w1, w2, w3, w12, w03, w00, wW, wP, wR⟩ := id hw
  have hc := h5.2
  refine py_ofI (own := RX7) YX7_drawn.2.2.2.2 rfl rfl (Nat.le_of_ble_eq_true rfl)  ?_
  show py_Go X RX7 cX7_drawn 4 6 0 [some (.ref 0), some (.int (x)), some (.int (sd)), some (.int (y))] [] σ (py_vs (some (.int (an_drawn H x sd y))) (fun s => py_IC s R q B N ft H n As I0 I1 t tr ∧ py_fr py_SC [] σ s))
  refine go_aload_n (pc := 0) dX7_drawn_0 rfl ?_
  refine go_getR (pc := 1) dX7_drawn_1 fX7_26 rfl rfl ?_
  refine go_getI (x := (py_b (0 < H 0))) (pc := 4) dX7_drawn_4 fX7_139 rfl rfl h5.1 ?_
  refine go_if_neB (tgt := 13) (pc := 7) dX7_drawn_7 (by decide) (fun c_7 => ?_) (fun c_7 => ?_)
  · refine go_iload_n (pc := 13) dX7_drawn_13 rfl ?_
    refine go_cS (pc := 14) dX7_drawn_14 ev_isAhead lX7_207 YX7_isAhead SX7_isAhead rfl (by decide) rfl (Nat.le_of_ble_eq_true rfl) ?_
    refine go_if_eqB (tgt := 40) (pc := 17) dX7_drawn_17 (by decide) (fun c_17 => ?_) (fun c_17 => ?_)
    · refine go_ldc (pc := 40) dX7_drawn_40 kX7_67 ?_
      exact go_retI (pc := 42) dX7_drawn_42 (by unfold an_drawn; (repeat' split) <;> first | rfl | omega) ⟨hI, py_fr.rf _ _ σ⟩
    · obtain ⟨e, rfl, he0, he, heI, heC⟩ := py_rg_of (x := x) (a := 0) (b := 60) c_17
      refine go_iload_n (pc := 20) dX7_drawn_20 rfl ?_
      refine go_iconst (v := nI 1) (pc := 21) dX7_drawn_21 (by decide) ?_
      refine go_ldcw (pc := 22) dX7_drawn_22 kX7_280 ?_
      refine go_cS (pc := 25) dX7_drawn_25 ev_isWithin lX7_101 YX7_isWithin SX7_isWithin rfl (by decide) rfl (Nat.le_of_ble_eq_true rfl) ?_
      have hm1 : (nI 1).toInt = 1 := by decide
      have hm9 : (999999 : Int32).toInt = 999999 := by decide
      refine go_if_eqB (tgt := 40) (pc := 28) dX7_drawn_28 (by decide) (fun c_28 => ?_) (fun c_28 => ?_)
      · refine go_ldc (pc := 40) dX7_drawn_40 kX7_67 ?_
        exact go_retI (pc := 42) dX7_drawn_42 (by unfold an_drawn; (repeat' split) <;> first | rfl | omega) ⟨hI, py_fr.rf _ _ σ⟩
      · obtain ⟨k, rfl, hk0, hk, hkI, hkC⟩ := py_rg_of (x := sd) (a := 1) (b := 999999) ⟨by omega, by omega⟩
        refine go_iload_n (pc := 31) dX7_drawn_31 rfl ?_
        refine go_iconst (v := nI 0) (pc := 32) dX7_drawn_32 (by decide) ?_
        refine go_iconst (v := nI 1) (pc := 33) dX7_drawn_33 (by decide) ?_
        refine go_cS (pc := 34) dX7_drawn_34 ev_isWithinN lX7_101 YX7_isWithin SX7_isWithin rfl (by decide) rfl (Nat.le_of_ble_eq_true rfl) ?_
        refine go_if_neB (tgt := 43) (pc := 37) dX7_drawn_37 (by decide) (fun c_37 => ?_) (fun c_37 => ?_)
        · obtain ⟨b, rfl, hb0, hb, hbI, hbC⟩ := py_rg_of (x := y) (a := 0) (b := 1) c_37
          refine go_aload_n (pc := 43) dX7_drawn_43 rfl ?_
          refine go_getR (pc := 44) dX7_drawn_44 fX7_49 rfl rfl ?_
          refine go_aload_n (pc := 47) dX7_drawn_47 rfl ?_
          refine go_getR (pc := 48) dX7_drawn_48 fX7_26 rfl rfl ?_
          refine go_iload_n (pc := 51) dX7_drawn_51 rfl ?_
          refine go_iload_n (pc := 52) dX7_drawn_52 rfl ?_
          refine go_cVv (pc := 53) dX7_drawn_53 (ev_draw hc hw he (by omega)) lX7_281 YX5_draw VX5_draw rfl rfl rfl (by decide) rfl (Nat.le_of_ble_eq_true rfl) (fun s1 hs => ?_)
          obtain ⟨hga, hf⟩ := hs
          have hc1 := py_hd_fr hf (by decide) (by decide) hc
          refine go_iload_n (pc := 56) dX7_drawn_56 rfl ?_
          refine go_if_neN (tgt := 74) (pc := 57) dX7_drawn_57 (by omega) (by decide) (fun c_57 => ?_) (fun c_57 => ?_)
          · refine go_aload_n (pc := 74) dX7_drawn_74 rfl ?_
            refine go_getR (pc := 75) dX7_drawn_75 fX7_49 rfl rfl ?_
            refine go_aload_n (pc := 78) dX7_drawn_78 rfl ?_
            refine go_getR (pc := 79) dX7_drawn_79 fX7_26 rfl rfl ?_
            refine go_cV (pc := 82) dX7_drawn_82 (ev_agedCells hc1 hw (fun p hp => Nat.le_trans (py_dg_le H _ _ p) (wP p hp).2.2.2.2.1) hga) lX7_288 YX5_agedCells VX5_agedCells rfl rfl rfl (by decide) rfl (Nat.le_of_ble_eq_true rfl) ?_
            exact go_retI (pc := 85) dX7_drawn_85 (by unfold an_drawn; (try simp only [heC, hkC]); (repeat' split) <;> first | rfl | omega) ⟨⟨py_rc_fr hf (by decide) h1, (by rw [hf 0 10 (by decide) (by decide)]; exact h2), py_tc_fr hf (by decide) (by decide) (by decide) (by decide) h3, (by rw [hf 0 9 (by decide) (by decide)]; exact h4), py_hc_fr hf (by decide) (by decide) h5, py_ac_fr hf (by decide) h6, py_im_fr hf (by decide) (by decide) h7, py_im_fr hf (by decide) (by decide) h8, py_tr_fr hf (by decide) h9, py_cr_fr hf (by decide) h10⟩, hf.wd (by decide) (by decide)⟩
          · refine go_aload_n (pc := 60) dX7_drawn_60 rfl ?_
            refine go_getR (pc := 61) dX7_drawn_61 fX7_49 rfl rfl ?_
            refine go_aload_n (pc := 64) dX7_drawn_64 rfl ?_
            refine go_getR (pc := 65) dX7_drawn_65 fX7_26 rfl rfl ?_
            refine go_cV (pc := 68) dX7_drawn_68 (ev_agedLiving hc1 hw (fun p hp => Nat.le_trans (py_dg_le H _ _ p) (wP p hp).2.2.2.2.1) hga) lX7_285 YX5_agedLiving VX5_agedLiving rfl rfl rfl (by decide) rfl (Nat.le_of_ble_eq_true rfl) ?_
            refine go_goto (tgt := 85) (pc := 71) dX7_drawn_71 (by decide) ?_
            exact go_retI (pc := 85) dX7_drawn_85 (by unfold an_drawn; (try simp only [heC, hkC]); (repeat' split) <;> first | rfl | omega) ⟨⟨py_rc_fr hf (by decide) h1, (by rw [hf 0 10 (by decide) (by decide)]; exact h2), py_tc_fr hf (by decide) (by decide) (by decide) (by decide) h3, (by rw [hf 0 9 (by decide) (by decide)]; exact h4), py_hc_fr hf (by decide) (by decide) h5, py_ac_fr hf (by decide) h6, py_im_fr hf (by decide) (by decide) h7, py_im_fr hf (by decide) (by decide) h8, py_tr_fr hf (by decide) h9, py_cr_fr hf (by decide) h10⟩, hf.wd (by decide) (by decide)⟩
        · refine go_ldc (pc := 40) dX7_drawn_40 kX7_67 ?_
          exact go_retI (pc := 42) dX7_drawn_42 (by unfold an_drawn; (repeat' split) <;> first | rfl | omega) ⟨hI, py_fr.rf _ _ σ⟩
  · refine go_ldc (pc := 10) dX7_drawn_10 kX7_143 ?_
    exact go_retI (pc := 12) dX7_drawn_12 (by unfold an_drawn; (repeat' split) <;> first | rfl | omega) ⟨hI, py_fr.rf _ _ σ⟩
