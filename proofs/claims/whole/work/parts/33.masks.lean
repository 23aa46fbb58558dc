/-! contracts: the reference's public methods: the small questions, images, undo -/
set_option maxHeartbeats 4000000 in
set_option maxRecDepth 100000 in
theorem mo_fault {X : py_X} {σ : py_H} {R : py_Rt} {q : Int32} {B : Nat → Nat} {N : Nat} {ft : Int32} {H : Nat → Nat} {n : Nat} {As : Nat → Nat → Nat} {I0 I1 : Option (Nat → Nat)} {t : Nat} {tr : Nat → Int32} (hI : py_IM σ R q B N ft H n As I0 I1 t tr) (hW : py_IW H n As I0 I1 t) : py_Ev X 0 yX8_fault cX8_fault 1 (some .int) [.ref 47] σ (py_vs (some (.int (ft))) (fun s => py_IM s R q B N ft H n As I0 I1 t tr ∧ py_fr py_SM [] σ s)) := by
  obtain ⟨h1, h2, h3, h4, h5, h6, h7, h8, h9⟩ := id hI
  obtain ⟨hw, hA, hJ0, hJ1, ht16⟩ := id hW
  obtain ⟨w0, w1, w2, w3, w12, w03, w00, wW, wP, wR⟩ := id hw
  have hm := py_wm_of hw
  refine py_ofI (own := RX8) YX8_fault.2.2.2.2 rfl rfl (Nat.le_of_ble_eq_true rfl)  ?_
  show py_Go X RX8 cX8_fault 1 0 0 [some (.ref 47)] [] σ (py_vs (some (.int (ft))) (fun s => py_IM s R q B N ft H n As I0 I1 t tr ∧ py_fr py_SM [] σ s))
  refine go_aload_n (pc := 0) dX8_fault_0 rfl ?_
  refine go_getI (x := (ft)) (pc := 1) dX8_fault_1 fX8_111 rfl rfl h4 ?_
  exact go_retI (pc := 4) dX8_fault_4 rfl ⟨hI, py_fr.rf _ _ σ⟩
set_option maxHeartbeats 4000000 in
set_option maxRecDepth 100000 in
theorem mo_status {X : py_X} {σ : py_H} {R : py_Rt} {q : Int32} {B : Nat → Nat} {N : Nat} {ft : Int32} {H : Nat → Nat} {n : Nat} {As : Nat → Nat → Nat} {I0 I1 : Option (Nat → Nat)} {t : Nat} {tr : Nat → Int32} (hI : py_IM σ R q B N ft H n As I0 I1 t tr) (hW : py_IW H n As I0 I1 t) : py_Ev X 0 yX8_status cX8_status 1 (some .int) [.ref 47] σ (py_vs (some (.int (q))) (fun s => py_IM s R q B N ft H n As I0 I1 t tr ∧ py_fr py_SM [] σ s)) := by
  obtain ⟨h1, h2, h3, h4, h5, h6, h7, h8, h9⟩ := id hI
  obtain ⟨hw, hA, hJ0, hJ1, ht16⟩ := id hW
  obtain ⟨w0, w1, w2, w3, w12, w03, w00, wW, wP, wR⟩ := id hw
  have hm := py_wm_of hw
  refine py_ofI (own := RX8) YX8_status.2.2.2.2 rfl rfl (Nat.le_of_ble_eq_true rfl)  ?_
  show py_Go X RX8 cX8_status 1 0 0 [some (.ref 47)] [] σ (py_vs (some (.int (q))) (fun s => py_IM s R q B N ft H n As I0 I1 t tr ∧ py_fr py_SM [] σ s))
  refine go_aload_n (pc := 0) dX8_status_0 rfl ?_
  refine go_getI (x := (q)) (pc := 1) dX8_status_1 fX8_54 rfl rfl h2 ?_
  exact go_retI (pc := 4) dX8_status_4 rfl ⟨hI, py_fr.rf _ _ σ⟩
theorem py_tm_add {σ : py_H} {B : Nat → Nat} {N c : Nat} (h : py_tm σ B N) (hN : N < 100) (hc : c ≤ 255) : py_tm (py_up (py_up σ 52 N (nI c)) 47 6 (nI (N + 1))) (va_up B N c) (N + 1) := by
  refine ⟨py_up_s _ _ _ _, by omega, fun i hi => ?_⟩
  rw [py_up_k _ _ _ (by decide)]
  unfold va_up
  by_cases e : i = N
  · subst e; rw [py_up_s, if_pos rfl]; exact ⟨rfl, hc⟩
  · rw [py_up_j _ _ _ e, if_neg e]; exact h.2.2 i (by omega)
set_option maxHeartbeats 4000000 in
set_option maxRecDepth 100000 in
theorem mo_feed {X : py_X} {σ : py_H} {R : py_Rt} {q : Int32} {B : Nat → Nat} {N : Nat} {ft : Int32} {H : Nat → Nat} {n : Nat} {As : Nat → Nat → Nat} {I0 I1 : Option (Nat → Nat)} {t : Nat} {tr : Nat → Int32} (hI : py_IM σ R q B N ft H n As I0 I1 t tr) (hW : py_IW H n As I0 I1 t) {x : Int32} : py_Ev X 1 yX8_feed cX8_feed 2 (some .int) [.ref 47, .int (x)] σ (py_vs (some (.int (an_feed N x))) (fun s => py_IM s R q (nb_feed B N x) (nn_feed N x) ft H n As I0 I1 t tr ∧ py_fr py_SM [] σ s)) := by
  obtain ⟨h1, h2, h3, h4, h5, h6, h7, h8, h9⟩ := id hI
  obtain ⟨hw, hA, hJ0, hJ1, ht16⟩ := id hW
  obtain ⟨w0, w1, w2, w3, w12, w03, w00, wW, wP, wR⟩ := id hw
  have hm := py_wm_of hw
  refine py_ofI (own := RX8) YX8_feed.2.2.2.2 rfl rfl (Nat.le_of_ble_eq_true rfl)  ?_
  show py_Go X RX8 cX8_feed 2 1 0 [some (.ref 47), some (.int (x))] [] σ (py_vs (some (.int (an_feed N x))) (fun s => py_IM s R q (nb_feed B N x) (nn_feed N x) ft H n As I0 I1 t tr ∧ py_fr py_SM [] σ s))
  refine go_iload_n (pc := 0) dX8_feed_0 rfl ?_
  refine go_iconst (v := nI 0) (pc := 1) dX8_feed_1 (by decide) ?_
  refine go_sipush (v := nI 255) (pc := 2) dX8_feed_2 (by decide) ?_
  refine go_cS (pc := 5) dX8_feed_5 ev_inN lX8_59 YX8_in SX8_in rfl (by decide) rfl (Nat.le_of_ble_eq_true rfl) ?_
  refine go_if_neB (tgt := 14) (pc := 8) dX8_feed_8 (by decide) (fun c_8 => ?_) (fun c_8 => ?_)
  · obtain ⟨c, rfl, hc0, hc, hcI, hcC⟩ := py_rg_of (x := x) (a := 0) (b := 255) c_8
    have hN100 := h3.2.1
    refine go_aload_n (pc := 14) dX8_feed_14 rfl ?_
    refine go_getI (x := (nI N)) (pc := 15) dX8_feed_15 fX8_85 rfl rfl h3.1 ?_
    refine go_bipush (v := nI 100) (pc := 18) dX8_feed_18 (by decide) ?_
    refine go_icmp_neN (tgt := 26) (pc := 20) dX8_feed_20 (by omega) (by omega) (by decide) (fun c_20 => ?_) (fun c_20 => ?_)
    · refine go_aload_n (pc := 26) dX8_feed_26 rfl ?_
      refine go_getR (pc := 27) dX8_feed_27 fX8_22 rfl rfl ?_
      refine go_aload_n (pc := 30) dX8_feed_30 rfl ?_
      refine go_getI (x := (nI N)) (pc := 31) dX8_feed_31 fX8_85 rfl rfl h3.1 ?_
      refine go_iload_n (pc := 34) dX8_feed_34 rfl ?_
      refine go_astN (pc := 35) dX8_feed_35 rfl (by show N < 100; omega) ?_
      refine go_aload_n (pc := 36) dX8_feed_36 rfl ?_
      refine go_dup (pc := 37) dX8_feed_37 rfl ?_
      refine go_getI (x := (nI N)) (pc := 38) dX8_feed_38 fX8_85 rfl rfl (by rw [py_up_k _ _ _ (by decide)]; exact h3.1) ?_
      refine go_iconst (v := nI 1) (pc := 41) dX8_feed_41 (by decide) ?_
      refine go_iaddN (pc := 42) dX8_feed_42  ?_
      refine go_putI (pc := 43) dX8_feed_43 fX8_85 rfl rfl ?_
      refine go_aload_n (pc := 46) dX8_feed_46 rfl ?_
      refine go_getI (x := (nI (N + 1))) (pc := 47) dX8_feed_47 fX8_85 rfl rfl (py_up_s _ _ _ _) ?_
      have hNl : N < 100 := by omega
      have eb : nb_feed B N (nI c) = va_up B N c := by unfold nb_feed; rw [if_pos (by omega), hcC]
      have en : nn_feed N (nI c) = N + 1 := by unfold nn_feed; rw [if_pos (by omega)]
      have hf : py_fr [52] [(47, 6)] σ (py_up (py_up σ 52 N (nI c)) 47 6 (nI (N + 1))) := ((py_fr.rf [52] [(47, 6)] σ).up (by decide) _).ut (by decide) _
      refine go_retI (pc := 50) dX8_feed_50 (by unfold an_feed; (repeat' split) <;> first | rfl | omega) ⟨?_, hf.wd (by decide) (by decide)⟩
      rw [eb, en]
      exact ⟨py_rk_fr hf (by decide) h1, (by rw [hf 47 4 (by decide) (by decide)]; exact h2), py_tm_add h3 hNl hc, (by rw [hf 47 7 (by decide) (by decide)]; exact h4), (by rw [hf.at 53 (by decide) (by decide)]; exact h5), py_am_fr hf (by decide) h6, py_ik_fr hf (by decide) h7, py_ik_fr hf (by decide) h8, py_tn_fr hf (by decide) h9⟩
    · refine go_ldc (pc := 23) dX8_feed_23 kX8_88 ?_
      have eb : nb_feed B N ((nI c)) = B := by unfold nb_feed; rw [if_neg (by omega)]
      have en : nn_feed N ((nI c)) = N := by unfold nn_feed; rw [if_neg (by omega)]
      exact go_retI (pc := 25) dX8_feed_25 (by unfold an_feed; (repeat' split) <;> first | rfl | omega) ⟨by rw [eb, en]; exact hI, py_fr.rf _ _ σ⟩
  · refine go_ldc (pc := 11) dX8_feed_11 kX8_67 ?_
    have eb : nb_feed B N ((x)) = B := by unfold nb_feed; rw [if_neg (by omega)]
    have en : nn_feed N ((x)) = N := by unfold nn_feed; rw [if_neg (by omega)]
    exact go_retI (pc := 13) dX8_feed_13 (by unfold an_feed; (repeat' split) <;> first | rfl | omega) ⟨by rw [eb, en]; exact hI, py_fr.rf _ _ σ⟩
set_option maxHeartbeats 4000000 in
set_option maxRecDepth 100000 in
theorem mo_picture {X : py_X} {σ : py_H} {R : py_Rt} {q : Int32} {B : Nat → Nat} {N : Nat} {ft : Int32} {H : Nat → Nat} {n : Nat} {As : Nat → Nat → Nat} {I0 I1 : Option (Nat → Nat)} {t : Nat} {tr : Nat → Int32} (hI : py_IM σ R q B N ft H n As I0 I1 t tr) (hW : py_IW H n As I0 I1 t) {x y : Int32} : py_Ev X 2 yX8_picture cX8_picture 4 (some .int) [.ref 47, .int (x), .int (y)] σ (py_vs (some (.int (an_picture H x y))) (fun s => py_IM s R q B N ft H n As I0 I1 t tr ∧ py_fr py_SM [] σ s)) := by
  obtain ⟨h1, h2, h3, h4, h5, h6, h7, h8, h9⟩ := id hI
  obtain ⟨hw, hA, hJ0, hJ1, ht16⟩ := id hW
  obtain ⟨w0, w1, w2, w3, w12, w03, w00, wW, wP, wR⟩ := id hw
  have hm := py_wm_of hw
  refine py_ofI (own := RX8) YX8_picture.2.2.2.2 rfl rfl (Nat.le_of_ble_eq_true rfl)  ?_
  show py_Go X RX8 cX8_picture 4 2 0 [some (.ref 47), some (.int (x)), some (.int (y)), none] [] σ (py_vs (some (.int (an_picture H x y))) (fun s => py_IM s R q B N ft H n As I0 I1 t tr ∧ py_fr py_SM [] σ s))
  refine go_aload_n (pc := 0) dX8_picture_0 rfl ?_
  refine go_iload_n (pc := 1) dX8_picture_1 rfl ?_
  refine go_cV (pc := 2) dX8_picture_2 (ev_isPicture h5 w12) lX8_177 YX8_isPicture VX8_isPicture rfl rfl rfl (by decide) rfl (Nat.le_of_ble_eq_true rfl) ?_
  refine go_if_neB (tgt := 11) (pc := 5) dX8_picture_5 (by decide) (fun c_5 => ?_) (fun c_5 => ?_)
  · obtain ⟨p, rfl, hp, hpI, hpC⟩ := py_pi_of (x := x) c_5
    have hcl : H (15 + 4 * p) ≤ 60 := (wP p hp).2.2.2.2.1
    refine go_bipush (v := nI 13) (pc := 11) dX8_picture_11 (by decide) ?_
    refine go_iconst (v := nI 4) (pc := 13) dX8_picture_13 (by decide) ?_
    refine go_iload_n (pc := 14) dX8_picture_14 rfl ?_
    refine go_imulN (pc := 15) dX8_picture_15  ?_
    refine go_iaddN (pc := 16) dX8_picture_16  ?_
    refine go_istore_n (pc := 17) dX8_picture_17 (by decide) rfl ?_
    refine go_iload_n (pc := 18) dX8_picture_18 rfl ?_
    rcases (show (y).toInt = 0 ∨ (y).toInt = 1 ∨ (y).toInt = 2 ∨ (y).toInt = 3 ∨ (y).toInt = 4 ∨ (y).toInt < 0 ∨ 4 < (y).toInt by omega) with hk | hk | hk | hk | hk | hk
    · refine go_swIn (off := 33) (pc := 19) (tgt := 52) dX8_picture_19 (by omega) (by omega) (by rw [hk]; rfl) (by decide) ?_
      refine go_aload_n (pc := 52) dX8_picture_52 rfl ?_
      refine go_getR (pc := 53) dX8_picture_53 fX8_25 rfl rfl ?_
      refine go_iload_n (pc := 56) dX8_picture_56 rfl ?_
      refine go_iconst (v := nI 1) (pc := 57) dX8_picture_57 (by decide) ?_
      refine go_iaddN (pc := 58) dX8_picture_58  ?_
      refine go_aldN (x := (nI (H (14 + 4 * p)))) (pc := 59) dX8_picture_59 rfl (by show (13 + (4 * p)) + 1 < 33; omega) (py_hm_at h5 (show (13 + (4 * p)) + 1 = 14 + 4 * p by omega) (by omega)) ?_
      exact go_retI (pc := 60) dX8_picture_60 (by unfold an_picture; (try simp only [hpC]); (repeat' split) <;> first | rfl | omega) ⟨hI, py_fr.rf _ _ σ⟩
    · refine go_swIn (off := 42) (pc := 19) (tgt := 61) dX8_picture_19 (by omega) (by omega) (by rw [hk]; rfl) (by decide) ?_
      refine go_aload_n (pc := 61) dX8_picture_61 rfl ?_
      refine go_getR (pc := 62) dX8_picture_62 fX8_25 rfl rfl ?_
      refine go_iload_n (pc := 65) dX8_picture_65 rfl ?_
      refine go_iconst (v := nI 2) (pc := 66) dX8_picture_66 (by decide) ?_
      refine go_iaddN (pc := 67) dX8_picture_67  ?_
      refine go_aldN (x := (nI (H (15 + 4 * p)))) (pc := 68) dX8_picture_68 rfl (by show (13 + (4 * p)) + 2 < 33; omega) (py_hm_at h5 (show (13 + (4 * p)) + 2 = 15 + 4 * p by omega) (by omega)) ?_
      exact go_retI (pc := 69) dX8_picture_69 (by unfold an_picture; (try simp only [hpC]); (repeat' split) <;> first | rfl | omega) ⟨hI, py_fr.rf _ _ σ⟩
    · refine go_swIn (off := 51) (pc := 19) (tgt := 70) dX8_picture_19 (by omega) (by omega) (by rw [hk]; rfl) (by decide) ?_
      refine go_aload_n (pc := 70) dX8_picture_70 rfl ?_
      refine go_getR (pc := 71) dX8_picture_71 fX8_25 rfl rfl ?_
      refine go_iload_n (pc := 74) dX8_picture_74 rfl ?_
      refine go_iconst (v := nI 3) (pc := 75) dX8_picture_75 (by decide) ?_
      refine go_iaddN (pc := 76) dX8_picture_76  ?_
      refine go_aldN (x := (nI (H (16 + 4 * p)))) (pc := 77) dX8_picture_77 rfl (by show (13 + (4 * p)) + 3 < 33; omega) (py_hm_at h5 (show (13 + (4 * p)) + 3 = 16 + 4 * p by omega) (by omega)) ?_
      exact go_retI (pc := 78) dX8_picture_78 (by unfold an_picture; (try simp only [hpC]); (repeat' split) <;> first | rfl | omega) ⟨hI, py_fr.rf _ _ σ⟩
    · refine go_swIn (off := 60) (pc := 19) (tgt := 79) dX8_picture_19 (by omega) (by omega) (by rw [hk]; rfl) (by decide) ?_
      refine go_aload_n (pc := 79) dX8_picture_79 rfl ?_
      refine go_getR (pc := 80) dX8_picture_80 fX8_25 rfl rfl ?_
      refine go_iload_n (pc := 83) dX8_picture_83 rfl ?_
      refine go_iconst (v := nI 2) (pc := 84) dX8_picture_84 (by decide) ?_
      refine go_iaddN (pc := 85) dX8_picture_85  ?_
      refine go_aldN (x := (nI (H (15 + 4 * p)))) (pc := 86) dX8_picture_86 rfl (by show (13 + (4 * p)) + 2 < 33; omega) (py_hm_at h5 (show (13 + (4 * p)) + 2 = 15 + 4 * p by omega) (by omega)) ?_
      refine go_if_leN (tgt := 94) (pc := 87) dX8_picture_87 (by omega) (by decide) (fun c_87 => ?_) (fun c_87 => ?_)
      · refine go_iconst (v := nI 0) (pc := 94) dX8_picture_94 (by decide) ?_
        exact go_retI (pc := 95) dX8_picture_95 (by unfold an_picture; (try simp only [hpC]); (repeat' split) <;> first | rfl | omega) ⟨hI, py_fr.rf _ _ σ⟩
      · refine go_iconst (v := nI 1) (pc := 90) dX8_picture_90 (by decide) ?_
        refine go_goto (tgt := 95) (pc := 91) dX8_picture_91 (by decide) ?_
        exact go_retI (pc := 95) dX8_picture_95 (by unfold an_picture; (try simp only [hpC]); (repeat' split) <;> first | rfl | omega) ⟨hI, py_fr.rf _ _ σ⟩
    · refine go_swIn (off := 77) (pc := 19) (tgt := 96) dX8_picture_19 (by omega) (by omega) (by rw [hk]; rfl) (by decide) ?_
      refine go_aload_n (pc := 96) dX8_picture_96 rfl ?_
      refine go_getR (pc := 97) dX8_picture_97 fX8_25 rfl rfl ?_
      refine go_iload_n (pc := 100) dX8_picture_100 rfl ?_
      refine go_cS (pc := 101) dX8_picture_101 (ev_fades_53 h5 hm hp) lX8_155 YX8_fades SX8_fades rfl (by decide) rfl (Nat.le_of_ble_eq_true rfl) ?_
      exact go_retI (pc := 104) dX8_picture_104 (by unfold an_picture; (try simp only [hpC]); (repeat' split) <;> first | rfl | omega) ⟨hI, py_fr.rf _ _ σ⟩
    · refine go_swOut (pc := 19) (tgt := 105) dX8_picture_19 hk (by decide) ?_
      refine go_ldc (pc := 105) dX8_picture_105 kX8_67 ?_
      exact go_retI (pc := 107) dX8_picture_107 (by unfold an_picture; (repeat' split) <;> first | rfl | omega) ⟨hI, py_fr.rf _ _ σ⟩
  · refine go_ldc (pc := 8) dX8_picture_8 kX8_67 ?_
    exact go_retI (pc := 10) dX8_picture_10 (by unfold an_picture; (repeat' split) <;> first | rfl | omega) ⟨hI, py_fr.rf _ _ σ⟩
set_option maxHeartbeats 4000000 in
set_option maxRecDepth 100000 in
theorem mo_wall {X : py_X} {σ : py_H} {R : py_Rt} {q : Int32} {B : Nat → Nat} {N : Nat} {ft : Int32} {H : Nat → Nat} {n : Nat} {As : Nat → Nat → Nat} {I0 I1 : Option (Nat → Nat)} {t : Nat} {tr : Nat → Int32} (hI : py_IM σ R q B N ft H n As I0 I1 t tr) (hW : py_IW H n As I0 I1 t) {x y : Int32} : py_Ev X 2 yX8_wall cX8_wall 3 (some .int) [.ref 47, .int (x), .int (y)] σ (py_vs (some (.int (an_wall H x y))) (fun s => py_IM s R q B N ft H n As I0 I1 t tr ∧ py_fr py_SM [] σ s)) := by
  obtain ⟨h1, h2, h3, h4, h5, h6, h7, h8, h9⟩ := id hI
  obtain ⟨hw, hA, hJ0, hJ1, ht16⟩ := id hW
  obtain ⟨w0, w1, w2, w3, w12, w03, w00, wW, wP, wR⟩ := id hw
  have hm := py_wm_of hw
  refine py_ofI (own := RX8) YX8_wall.2.2.2.2 rfl rfl (Nat.le_of_ble_eq_true rfl)  ?_
  show py_Go X RX8 cX8_wall 3 2 0 [some (.ref 47), some (.int (x)), some (.int (y))] [] σ (py_vs (some (.int (an_wall H x y))) (fun s => py_IM s R q B N ft H n As I0 I1 t tr ∧ py_fr py_SM [] σ s))
  refine go_aload_n (pc := 0) dX8_wall_0 rfl ?_
  refine go_iload_n (pc := 1) dX8_wall_1 rfl ?_
  refine go_cV (pc := 2) dX8_wall_2 (ev_isWall h5 w3) lX8_180 YX8_isWall VX8_isWall rfl rfl rfl (by decide) rfl (Nat.le_of_ble_eq_true rfl) ?_
  refine go_if_eqB (tgt := 17) (pc := 5) dX8_wall_5 (by decide) (fun c_5 => ?_) (fun c_5 => ?_)
  · refine go_ldc (pc := 17) dX8_wall_17 kX8_67 ?_
    exact go_retI (pc := 19) dX8_wall_19 (by unfold an_wall; (repeat' split) <;> first | rfl | omega) ⟨hI, py_fr.rf _ _ σ⟩
  · obtain ⟨a, rfl, ha, haI, haC⟩ := py_pi_of (x := x) c_5
    refine go_iload_n (pc := 8) dX8_wall_8 rfl ?_
    refine go_iconst (v := nI 0) (pc := 9) dX8_wall_9 (by decide) ?_
    refine go_iconst (v := nI 2) (pc := 10) dX8_wall_10 (by decide) ?_
    refine go_cS (pc := 11) dX8_wall_11 ev_inN lX8_59 YX8_in SX8_in rfl (by decide) rfl (Nat.le_of_ble_eq_true rfl) ?_
    refine go_if_neB (tgt := 20) (pc := 14) dX8_wall_14 (by decide) (fun c_14 => ?_) (fun c_14 => ?_)
    · obtain ⟨k, rfl, hk0, hk, hkI, hkC⟩ := py_rg_of (x := y) (a := 0) (b := 2) c_14
      refine go_iload_n (pc := 20) dX8_wall_20 rfl ?_
      refine go_iconst (v := nI 2) (pc := 21) dX8_wall_21 (by decide) ?_
      refine go_icmp_geN (tgt := 40) (pc := 22) dX8_wall_22 (by omega) (by omega) (by decide) (fun c_22 => ?_) (fun c_22 => ?_)
      · refine go_aload_n (pc := 40) dX8_wall_40 rfl ?_
        refine go_getR (pc := 41) dX8_wall_41 fX8_25 rfl rfl ?_
        refine go_iload_n (pc := 44) dX8_wall_44 rfl ?_
        refine go_cS (pc := 45) dX8_wall_45 (ev_hangOn_53 h5 w12 (fun p hp => Nat.lt_of_lt_of_le (wP p hp).2.2.2.2.2 w3) (by omega)) lX8_127 YX8_hangOn SX8_hangOn rfl (by decide) rfl (Nat.le_of_ble_eq_true rfl) ?_
        exact go_retI (pc := 48) dX8_wall_48 (by unfold an_wall; (try simp only [haC]); (repeat' split) <;> first | rfl | omega) ⟨hI, py_fr.rf _ _ σ⟩
      · rcases (show k = 0 ∨ k = 1 by omega) with hk9 | hk9
        · subst hk9
          refine go_aload_n (pc := 25) dX8_wall_25 rfl ?_
          refine go_getR (pc := 26) dX8_wall_26 fX8_25 rfl rfl ?_
          refine go_iconst (v := nI 4) (pc := 29) dX8_wall_29 (by decide) ?_
          refine go_iconst (v := nI 2) (pc := 30) dX8_wall_30 (by decide) ?_
          refine go_iload_n (pc := 31) dX8_wall_31 rfl ?_
          refine go_imulN (pc := 32) dX8_wall_32  ?_
          refine go_iaddN (pc := 33) dX8_wall_33  ?_
          refine go_iload_n (pc := 34) dX8_wall_34 rfl ?_
          refine go_iaddN (pc := 35) dX8_wall_35  ?_
          refine go_aldN (x := (nI (H (4 + 2 * a)))) (pc := 36) dX8_wall_36 rfl (by show (4 + (2 * a)) + 0 < 33; omega) (py_hm_at h5 (show (4 + (2 * a)) + 0 = 4 + 2 * a by omega) (by omega)) ?_
          refine go_goto (tgt := 48) (pc := 37) dX8_wall_37 (by decide) ?_
          exact go_retI (pc := 48) dX8_wall_48 (by unfold an_wall; (try simp only [haC]); (repeat' split) <;> first | rfl | omega) ⟨hI, py_fr.rf _ _ σ⟩
        · subst hk9
          refine go_aload_n (pc := 25) dX8_wall_25 rfl ?_
          refine go_getR (pc := 26) dX8_wall_26 fX8_25 rfl rfl ?_
          refine go_iconst (v := nI 4) (pc := 29) dX8_wall_29 (by decide) ?_
          refine go_iconst (v := nI 2) (pc := 30) dX8_wall_30 (by decide) ?_
          refine go_iload_n (pc := 31) dX8_wall_31 rfl ?_
          refine go_imulN (pc := 32) dX8_wall_32  ?_
          refine go_iaddN (pc := 33) dX8_wall_33  ?_
          refine go_iload_n (pc := 34) dX8_wall_34 rfl ?_
          refine go_iaddN (pc := 35) dX8_wall_35  ?_
          refine go_aldN (x := (nI (H (5 + 2 * a)))) (pc := 36) dX8_wall_36 rfl (by show (4 + (2 * a)) + 1 < 33; omega) (py_hm_at h5 (show (4 + (2 * a)) + 1 = 5 + 2 * a by omega) (by omega)) ?_
          refine go_goto (tgt := 48) (pc := 37) dX8_wall_37 (by decide) ?_
          exact go_retI (pc := 48) dX8_wall_48 (by unfold an_wall; (try simp only [haC]); (repeat' split) <;> first | rfl | omega) ⟨hI, py_fr.rf _ _ σ⟩
    · refine go_ldc (pc := 17) dX8_wall_17 kX8_67 ?_
      exact go_retI (pc := 19) dX8_wall_19 (by unfold an_wall; (repeat' split) <;> first | rfl | omega) ⟨hI, py_fr.rf _ _ σ⟩
set_option maxHeartbeats 4000000 in
set_option maxRecDepth 100000 in
theorem mo_kind {X : py_X} {σ : py_H} {R : py_Rt} {q : Int32} {B : Nat → Nat} {N : Nat} {ft : Int32} {H : Nat → Nat} {n : Nat} {As : Nat → Nat → Nat} {I0 I1 : Option (Nat → Nat)} {t : Nat} {tr : Nat → Int32} (hI : py_IM σ R q B N ft H n As I0 I1 t tr) (hW : py_IW H n As I0 I1 t) {x : Int32} : py_Ev X 2 yX8_kind cX8_kind 2 (some .int) [.ref 47, .int (x)] σ (py_vs (some (.int (an_kind H x))) (fun s => py_IM s R q B N ft H n As I0 I1 t tr ∧ py_fr py_SM [] σ s)) := by
  obtain ⟨h1, h2, h3, h4, h5, h6, h7, h8, h9⟩ := id hI
  obtain ⟨hw, hA, hJ0, hJ1, ht16⟩ := id hW
  obtain ⟨w0, w1, w2, w3, w12, w03, w00, wW, wP, wR⟩ := id hw
  have hm := py_wm_of hw
  refine py_ofI (own := RX8) YX8_kind.2.2.2.2 rfl rfl (Nat.le_of_ble_eq_true rfl)  ?_
  show py_Go X RX8 cX8_kind 2 2 0 [some (.ref 47), some (.int (x))] [] σ (py_vs (some (.int (an_kind H x))) (fun s => py_IM s R q B N ft H n As I0 I1 t tr ∧ py_fr py_SM [] σ s))
  refine go_aload_n (pc := 0) dX8_kind_0 rfl ?_
  refine go_iload_n (pc := 1) dX8_kind_1 rfl ?_
  refine go_cV (pc := 2) dX8_kind_2 (ev_isPicture h5 w12) lX8_177 YX8_isPicture VX8_isPicture rfl rfl rfl (by decide) rfl (Nat.le_of_ble_eq_true rfl) ?_
  refine go_if_eqB (tgt := 16) (pc := 5) dX8_kind_5 (by decide) (fun c_5 => ?_) (fun c_5 => ?_)
  · refine go_ldc (pc := 16) dX8_kind_16 kX8_67 ?_
    exact go_retI (pc := 18) dX8_kind_18 (by unfold an_kind; (repeat' split) <;> first | rfl | omega) ⟨hI, py_fr.rf _ _ σ⟩
  · obtain ⟨p, rfl, hp, hpI, hpC⟩ := py_pi_of (x := x) c_5
    refine go_aload_n (pc := 8) dX8_kind_8 rfl ?_
    refine go_iload_n (pc := 9) dX8_kind_9 rfl ?_
    refine go_cV (pc := 10) dX8_kind_10 (ev_kindIn h5 (by omega)) lX8_216 YX8_kindIn VX8_kindIn rfl rfl rfl (by decide) rfl (Nat.le_of_ble_eq_true rfl) ?_
    refine go_goto (tgt := 18) (pc := 13) dX8_kind_13 (by decide) ?_
    exact go_retI (pc := 18) dX8_kind_18 (by unfold an_kind; (try simp only [hpC]); (repeat' split) <;> first | rfl | omega) ⟨hI, py_fr.rf _ _ σ⟩
set_option maxHeartbeats 4000000 in
set_option maxRecDepth 100000 in
theorem mo_as {X : py_X} {σ : py_H} {R : py_Rt} {q : Int32} {B : Nat → Nat} {N : Nat} {ft : Int32} {H : Nat → Nat} {n : Nat} {As : Nat → Nat → Nat} {I0 I1 : Option (Nat → Nat)} {t : Nat} {tr : Nat → Int32} (hI : py_IM σ R q B N ft H n As I0 I1 t tr) (hW : py_IW H n As I0 I1 t) {x y : Int32} : py_Ev X 2 yX8_as cX8_as 5 (some .int) [.ref 47, .int (x), .int (y)] σ (py_vs (some (.int (an_as H x y))) (fun s => py_IM s R (nq_as q H x y) B N ft H n As I0 I1 t tr ∧ py_fr py_SM [] σ s)) := by
  obtain ⟨h1, h2, h3, h4, h5, h6, h7, h8, h9⟩ := id hI
  obtain ⟨hw, hA, hJ0, hJ1, ht16⟩ := id hW
  obtain ⟨w0, w1, w2, w3, w12, w03, w00, wW, wP, wR⟩ := id hw
  have hm := py_wm_of hw
  refine py_ofI (own := RX8) YX8_as.2.2.2.2 rfl rfl (Nat.le_of_ble_eq_true rfl)  ?_
  show py_Go X RX8 cX8_as 5 2 0 [some (.ref 47), some (.int (x)), some (.int (y)), none, none] [] σ (py_vs (some (.int (an_as H x y))) (fun s => py_IM s R (nq_as q H x y) B N ft H n As I0 I1 t tr ∧ py_fr py_SM [] σ s))
  refine go_aload_n (pc := 0) dX8_as_0 rfl ?_
  refine go_iload_n (pc := 1) dX8_as_1 rfl ?_
  refine go_cV (pc := 2) dX8_as_2 (ev_isPicture h5 w12) lX8_177 YX8_isPicture VX8_isPicture rfl rfl rfl (by decide) rfl (Nat.le_of_ble_eq_true rfl) ?_
  refine go_if_eqB (tgt := 17) (pc := 5) dX8_as_5 (by decide) (fun c_5 => ?_) (fun c_5 => ?_)
  · refine go_ldc (pc := 17) dX8_as_17 kX8_67 ?_
    have e2 : nq_as q H ((x)) ((y)) = q := by unfold nq_as; (repeat' split) <;> first | rfl | omega
    exact go_retI (pc := 19) dX8_as_19 (by unfold an_as; (repeat' split) <;> first | rfl | omega) ⟨by rw [e2]; exact hI, py_fr.rf _ _ σ⟩
  · obtain ⟨p, rfl, hp, hpI, hpC⟩ := py_pi_of (x := x) c_5
    have hk5 : H (13 + 4 * p) ≤ 5 := (wP p hp).2.1
    have hk1 : 1 ≤ H (13 + 4 * p) := (wP p hp).1
    refine go_iload_n (pc := 8) dX8_as_8 rfl ?_
    refine go_iconst (v := nI 0) (pc := 9) dX8_as_9 (by decide) ?_
    refine go_iconst (v := nI 5) (pc := 10) dX8_as_10 (by decide) ?_
    refine go_cS (pc := 11) dX8_as_11 ev_inN lX8_59 YX8_in SX8_in rfl (by decide) rfl (Nat.le_of_ble_eq_true rfl) ?_
    refine go_if_neB (tgt := 20) (pc := 14) dX8_as_14 (by decide) (fun c_14 => ?_) (fun c_14 => ?_)
    · obtain ⟨k, rfl, hk0, hk, hkI, hkC⟩ := py_rg_of (x := y) (a := 0) (b := 5) c_14
      refine go_aload_n (pc := 20) dX8_as_20 rfl ?_
      refine go_iload_n (pc := 21) dX8_as_21 rfl ?_
      refine go_cV (pc := 22) dX8_as_22 (ev_kindIn h5 (by omega)) lX8_216 YX8_kindIn VX8_kindIn rfl rfl rfl (by decide) rfl (Nat.le_of_ble_eq_true rfl) ?_
      refine go_istore_n (pc := 25) dX8_as_25 (by decide) rfl ?_
      refine go_iload_n (pc := 26) dX8_as_26 rfl ?_
      refine go_if_eqN (tgt := 55) (pc := 27) dX8_as_27 (by omega) (by decide) (fun c_27 => ?_) (fun c_27 => ?_)
      · refine go_iconst (v := nI 1) (pc := 55) dX8_as_55 (by decide) ?_
        refine go_goto (tgt := 60) (pc := 56) dX8_as_56 (by decide) ?_
        refine go_istore (pc := 60) dX8_as_60 (by decide) rfl ?_
        refine go_iload (pc := 62) dX8_as_62 rfl ?_
        refine go_if_eqN (tgt := 75) (pc := 64) dX8_as_64 (by omega) (by decide) (fun c_64 => ?_) (fun c_64 => ?_)
        · exact absurd c_64 (by decide)
        · refine go_aload_n (pc := 67) dX8_as_67 rfl ?_
          refine go_iload_n (pc := 68) dX8_as_68 rfl ?_
          refine go_cVi (pc := 69) dX8_as_69 ev_mwell lX8_72 YX8_well VX8_well rfl rfl rfl (by decide) rfl (Nat.le_of_ble_eq_true rfl) (fun sf ef => ?_)
          refine go_goto (tgt := 80) (pc := 72) dX8_as_72 (by decide) ?_
          have hia : py_isa (H (13 + 4 * p)) k := by unfold py_isa; omega
          subst ef
          refine go_retI (pc := 80) dX8_as_80 (by unfold an_as; (try simp only [hpC, hkC]); (repeat' split) <;> first | rfl | omega | contradiction) ⟨?_, ((py_fr.rf [] [(47, 4)] σ).ut (by decide) _).wd (by decide) (by decide)⟩
          refine ⟨py_rk_fr ((py_fr.rf [] [(47, 4)] σ).ut (by decide) _) (by decide) h1, ?_, py_tm_fr ((py_fr.rf [] [(47, 4)] σ).ut (by decide) _) (by decide) h3, (by rw [((py_fr.rf [] [(47, 4)] σ).ut (by decide) _) 47 7 (by decide) (by decide)]; exact h4), (by rw [((py_fr.rf [] [(47, 4)] σ).ut (by decide) _).at 53 (by decide) (by decide)]; exact h5), py_am_fr ((py_fr.rf [] [(47, 4)] σ).ut (by decide) _) (by decide) h6, py_ik_fr ((py_fr.rf [] [(47, 4)] σ).ut (by decide) _) (by decide) h7, py_ik_fr ((py_fr.rf [] [(47, 4)] σ).ut (by decide) _) (by decide) h8, py_tn_fr ((py_fr.rf [] [(47, 4)] σ).ut (by decide) _) (by decide) h9⟩
          rw [py_up_s]
          unfold nq_as; (try simp only [hpC, hkC]); (repeat' split) <;> first | rfl | omega | contradiction
      · refine go_iload_n (pc := 30) dX8_as_30 rfl ?_
        refine go_iload_n (pc := 31) dX8_as_31 rfl ?_
        refine go_icmp_eqN (tgt := 55) (pc := 32) dX8_as_32 (by omega) (by omega) (by decide) (fun c_32 => ?_) (fun c_32 => ?_)
        · refine go_iconst (v := nI 1) (pc := 55) dX8_as_55 (by decide) ?_
          refine go_goto (tgt := 60) (pc := 56) dX8_as_56 (by decide) ?_
          refine go_istore (pc := 60) dX8_as_60 (by decide) rfl ?_
          refine go_iload (pc := 62) dX8_as_62 rfl ?_
          refine go_if_eqN (tgt := 75) (pc := 64) dX8_as_64 (by omega) (by decide) (fun c_64 => ?_) (fun c_64 => ?_)
          · exact absurd c_64 (by decide)
          · refine go_aload_n (pc := 67) dX8_as_67 rfl ?_
            refine go_iload_n (pc := 68) dX8_as_68 rfl ?_
            refine go_cVi (pc := 69) dX8_as_69 ev_mwell lX8_72 YX8_well VX8_well rfl rfl rfl (by decide) rfl (Nat.le_of_ble_eq_true rfl) (fun sf ef => ?_)
            refine go_goto (tgt := 80) (pc := 72) dX8_as_72 (by decide) ?_
            have hia : py_isa (H (13 + 4 * p)) k := by unfold py_isa; omega
            subst ef
            refine go_retI (pc := 80) dX8_as_80 (by unfold an_as; (try simp only [hpC, hkC]); (repeat' split) <;> first | rfl | omega | contradiction) ⟨?_, ((py_fr.rf [] [(47, 4)] σ).ut (by decide) _).wd (by decide) (by decide)⟩
            refine ⟨py_rk_fr ((py_fr.rf [] [(47, 4)] σ).ut (by decide) _) (by decide) h1, ?_, py_tm_fr ((py_fr.rf [] [(47, 4)] σ).ut (by decide) _) (by decide) h3, (by rw [((py_fr.rf [] [(47, 4)] σ).ut (by decide) _) 47 7 (by decide) (by decide)]; exact h4), (by rw [((py_fr.rf [] [(47, 4)] σ).ut (by decide) _).at 53 (by decide) (by decide)]; exact h5), py_am_fr ((py_fr.rf [] [(47, 4)] σ).ut (by decide) _) (by decide) h6, py_ik_fr ((py_fr.rf [] [(47, 4)] σ).ut (by decide) _) (by decide) h7, py_ik_fr ((py_fr.rf [] [(47, 4)] σ).ut (by decide) _) (by decide) h8, py_tn_fr ((py_fr.rf [] [(47, 4)] σ).ut (by decide) _) (by decide) h9⟩
            rw [py_up_s]
            unfold nq_as; (try simp only [hpC, hkC]); (repeat' split) <;> first | rfl | omega | contradiction
        · refine go_iload_n (pc := 35) dX8_as_35 rfl ?_
          refine go_iconst (v := nI 1) (pc := 36) dX8_as_36 (by decide) ?_
          refine go_icmp_neN (tgt := 45) (pc := 37) dX8_as_37 (by omega) (by omega) (by decide) (fun c_37 => ?_) (fun c_37 => ?_)
          · refine go_iload_n (pc := 45) dX8_as_45 rfl ?_
            refine go_iconst (v := nI 4) (pc := 46) dX8_as_46 (by decide) ?_
            refine go_icmp_neN (tgt := 59) (pc := 47) dX8_as_47 (by omega) (by omega) (by decide) (fun c_47 => ?_) (fun c_47 => ?_)
            · refine go_iconst (v := nI 0) (pc := 59) dX8_as_59 (by decide) ?_
              refine go_istore (pc := 60) dX8_as_60 (by decide) rfl ?_
              refine go_iload (pc := 62) dX8_as_62 rfl ?_
              refine go_if_eqN (tgt := 75) (pc := 64) dX8_as_64 (by omega) (by decide) (fun c_64 => ?_) (fun c_64 => ?_)
              · refine go_aload_n (pc := 75) dX8_as_75 rfl ?_
                refine go_iconst (v := nI 3) (pc := 76) dX8_as_76 (by decide) ?_
                refine go_cVi (pc := 77) dX8_as_77 ev_mfound lX8_68 YX8_found VX8_found rfl rfl rfl (by decide) rfl (Nat.le_of_ble_eq_true rfl) (fun sf ef => ?_)
                have hia : ¬ py_isa (H (13 + 4 * p)) k := by unfold py_isa; omega
                subst ef
                refine go_retI (pc := 80) dX8_as_80 (by unfold an_as; (try simp only [hpC, hkC]); (repeat' split) <;> first | rfl | omega | contradiction) ⟨?_, ((py_fr.rf [] [(47, 4)] σ).ut (by decide) _).wd (by decide) (by decide)⟩
                refine ⟨py_rk_fr ((py_fr.rf [] [(47, 4)] σ).ut (by decide) _) (by decide) h1, ?_, py_tm_fr ((py_fr.rf [] [(47, 4)] σ).ut (by decide) _) (by decide) h3, (by rw [((py_fr.rf [] [(47, 4)] σ).ut (by decide) _) 47 7 (by decide) (by decide)]; exact h4), (by rw [((py_fr.rf [] [(47, 4)] σ).ut (by decide) _).at 53 (by decide) (by decide)]; exact h5), py_am_fr ((py_fr.rf [] [(47, 4)] σ).ut (by decide) _) (by decide) h6, py_ik_fr ((py_fr.rf [] [(47, 4)] σ).ut (by decide) _) (by decide) h7, py_ik_fr ((py_fr.rf [] [(47, 4)] σ).ut (by decide) _) (by decide) h8, py_tn_fr ((py_fr.rf [] [(47, 4)] σ).ut (by decide) _) (by decide) h9⟩
                rw [py_up_s]
                unfold nq_as; (try simp only [hpC, hkC]); (repeat' split) <;> first | rfl | omega | contradiction
              · exact absurd c_64 (by decide)
            · refine go_iload_n (pc := 50) dX8_as_50 rfl ?_
              refine go_iconst (v := nI 5) (pc := 51) dX8_as_51 (by decide) ?_
              refine go_icmp_neN (tgt := 59) (pc := 52) dX8_as_52 (by omega) (by omega) (by decide) (fun c_52 => ?_) (fun c_52 => ?_)
              · refine go_iconst (v := nI 0) (pc := 59) dX8_as_59 (by decide) ?_
                refine go_istore (pc := 60) dX8_as_60 (by decide) rfl ?_
                refine go_iload (pc := 62) dX8_as_62 rfl ?_
                refine go_if_eqN (tgt := 75) (pc := 64) dX8_as_64 (by omega) (by decide) (fun c_64 => ?_) (fun c_64 => ?_)
                · refine go_aload_n (pc := 75) dX8_as_75 rfl ?_
                  refine go_iconst (v := nI 3) (pc := 76) dX8_as_76 (by decide) ?_
                  refine go_cVi (pc := 77) dX8_as_77 ev_mfound lX8_68 YX8_found VX8_found rfl rfl rfl (by decide) rfl (Nat.le_of_ble_eq_true rfl) (fun sf ef => ?_)
                  have hia : ¬ py_isa (H (13 + 4 * p)) k := by unfold py_isa; omega
                  subst ef
                  refine go_retI (pc := 80) dX8_as_80 (by unfold an_as; (try simp only [hpC, hkC]); (repeat' split) <;> first | rfl | omega | contradiction) ⟨?_, ((py_fr.rf [] [(47, 4)] σ).ut (by decide) _).wd (by decide) (by decide)⟩
                  refine ⟨py_rk_fr ((py_fr.rf [] [(47, 4)] σ).ut (by decide) _) (by decide) h1, ?_, py_tm_fr ((py_fr.rf [] [(47, 4)] σ).ut (by decide) _) (by decide) h3, (by rw [((py_fr.rf [] [(47, 4)] σ).ut (by decide) _) 47 7 (by decide) (by decide)]; exact h4), (by rw [((py_fr.rf [] [(47, 4)] σ).ut (by decide) _).at 53 (by decide) (by decide)]; exact h5), py_am_fr ((py_fr.rf [] [(47, 4)] σ).ut (by decide) _) (by decide) h6, py_ik_fr ((py_fr.rf [] [(47, 4)] σ).ut (by decide) _) (by decide) h7, py_ik_fr ((py_fr.rf [] [(47, 4)] σ).ut (by decide) _) (by decide) h8, py_tn_fr ((py_fr.rf [] [(47, 4)] σ).ut (by decide) _) (by decide) h9⟩
                  rw [py_up_s]
                  unfold nq_as; (try simp only [hpC, hkC]); (repeat' split) <;> first | rfl | omega | contradiction
                · exact absurd c_64 (by decide)
              · refine go_iconst (v := nI 1) (pc := 55) dX8_as_55 (by decide) ?_
                refine go_goto (tgt := 60) (pc := 56) dX8_as_56 (by decide) ?_
                refine go_istore (pc := 60) dX8_as_60 (by decide) rfl ?_
                refine go_iload (pc := 62) dX8_as_62 rfl ?_
                refine go_if_eqN (tgt := 75) (pc := 64) dX8_as_64 (by omega) (by decide) (fun c_64 => ?_) (fun c_64 => ?_)
                · exact absurd c_64 (by decide)
                · refine go_aload_n (pc := 67) dX8_as_67 rfl ?_
                  refine go_iload_n (pc := 68) dX8_as_68 rfl ?_
                  refine go_cVi (pc := 69) dX8_as_69 ev_mwell lX8_72 YX8_well VX8_well rfl rfl rfl (by decide) rfl (Nat.le_of_ble_eq_true rfl) (fun sf ef => ?_)
                  refine go_goto (tgt := 80) (pc := 72) dX8_as_72 (by decide) ?_
                  have hia : py_isa (H (13 + 4 * p)) k := by unfold py_isa; omega
                  subst ef
                  refine go_retI (pc := 80) dX8_as_80 (by unfold an_as; (try simp only [hpC, hkC]); (repeat' split) <;> first | rfl | omega | contradiction) ⟨?_, ((py_fr.rf [] [(47, 4)] σ).ut (by decide) _).wd (by decide) (by decide)⟩
                  refine ⟨py_rk_fr ((py_fr.rf [] [(47, 4)] σ).ut (by decide) _) (by decide) h1, ?_, py_tm_fr ((py_fr.rf [] [(47, 4)] σ).ut (by decide) _) (by decide) h3, (by rw [((py_fr.rf [] [(47, 4)] σ).ut (by decide) _) 47 7 (by decide) (by decide)]; exact h4), (by rw [((py_fr.rf [] [(47, 4)] σ).ut (by decide) _).at 53 (by decide) (by decide)]; exact h5), py_am_fr ((py_fr.rf [] [(47, 4)] σ).ut (by decide) _) (by decide) h6, py_ik_fr ((py_fr.rf [] [(47, 4)] σ).ut (by decide) _) (by decide) h7, py_ik_fr ((py_fr.rf [] [(47, 4)] σ).ut (by decide) _) (by decide) h8, py_tn_fr ((py_fr.rf [] [(47, 4)] σ).ut (by decide) _) (by decide) h9⟩
                  rw [py_up_s]
                  unfold nq_as; (try simp only [hpC, hkC]); (repeat' split) <;> first | rfl | omega | contradiction
          · refine go_iload_n (pc := 40) dX8_as_40 rfl ?_
            refine go_iconst (v := nI 4) (pc := 41) dX8_as_41 (by decide) ?_
            refine go_icmp_ltN (tgt := 55) (pc := 42) dX8_as_42 (by omega) (by omega) (by decide) (fun c_42 => ?_) (fun c_42 => ?_)
            · refine go_iconst (v := nI 1) (pc := 55) dX8_as_55 (by decide) ?_
              refine go_goto (tgt := 60) (pc := 56) dX8_as_56 (by decide) ?_
              refine go_istore (pc := 60) dX8_as_60 (by decide) rfl ?_
              refine go_iload (pc := 62) dX8_as_62 rfl ?_
              refine go_if_eqN (tgt := 75) (pc := 64) dX8_as_64 (by omega) (by decide) (fun c_64 => ?_) (fun c_64 => ?_)
              · exact absurd c_64 (by decide)
              · refine go_aload_n (pc := 67) dX8_as_67 rfl ?_
                refine go_iload_n (pc := 68) dX8_as_68 rfl ?_
                refine go_cVi (pc := 69) dX8_as_69 ev_mwell lX8_72 YX8_well VX8_well rfl rfl rfl (by decide) rfl (Nat.le_of_ble_eq_true rfl) (fun sf ef => ?_)
                refine go_goto (tgt := 80) (pc := 72) dX8_as_72 (by decide) ?_
                have hia : py_isa (H (13 + 4 * p)) k := by unfold py_isa; omega
                subst ef
                refine go_retI (pc := 80) dX8_as_80 (by unfold an_as; (try simp only [hpC, hkC]); (repeat' split) <;> first | rfl | omega | contradiction) ⟨?_, ((py_fr.rf [] [(47, 4)] σ).ut (by decide) _).wd (by decide) (by decide)⟩
                refine ⟨py_rk_fr ((py_fr.rf [] [(47, 4)] σ).ut (by decide) _) (by decide) h1, ?_, py_tm_fr ((py_fr.rf [] [(47, 4)] σ).ut (by decide) _) (by decide) h3, (by rw [((py_fr.rf [] [(47, 4)] σ).ut (by decide) _) 47 7 (by decide) (by decide)]; exact h4), (by rw [((py_fr.rf [] [(47, 4)] σ).ut (by decide) _).at 53 (by decide) (by decide)]; exact h5), py_am_fr ((py_fr.rf [] [(47, 4)] σ).ut (by decide) _) (by decide) h6, py_ik_fr ((py_fr.rf [] [(47, 4)] σ).ut (by decide) _) (by decide) h7, py_ik_fr ((py_fr.rf [] [(47, 4)] σ).ut (by decide) _) (by decide) h8, py_tn_fr ((py_fr.rf [] [(47, 4)] σ).ut (by decide) _) (by decide) h9⟩
                rw [py_up_s]
                unfold nq_as; (try simp only [hpC, hkC]); (repeat' split) <;> first | rfl | omega | contradiction
            · refine go_iload_n (pc := 45) dX8_as_45 rfl ?_
              refine go_iconst (v := nI 4) (pc := 46) dX8_as_46 (by decide) ?_
              refine go_icmp_neN (tgt := 59) (pc := 47) dX8_as_47 (by omega) (by omega) (by decide) (fun c_47 => ?_) (fun c_47 => ?_)
              · refine go_iconst (v := nI 0) (pc := 59) dX8_as_59 (by decide) ?_
                refine go_istore (pc := 60) dX8_as_60 (by decide) rfl ?_
                refine go_iload (pc := 62) dX8_as_62 rfl ?_
                refine go_if_eqN (tgt := 75) (pc := 64) dX8_as_64 (by omega) (by decide) (fun c_64 => ?_) (fun c_64 => ?_)
                · refine go_aload_n (pc := 75) dX8_as_75 rfl ?_
                  refine go_iconst (v := nI 3) (pc := 76) dX8_as_76 (by decide) ?_
                  refine go_cVi (pc := 77) dX8_as_77 ev_mfound lX8_68 YX8_found VX8_found rfl rfl rfl (by decide) rfl (Nat.le_of_ble_eq_true rfl) (fun sf ef => ?_)
                  have hia : ¬ py_isa (H (13 + 4 * p)) k := by unfold py_isa; omega
                  subst ef
                  refine go_retI (pc := 80) dX8_as_80 (by unfold an_as; (try simp only [hpC, hkC]); (repeat' split) <;> first | rfl | omega | contradiction) ⟨?_, ((py_fr.rf [] [(47, 4)] σ).ut (by decide) _).wd (by decide) (by decide)⟩
                  refine ⟨py_rk_fr ((py_fr.rf [] [(47, 4)] σ).ut (by decide) _) (by decide) h1, ?_, py_tm_fr ((py_fr.rf [] [(47, 4)] σ).ut (by decide) _) (by decide) h3, (by rw [((py_fr.rf [] [(47, 4)] σ).ut (by decide) _) 47 7 (by decide) (by decide)]; exact h4), (by rw [((py_fr.rf [] [(47, 4)] σ).ut (by decide) _).at 53 (by decide) (by decide)]; exact h5), py_am_fr ((py_fr.rf [] [(47, 4)] σ).ut (by decide) _) (by decide) h6, py_ik_fr ((py_fr.rf [] [(47, 4)] σ).ut (by decide) _) (by decide) h7, py_ik_fr ((py_fr.rf [] [(47, 4)] σ).ut (by decide) _) (by decide) h8, py_tn_fr ((py_fr.rf [] [(47, 4)] σ).ut (by decide) _) (by decide) h9⟩
                  rw [py_up_s]
                  unfold nq_as; (try simp only [hpC, hkC]); (repeat' split) <;> first | rfl | omega | contradiction
                · exact absurd c_64 (by decide)
              · refine go_iload_n (pc := 50) dX8_as_50 rfl ?_
                refine go_iconst (v := nI 5) (pc := 51) dX8_as_51 (by decide) ?_
                refine go_icmp_neN (tgt := 59) (pc := 52) dX8_as_52 (by omega) (by omega) (by decide) (fun c_52 => ?_) (fun c_52 => ?_)
                · refine go_iconst (v := nI 0) (pc := 59) dX8_as_59 (by decide) ?_
                  refine go_istore (pc := 60) dX8_as_60 (by decide) rfl ?_
                  refine go_iload (pc := 62) dX8_as_62 rfl ?_
                  refine go_if_eqN (tgt := 75) (pc := 64) dX8_as_64 (by omega) (by decide) (fun c_64 => ?_) (fun c_64 => ?_)
                  · refine go_aload_n (pc := 75) dX8_as_75 rfl ?_
                    refine go_iconst (v := nI 3) (pc := 76) dX8_as_76 (by decide) ?_
                    refine go_cVi (pc := 77) dX8_as_77 ev_mfound lX8_68 YX8_found VX8_found rfl rfl rfl (by decide) rfl (Nat.le_of_ble_eq_true rfl) (fun sf ef => ?_)
                    have hia : ¬ py_isa (H (13 + 4 * p)) k := by unfold py_isa; omega
                    subst ef
                    refine go_retI (pc := 80) dX8_as_80 (by unfold an_as; (try simp only [hpC, hkC]); (repeat' split) <;> first | rfl | omega | contradiction) ⟨?_, ((py_fr.rf [] [(47, 4)] σ).ut (by decide) _).wd (by decide) (by decide)⟩
                    refine ⟨py_rk_fr ((py_fr.rf [] [(47, 4)] σ).ut (by decide) _) (by decide) h1, ?_, py_tm_fr ((py_fr.rf [] [(47, 4)] σ).ut (by decide) _) (by decide) h3, (by rw [((py_fr.rf [] [(47, 4)] σ).ut (by decide) _) 47 7 (by decide) (by decide)]; exact h4), (by rw [((py_fr.rf [] [(47, 4)] σ).ut (by decide) _).at 53 (by decide) (by decide)]; exact h5), py_am_fr ((py_fr.rf [] [(47, 4)] σ).ut (by decide) _) (by decide) h6, py_ik_fr ((py_fr.rf [] [(47, 4)] σ).ut (by decide) _) (by decide) h7, py_ik_fr ((py_fr.rf [] [(47, 4)] σ).ut (by decide) _) (by decide) h8, py_tn_fr ((py_fr.rf [] [(47, 4)] σ).ut (by decide) _) (by decide) h9⟩
                    rw [py_up_s]
                    unfold nq_as; (try simp only [hpC, hkC]); (repeat' split) <;> first | rfl | omega | contradiction
                  · exact absurd c_64 (by decide)
                · refine go_iconst (v := nI 1) (pc := 55) dX8_as_55 (by decide) ?_
                  refine go_goto (tgt := 60) (pc := 56) dX8_as_56 (by decide) ?_
                  refine go_istore (pc := 60) dX8_as_60 (by decide) rfl ?_
                  refine go_iload (pc := 62) dX8_as_62 rfl ?_
                  refine go_if_eqN (tgt := 75) (pc := 64) dX8_as_64 (by omega) (by decide) (fun c_64 => ?_) (fun c_64 => ?_)
                  · exact absurd c_64 (by decide)
                  · refine go_aload_n (pc := 67) dX8_as_67 rfl ?_
                    refine go_iload_n (pc := 68) dX8_as_68 rfl ?_
                    refine go_cVi (pc := 69) dX8_as_69 ev_mwell lX8_72 YX8_well VX8_well rfl rfl rfl (by decide) rfl (Nat.le_of_ble_eq_true rfl) (fun sf ef => ?_)
                    refine go_goto (tgt := 80) (pc := 72) dX8_as_72 (by decide) ?_
                    have hia : py_isa (H (13 + 4 * p)) k := by unfold py_isa; omega
                    subst ef
                    refine go_retI (pc := 80) dX8_as_80 (by unfold an_as; (try simp only [hpC, hkC]); (repeat' split) <;> first | rfl | omega | contradiction) ⟨?_, ((py_fr.rf [] [(47, 4)] σ).ut (by decide) _).wd (by decide) (by decide)⟩
                    refine ⟨py_rk_fr ((py_fr.rf [] [(47, 4)] σ).ut (by decide) _) (by decide) h1, ?_, py_tm_fr ((py_fr.rf [] [(47, 4)] σ).ut (by decide) _) (by decide) h3, (by rw [((py_fr.rf [] [(47, 4)] σ).ut (by decide) _) 47 7 (by decide) (by decide)]; exact h4), (by rw [((py_fr.rf [] [(47, 4)] σ).ut (by decide) _).at 53 (by decide) (by decide)]; exact h5), py_am_fr ((py_fr.rf [] [(47, 4)] σ).ut (by decide) _) (by decide) h6, py_ik_fr ((py_fr.rf [] [(47, 4)] σ).ut (by decide) _) (by decide) h7, py_ik_fr ((py_fr.rf [] [(47, 4)] σ).ut (by decide) _) (by decide) h8, py_tn_fr ((py_fr.rf [] [(47, 4)] σ).ut (by decide) _) (by decide) h9⟩
                    rw [py_up_s]
                    unfold nq_as; (try simp only [hpC, hkC]); (repeat' split) <;> first | rfl | omega | contradiction
    · refine go_ldc (pc := 17) dX8_as_17 kX8_67 ?_
      have e2 : nq_as q H ((nI p)) ((y)) = q := by unfold nq_as; (repeat' split) <;> first | rfl | omega
      exact go_retI (pc := 19) dX8_as_19 (by unfold an_as; (repeat' split) <;> first | rfl | omega) ⟨by rw [e2]; exact hI, py_fr.rf _ _ σ⟩
set_option maxHeartbeats 4000000 in
set_option maxRecDepth 100000 in
theorem mo_trace {X : py_X} {σ : py_H} {R : py_Rt} {q : Int32} {B : Nat → Nat} {N : Nat} {ft : Int32} {H : Nat → Nat} {n : Nat} {As : Nat → Nat → Nat} {I0 I1 : Option (Nat → Nat)} {t : Nat} {tr : Nat → Int32} (hI : py_IM σ R q B N ft H n As I0 I1 t tr) (hW : py_IW H n As I0 I1 t) {x : Int32} : py_Ev X 1 yX8_trace cX8_trace 2 (some .int) [.ref 47, .int (x)] σ (py_vs (some (.int (an_trace t tr x))) (fun s => py_IM s R q B N ft H n As I0 I1 t tr ∧ py_fr py_SM [] σ s)) := by
  obtain ⟨h1, h2, h3, h4, h5, h6, h7, h8, h9⟩ := id hI
  obtain ⟨hw, hA, hJ0, hJ1, ht16⟩ := id hW
  obtain ⟨w0, w1, w2, w3, w12, w03, w00, wW, wP, wR⟩ := id hw
  have hm := py_wm_of hw
  refine py_ofI (own := RX8) YX8_trace.2.2.2.2 rfl rfl (Nat.le_of_ble_eq_true rfl)  ?_
  show py_Go X RX8 cX8_trace 2 1 0 [some (.ref 47), some (.int (x))] [] σ (py_vs (some (.int (an_trace t tr x))) (fun s => py_IM s R q B N ft H n As I0 I1 t tr ∧ py_fr py_SM [] σ s))
  refine go_iload_n (pc := 0) dX8_trace_0 rfl ?_
  refine go_iconst (v := nI 0) (pc := 1) dX8_trace_1 (by decide) ?_
  refine go_aload_n (pc := 2) dX8_trace_2 rfl ?_
  refine go_getI (x := (nI t)) (pc := 3) dX8_trace_3 fX8_219 rfl rfl h9.1 ?_
  refine go_iconst (v := nI 1) (pc := 6) dX8_trace_6 (by decide) ?_
  refine go_isub (pc := 7) dX8_trace_7  ?_
  refine go_cS (pc := 8) dX8_trace_8 ev_in lX8_59 YX8_in SX8_in rfl (by decide) rfl (Nat.le_of_ble_eq_true rfl) ?_
  refine go_if_eqB (tgt := 23) (pc := 11) dX8_trace_11 (by decide) (fun c_11 => ?_) (fun c_11 => ?_)
  · rw [py_pi_w (by omega)] at c_11
    refine go_ldc (pc := 23) dX8_trace_23 kX8_53 ?_
    exact go_retI (pc := 25) dX8_trace_25 (by unfold an_trace; (repeat' split) <;> first | rfl | omega) ⟨hI, py_fr.rf _ _ σ⟩
  · obtain ⟨k, rfl, hk, hkI, hkC⟩ := py_pi_of (x := x) ((py_pi_w (by omega)).mp c_11)
    refine go_aload_n (pc := 14) dX8_trace_14 rfl ?_
    refine go_getR (pc := 15) dX8_trace_15 fX8_50 rfl rfl ?_
    refine go_iload_n (pc := 18) dX8_trace_18 rfl ?_
    refine go_aldN (x := (tr k)) (pc := 19) dX8_trace_19 rfl (by show k < 16; omega) (h9.2 k hk) ?_
    refine go_goto (tgt := 25) (pc := 20) dX8_trace_20 (by decide) ?_
    exact go_retI (pc := 25) dX8_trace_25 (by unfold an_trace; (try simp only [hkC]); (repeat' split) <;> first | rfl | omega) ⟨hI, py_fr.rf _ _ σ⟩
set_option maxHeartbeats 4000000 in
set_option maxRecDepth 100000 in
theorem mo_count {X : py_X} {σ : py_H} {R : py_Rt} {q : Int32} {B : Nat → Nat} {N : Nat} {ft : Int32} {H : Nat → Nat} {n : Nat} {As : Nat → Nat → Nat} {I0 I1 : Option (Nat → Nat)} {t : Nat} {tr : Nat → Int32} (hI : py_IM σ R q B N ft H n As I0 I1 t tr) (hW : py_IW H n As I0 I1 t) {x : Int32} : py_Ev X 2 yX8_count cX8_count 4 (some .int) [.ref 47, .int (x)] σ (py_vs (some (.int (an_count R N H n x))) (fun s => py_IM s R q B N ft H n As I0 I1 t tr ∧ py_fr py_SM [] σ s)) := by
  obtain ⟨h1, h2, h3, h4, h5, h6, h7, h8, h9⟩ := id hI
  obtain ⟨hw, hA, hJ0, hJ1, ht16⟩ := id hW
  obtain ⟨w0, w1, w2, w3, w12, w03, w00, wW, wP, wR⟩ := id hw
  have hm := py_wm_of hw
  refine py_ofI (own := RX8) YX8_count.2.2.2.2 rfl rfl (Nat.le_of_ble_eq_true rfl)  ?_
  show py_Go X RX8 cX8_count 4 2 0 [some (.ref 47), some (.int (x)), none, none] [] σ (py_vs (some (.int (an_count R N H n x))) (fun s => py_IM s R q B N ft H n As I0 I1 t tr ∧ py_fr py_SM [] σ s))
  have loop : x.toInt = 0 → ∀ i, i ≤ 8 → py_Go X RX8 cX8_count 4 2 50 [some (.ref 47), some (.int (x)), some (.int (nI (py_cn (fun r => decide (R.1 r ≠ 3)) i))), some (.int (nI i))] [] σ (py_vs (some (.int (an_count R N H n x))) (fun s => py_IM s R q B N ft H n As I0 I1 t tr ∧ py_fr py_SM [] σ s)) := by
    intro hx
    refine py_loop _ 8 (fun i hi ih => ?_)
    refine go_iload_n (pc := 50) dX8_count_50 rfl ?_
    refine go_bipush (v := nI 8) (pc := 51) dX8_count_51 (by decide) ?_
    refine go_icmp_geN (tgt := 78) (pc := 53) dX8_count_53 (by omega) (by omega) (by decide) (fun c_53 => ?_) (fun c_53 => ?_)
    · refine go_iload_n (pc := 78) dX8_count_78 rfl ?_
      exact go_retI (pc := 79) dX8_count_79 (by unfold an_count; rw [if_pos hx, show i = 8 by omega]) ⟨hI, py_fr.rf _ _ σ⟩
    · refine go_iload_n (pc := 56) dX8_count_56 rfl ?_
      refine go_aload_n (pc := 57) dX8_count_57 rfl ?_
      refine go_iload_n (pc := 58) dX8_count_58 rfl ?_
      refine go_cV (pc := 59) dX8_count_59 (ev_misMissing c_53 (h1 i c_53).2.1 (h1 i c_53).1) lX8_75 YX8_isMissing VX8_isMissing rfl rfl rfl (by decide) rfl (Nat.le_of_ble_eq_true rfl) ?_
      refine go_if_eqB (tgt := 69) (pc := 62) dX8_count_62 (by decide) (fun c_62 => ?_) (fun c_62 => ?_)
      · refine go_iconst (v := nI 1) (pc := 69) dX8_count_69 (by decide) ?_
        refine go_iaddN (pc := 70) dX8_count_70  ?_
        refine go_istore_n (pc := 71) dX8_count_71 (by decide) rfl ?_
        refine go_iincN (c := 1) (pc := 72) dX8_count_72 rfl (by decide) (by decide) rfl ?_
        refine go_goto (tgt := 50) (pc := 75) dX8_count_75 (by decide) ?_
        have e8 := ih (by omega)
        rw [show py_cn (fun r => decide (R.1 r ≠ 3)) (i + 1) = py_cn (fun r => decide (R.1 r ≠ 3)) i + 1 from (py_cn_t (f := fun r => decide (R.1 r ≠ 3)) (decide_eq_true c_62)).symm] at e8
        exact e8
      · refine go_iconst (v := nI 0) (pc := 65) dX8_count_65 (by decide) ?_
        refine go_goto (tgt := 70) (pc := 66) dX8_count_66 (by decide) ?_
        refine go_iaddN (pc := 70) dX8_count_70  ?_
        refine go_istore_n (pc := 71) dX8_count_71 (by decide) rfl ?_
        refine go_iincN (c := 1) (pc := 72) dX8_count_72 rfl (by decide) (by decide) rfl ?_
        refine go_goto (tgt := 50) (pc := 75) dX8_count_75 (by decide) ?_
        have e8 := ih (by omega)
        rw [show py_cn (fun r => decide (R.1 r ≠ 3)) (i + 1) = py_cn (fun r => decide (R.1 r ≠ 3)) i from (py_cn_f (f := fun r => decide (R.1 r ≠ 3)) (decide_eq_false (fun z => z c_62))).symm] at e8
        exact e8
  refine go_iconst (v := nI 0) (pc := 0) dX8_count_0 (by decide) ?_
  refine go_istore_n (pc := 1) dX8_count_1 (by decide) rfl ?_
  refine go_iload_n (pc := 2) dX8_count_2 rfl ?_
  rcases (show (x).toInt = 0 ∨ (x).toInt = 1 ∨ (x).toInt = 2 ∨ (x).toInt = 3 ∨ (x).toInt = 4 ∨ (x).toInt = 5 ∨ (x).toInt = 6 ∨ (x).toInt = 7 ∨ (x).toInt < 0 ∨ 7 < (x).toInt by omega) with hk | hk | hk | hk | hk | hk | hk | hk | hk
  · refine go_swIn (off := 45) (pc := 3) (tgt := 48) dX8_count_3 (by omega) (by omega) (by rw [hk]; rfl) (by decide) ?_
    refine go_iconst (v := nI 0) (pc := 48) dX8_count_48 (by decide) ?_
    refine go_istore_n (pc := 49) dX8_count_49 (by decide) rfl ?_
    exact loop hk 0 (by omega)
  · refine go_swIn (off := 77) (pc := 3) (tgt := 80) dX8_count_3 (by omega) (by omega) (by rw [hk]; rfl) (by decide) ?_
    refine go_aload_n (pc := 80) dX8_count_80 rfl ?_
    refine go_getR (pc := 81) dX8_count_81 fX8_25 rfl rfl ?_
    refine go_iconst (v := nI 3) (pc := 84) dX8_count_84 (by decide) ?_
    refine go_aldN (x := (nI (H 3))) (pc := 85) dX8_count_85 rfl (by show 3 < 33; omega) (py_hm_at h5 (show 3 = 3 by omega) (by omega)) ?_
    exact go_retI (pc := 86) dX8_count_86 (by unfold an_count; (repeat' split) <;> first | rfl | omega) ⟨hI, py_fr.rf _ _ σ⟩
  · refine go_swIn (off := 84) (pc := 3) (tgt := 87) dX8_count_3 (by omega) (by omega) (by rw [hk]; rfl) (by decide) ?_
    refine go_aload_n (pc := 87) dX8_count_87 rfl ?_
    refine go_getR (pc := 88) dX8_count_88 fX8_25 rfl rfl ?_
    refine go_bipush (v := nI 12) (pc := 91) dX8_count_91 (by decide) ?_
    refine go_aldN (x := (nI (H 12))) (pc := 93) dX8_count_93 rfl (by show 12 < 33; omega) (py_hm_at h5 (show 12 = 12 by omega) (by omega)) ?_
    exact go_retI (pc := 94) dX8_count_94 (by unfold an_count; (repeat' split) <;> first | rfl | omega) ⟨hI, py_fr.rf _ _ σ⟩
  · refine go_swIn (off := 92) (pc := 3) (tgt := 95) dX8_count_3 (by omega) (by omega) (by rw [hk]; rfl) (by decide) ?_
    refine go_aload_n (pc := 95) dX8_count_95 rfl ?_
    refine go_getR (pc := 96) dX8_count_96 fX8_25 rfl rfl ?_
    refine go_iconst (v := nI 2) (pc := 99) dX8_count_99 (by decide) ?_
    refine go_aldN (x := (nI (H 2))) (pc := 100) dX8_count_100 rfl (by show 2 < 33; omega) (py_hm_at h5 (show 2 = 2 by omega) (by omega)) ?_
    exact go_retI (pc := 101) dX8_count_101 (by unfold an_count; (repeat' split) <;> first | rfl | omega) ⟨hI, py_fr.rf _ _ σ⟩
  · refine go_swIn (off := 99) (pc := 3) (tgt := 102) dX8_count_3 (by omega) (by omega) (by rw [hk]; rfl) (by decide) ?_
    refine go_aload_n (pc := 102) dX8_count_102 rfl ?_
    refine go_getR (pc := 103) dX8_count_103 fX8_25 rfl rfl ?_
    refine go_iconst (v := nI 1) (pc := 106) dX8_count_106 (by decide) ?_
    refine go_aldN (x := (nI (H 1))) (pc := 107) dX8_count_107 rfl (by show 1 < 33; omega) (py_hm_at h5 (show 1 = 1 by omega) (by omega)) ?_
    exact go_retI (pc := 108) dX8_count_108 (by unfold an_count; (repeat' split) <;> first | rfl | omega) ⟨hI, py_fr.rf _ _ σ⟩
  · refine go_swIn (off := 106) (pc := 3) (tgt := 109) dX8_count_3 (by omega) (by omega) (by rw [hk]; rfl) (by decide) ?_
    refine go_aload_n (pc := 109) dX8_count_109 rfl ?_
    refine go_getR (pc := 110) dX8_count_110 fX8_25 rfl rfl ?_
    refine go_cS (pc := 113) dX8_count_113 (ev_mliving_53 h5 w12 (fun p hp => (wP p hp).2.2.2.2.1)) lX8_173 YX8_living SX8_living rfl (by decide) rfl (Nat.le_of_ble_eq_true rfl) ?_
    exact go_retI (pc := 116) dX8_count_116 (by unfold an_count; (repeat' split) <;> first | rfl | omega) ⟨hI, py_fr.rf _ _ σ⟩
  · refine go_swIn (off := 114) (pc := 3) (tgt := 117) dX8_count_3 (by omega) (by omega) (by rw [hk]; rfl) (by decide) ?_
    refine go_aload_n (pc := 117) dX8_count_117 rfl ?_
    refine go_getI (x := (nI n)) (pc := 118) dX8_count_118 fX8_152 rfl rfl h6.1 ?_
    exact go_retI (pc := 121) dX8_count_121 (by unfold an_count; (repeat' split) <;> first | rfl | omega) ⟨hI, py_fr.rf _ _ σ⟩
  · refine go_swIn (off := 119) (pc := 3) (tgt := 122) dX8_count_3 (by omega) (by omega) (by rw [hk]; rfl) (by decide) ?_
    refine go_aload_n (pc := 122) dX8_count_122 rfl ?_
    refine go_getI (x := (nI N)) (pc := 123) dX8_count_123 fX8_85 rfl rfl h3.1 ?_
    exact go_retI (pc := 126) dX8_count_126 (by unfold an_count; (repeat' split) <;> first | rfl | omega) ⟨hI, py_fr.rf _ _ σ⟩
  · refine go_swOut (pc := 3) (tgt := 127) dX8_count_3 hk (by decide) ?_
    refine go_ldc (pc := 127) dX8_count_127 kX8_67 ?_
    exact go_retI (pc := 129) dX8_count_129 (by unfold an_count; (repeat' split) <;> first | rfl | omega) ⟨hI, py_fr.rf _ _ σ⟩
theorem py_ik_put {σ s : py_H} {k : Nat} {H : Nat → Nat} (e57 : s 57 = va_cpy (σ 53) (σ 57) 0 (33 * k) 33) (e58 : s 58 = upd (σ 58) k (nI 1)) (h : py_hm (σ 53) 0 H) : py_ik s k (some H) := by
  refine ⟨by rw [e58, pk_us], ?_⟩
  rw [e57]
  exact py_hm_cpy h
theorem py_ik_oth {σ s : py_H} {k j : Nat} {I : Option (Nat → Nat)} (hkj : j ≠ k) (e57 : s 57 = va_cpy (σ 53) (σ 57) 0 (33 * k) 33) (e58 : s 58 = upd (σ 58) k (nI 1)) (h : py_ik σ j I) : py_ik s j I := by
  unfold py_ik at h ⊢
  rw [e57, e58, pk_un hkj]
  cases I with
  | none => exact h
  | some J =>
    refine ⟨h.1, fun i hi => ?_⟩
    rw [pk_cpy_out (by omega)]
    exact h.2 i hi
set_option maxHeartbeats 4000000 in
set_option maxRecDepth 100000 in
theorem mo_image {X : py_X} {σ : py_H} {R : py_Rt} {q : Int32} {B : Nat → Nat} {N : Nat} {ft : Int32} {H : Nat → Nat} {n : Nat} {As : Nat → Nat → Nat} {I0 I1 : Option (Nat → Nat)} {t : Nat} {tr : Nat → Int32} (hI : py_IM σ R q B N ft H n As I0 I1 t tr) (hW : py_IW H n As I0 I1 t) {x : Int32} : py_Ev X 2 yX8_image cX8_image 2 (some .int) [.ref 47, .int (x)] σ (py_vs (some (.int (an_image H x))) (fun s => py_IM s R q B N ft H n As (ni_image H I0 0 x) (ni_image H I1 1 x) t tr ∧ py_fr py_SM [] σ s)) := by
  obtain ⟨h1, h2, h3, h4, h5, h6, h7, h8, h9⟩ := id hI
  obtain ⟨hw, hA, hJ0, hJ1, ht16⟩ := id hW
  obtain ⟨w0, w1, w2, w3, w12, w03, w00, wW, wP, wR⟩ := id hw
  have hm := py_wm_of hw
  refine py_ofI (own := RX8) YX8_image.2.2.2.2 rfl rfl (Nat.le_of_ble_eq_true rfl)  ?_
  show py_Go X RX8 cX8_image 2 2 0 [some (.ref 47), some (.int (x))] [] σ (py_vs (some (.int (an_image H x))) (fun s => py_IM s R q B N ft H n As (ni_image H I0 0 x) (ni_image H I1 1 x) t tr ∧ py_fr py_SM [] σ s))
  refine go_iload_n (pc := 0) dX8_image_0 rfl ?_
  refine go_iconst (v := nI 0) (pc := 1) dX8_image_1 (by decide) ?_
  refine go_iconst (v := nI 1) (pc := 2) dX8_image_2 (by decide) ?_
  refine go_cS (pc := 3) dX8_image_3 ev_inN lX8_59 YX8_in SX8_in rfl (by decide) rfl (Nat.le_of_ble_eq_true rfl) ?_
  refine go_if_neB (tgt := 12) (pc := 6) dX8_image_6 (by decide) (fun c_6 => ?_) (fun c_6 => ?_)
  · obtain ⟨k, rfl, hk0, hk, hkI, hkC⟩ := py_rg_of (x := x) (a := 0) (b := 1) c_6
    refine go_aload_n (pc := 12) dX8_image_12 rfl ?_
    refine go_cV (pc := 13) dX8_image_13 (ev_isHouse h5 w0) lX8_166 YX8_isHouse VX8_isHouse rfl rfl rfl (by decide) rfl (Nat.le_of_ble_eq_true rfl) ?_
    refine go_if_neB (tgt := 22) (pc := 16) dX8_image_16 (by decide) (fun c_16 => ?_) (fun c_16 => ?_)
    · refine go_aload_n (pc := 22) dX8_image_22 rfl ?_
      refine go_getR (pc := 23) dX8_image_23 fX8_25 rfl rfl ?_
      refine go_iconst (v := nI 0) (pc := 26) dX8_image_26 (by decide) ?_
      refine go_aload_n (pc := 27) dX8_image_27 rfl ?_
      refine go_getR (pc := 28) dX8_image_28 fX8_37 rfl rfl ?_
      refine go_bipush (v := nI 33) (pc := 31) dX8_image_31 (by decide) ?_
      refine go_iload_n (pc := 33) dX8_image_33 rfl ?_
      refine go_imulN (pc := 34) dX8_image_34  ?_
      refine go_cSv (pc := 35) dX8_image_35 (ev_copies_53_57 (a := k) (by omega)) lX8_148 YX8_copies SX8_copies rfl (by decide) rfl (Nat.le_of_ble_eq_true rfl) (fun s1 e1 => ?_)
      subst e1
      refine go_aload_n (pc := 38) dX8_image_38 rfl ?_
      refine go_getR (pc := 39) dX8_image_39 fX8_40 rfl rfl ?_
      refine go_iload_n (pc := 42) dX8_image_42 rfl ?_
      refine go_iconst (v := nI 1) (pc := 43) dX8_image_43 (by decide) ?_
      refine go_zstN (pc := 44) dX8_image_44 (by omega) ?_
      refine go_iconst (v := nI 1) (pc := 45) dX8_image_45 (by decide) ?_
      have hf : py_fr [57, 58] [] σ (py_up (py_row σ 57 (va_cpy (σ 53) (σ 57) (0) (33 * k) 33)) 58 k (nI 1)) := ((py_fr.rf [57, 58] [] σ).row (by decide) _).up (by decide) _
      have e57 : (py_up (py_row σ 57 (va_cpy (σ 53) (σ 57) (0) (33 * k) 33)) 58 k (nI 1)) 57 = va_cpy (σ 53) (σ 57) 0 (33 * k) 33 := by rw [py_up_k _ _ _ (by decide), py_row_self]
      have e58 : (py_up (py_row σ 57 (va_cpy (σ 53) (σ 57) (0) (33 * k) 33)) 58 k (nI 1)) 58 = upd (σ 58) k (nI 1) := (py_row_self _ _ _).trans (by rw [py_row_ne _ _ (by decide)])
      refine go_retI (pc := 46) dX8_image_46 (by unfold an_image; (repeat' split) <;> first | rfl | omega) ⟨?_, hf.wd (by decide) (by decide)⟩
      rcases (show k = 0 ∨ k = 1 by omega) with hk9 | hk9
      · subst hk9
        have e0 : ni_image H I0 0 (nI 0) = some H := by unfold ni_image; rw [if_pos (by omega)]
        have e1 : ni_image H I1 1 (nI 0) = I1 := by unfold ni_image; rw [if_neg (by omega)]
        rw [e0, e1]
        exact ⟨py_rk_fr hf (by decide) h1, (by rw [hf 47 4 (by decide) (by decide)]; exact h2), py_tm_fr hf (by decide) h3, (by rw [hf 47 7 (by decide) (by decide)]; exact h4), (by rw [hf.at 53 (by decide) (by decide)]; exact h5), py_am_fr hf (by decide) h6, py_ik_put e57 e58 h5, py_ik_oth (by decide) e57 e58 h8, py_tn_fr hf (by decide) h9⟩
      · subst hk9
        have e0 : ni_image H I0 0 (nI 1) = I0 := by unfold ni_image; rw [if_neg (by omega)]
        have e1 : ni_image H I1 1 (nI 1) = some H := by unfold ni_image; rw [if_pos (by omega)]
        rw [e0, e1]
        exact ⟨py_rk_fr hf (by decide) h1, (by rw [hf 47 4 (by decide) (by decide)]; exact h2), py_tm_fr hf (by decide) h3, (by rw [hf 47 7 (by decide) (by decide)]; exact h4), (by rw [hf.at 53 (by decide) (by decide)]; exact h5), py_am_fr hf (by decide) h6, py_ik_oth (by decide) e57 e58 h7, py_ik_put e57 e58 h5, py_tn_fr hf (by decide) h9⟩
    · refine go_ldc (pc := 19) dX8_image_19 kX8_169 ?_
      have e0 : ni_image H I0 0 ((nI k)) = I0 := by unfold ni_image; rw [if_neg (by omega)]
      have e1 : ni_image H I1 1 ((nI k)) = I1 := by unfold ni_image; rw [if_neg (by omega)]
      exact go_retI (pc := 21) dX8_image_21 (by unfold an_image; (repeat' split) <;> first | rfl | omega) ⟨by rw [e0, e1]; exact hI, py_fr.rf _ _ σ⟩
  · refine go_ldc (pc := 9) dX8_image_9 kX8_67 ?_
    have e0 : ni_image H I0 0 ((x)) = I0 := by unfold ni_image; rw [if_neg (by omega)]
    have e1 : ni_image H I1 1 ((x)) = I1 := by unfold ni_image; rw [if_neg (by omega)]
    exact go_retI (pc := 11) dX8_image_11 (by unfold an_image; (repeat' split) <;> first | rfl | omega) ⟨by rw [e0, e1]; exact hI, py_fr.rf _ _ σ⟩
set_option maxHeartbeats 4000000 in
set_option maxRecDepth 100000 in
theorem mo_recall {X : py_X} {σ : py_H} {R : py_Rt} {q : Int32} {B : Nat → Nat} {N : Nat} {ft : Int32} {H : Nat → Nat} {n : Nat} {As : Nat → Nat → Nat} {I0 I1 : Option (Nat → Nat)} {t : Nat} {tr : Nat → Int32} (hI : py_IM σ R q B N ft H n As I0 I1 t tr) (hW : py_IW H n As I0 I1 t) {x : Int32} : py_Ev X 2 yX8_recall cX8_recall 2 (some .int) [.ref 47, .int (x)] σ (py_vs (some (.int (an_recall I0 I1 x))) (fun s => py_IM s R q B N ft (nh_recall H I0 I1 x) (na_recall n I0 I1 x) As I0 I1 t tr ∧ py_fr py_SM [] σ s)) := by
  obtain ⟨h1, h2, h3, h4, h5, h6, h7, h8, h9⟩ := id hI
  obtain ⟨hw, hA, hJ0, hJ1, ht16⟩ := id hW
  obtain ⟨w0, w1, w2, w3, w12, w03, w00, wW, wP, wR⟩ := id hw
  have hm := py_wm_of hw
  refine py_ofI (own := RX8) YX8_recall.2.2.2.2 rfl rfl (Nat.le_of_ble_eq_true rfl)  ?_
  show py_Go X RX8 cX8_recall 2 2 0 [some (.ref 47), some (.int (x))] [] σ (py_vs (some (.int (an_recall I0 I1 x))) (fun s => py_IM s R q B N ft (nh_recall H I0 I1 x) (na_recall n I0 I1 x) As I0 I1 t tr ∧ py_fr py_SM [] σ s))
  refine go_iload_n (pc := 0) dX8_recall_0 rfl ?_
  refine go_iconst (v := nI 0) (pc := 1) dX8_recall_1 (by decide) ?_
  refine go_iconst (v := nI 1) (pc := 2) dX8_recall_2 (by decide) ?_
  refine go_cS (pc := 3) dX8_recall_3 ev_inN lX8_59 YX8_in SX8_in rfl (by decide) rfl (Nat.le_of_ble_eq_true rfl) ?_
  refine go_if_neB (tgt := 12) (pc := 6) dX8_recall_6 (by decide) (fun c_6 => ?_) (fun c_6 => ?_)
  · obtain ⟨k, rfl, hk0, hk, hkI, hkC⟩ := py_rg_of (x := x) (a := 0) (b := 1) c_6
    rcases (show (k = 0 ∧ I0 = none) ∨ (k = 0 ∧ ∃ J, I0 = some J) ∨ (k = 1 ∧ I1 = none) ∨ (k = 1 ∧ ∃ J, I1 = some J) from py_two hk) with ⟨hk9, hB⟩ | ⟨hk9, J, hB⟩ | ⟨hk9, hB⟩ | ⟨hk9, J, hB⟩
    · subst hk9
      subst hB
      have hj := h7
      change σ 58 0 = nI 0 at hj
      refine go_aload_n (pc := 12) dX8_recall_12 rfl ?_
      refine go_getR (pc := 13) dX8_recall_13 fX8_40 rfl rfl ?_
      refine go_iload_n (pc := 16) dX8_recall_16 rfl ?_
      refine go_zldN (x := (nI 0)) (pc := 17) dX8_recall_17 (by omega) hj ?_
      refine go_if_neN (tgt := 24) (pc := 18) dX8_recall_18 (by omega) (by decide) (fun c_18 => ?_) (fun c_18 => ?_)
      · exact absurd c_18 (by decide)
      · refine go_ldc (pc := 21) dX8_recall_21 kX8_169 ?_
        have ei : py_ix none I1 ((nI 0)) = none := by unfold py_ix; rw [if_pos (by omega)]
        have e0 : nh_recall H none I1 ((nI 0)) = H := by unfold nh_recall; rw [if_pos (by omega), ei]
        have e1 : na_recall n none I1 ((nI 0)) = n := by unfold na_recall; rw [if_pos (by omega), ei]
        exact go_retI (pc := 23) dX8_recall_23 (by unfold an_recall; rw [if_pos (by omega), ei]) ⟨by rw [e0, e1]; exact hI, py_fr.rf _ _ σ⟩
    · subst hk9
      subst hB
      have hj := h7
      change σ 58 0 = nI 1 ∧ py_hm (σ 57) (33 * 0) J at hj
      refine go_aload_n (pc := 12) dX8_recall_12 rfl ?_
      refine go_getR (pc := 13) dX8_recall_13 fX8_40 rfl rfl ?_
      refine go_iload_n (pc := 16) dX8_recall_16 rfl ?_
      refine go_zldN (x := (nI 1)) (pc := 17) dX8_recall_17 (by omega) hj.1 ?_
      refine go_if_neN (tgt := 24) (pc := 18) dX8_recall_18 (by omega) (by decide) (fun c_18 => ?_) (fun c_18 => ?_)
      · refine go_aload_n (pc := 24) dX8_recall_24 rfl ?_
        refine go_getR (pc := 25) dX8_recall_25 fX8_37 rfl rfl ?_
        refine go_bipush (v := nI 33) (pc := 28) dX8_recall_28 (by decide) ?_
        refine go_iload_n (pc := 30) dX8_recall_30 rfl ?_
        refine go_imulN (pc := 31) dX8_recall_31  ?_
        refine go_aload_n (pc := 32) dX8_recall_32 rfl ?_
        refine go_getR (pc := 33) dX8_recall_33 fX8_25 rfl rfl ?_
        refine go_iconst (v := nI 0) (pc := 36) dX8_recall_36 (by decide) ?_
        refine go_cSv (pc := 37) dX8_recall_37 (ev_copies_57_53 (a := 0) (by omega)) lX8_148 YX8_copies SX8_copies rfl (by decide) rfl (Nat.le_of_ble_eq_true rfl) (fun s1 e1 => ?_)
        subst e1
        refine go_aload_n (pc := 40) dX8_recall_40 rfl ?_
        refine go_iconst (v := nI 0) (pc := 41) dX8_recall_41 (by decide) ?_
        refine go_putI (pc := 42) dX8_recall_42 fX8_152 rfl rfl ?_
        refine go_iconst (v := nI 1) (pc := 45) dX8_recall_45 (by decide) ?_
        have ei : py_ix (some J) I1 ((nI 0)) = (some J) := by unfold py_ix; rw [if_pos (by omega)]
        have e0 : nh_recall H (some J) I1 ((nI 0)) = J := by unfold nh_recall; rw [if_pos (by omega), ei]
        have e1 : na_recall n (some J) I1 ((nI 0)) = 0 := by unfold na_recall; rw [if_pos (by omega), ei]
        have hf : py_fr [53] [(47, 17)] σ (py_up (py_row σ 53 (va_cpy (σ 57) (σ 53) (33 * 0) (0) 33)) 47 17 (nI 0)) := ((py_fr.rf [53] [(47, 17)] σ).row (by decide) _).ut (by decide) _
        refine go_retI (pc := 46) dX8_recall_46 (by unfold an_recall; rw [if_pos (by omega), ei]) ⟨?_, hf.wd (by decide) (by decide)⟩
        rw [e0, e1]
        exact ⟨py_rk_fr hf (by decide) h1, (by rw [hf 47 4 (by decide) (by decide)]; exact h2), py_tm_fr hf (by decide) h3, (by rw [hf 47 7 (by decide) (by decide)]; exact h4), (by rw [py_up_k _ _ _ (by decide), py_row_self]; exact py_hm_cpy hj.2), ⟨py_up_s _ _ _ _, fun i hi => absurd hi (Nat.not_lt_zero i)⟩, py_ik_fr hf (by decide) h7, py_ik_fr hf (by decide) h8, py_tn_fr hf (by decide) h9⟩
      · exact absurd c_18 (by decide)
    · subst hk9
      subst hB
      have hj := h8
      change σ 58 1 = nI 0 at hj
      refine go_aload_n (pc := 12) dX8_recall_12 rfl ?_
      refine go_getR (pc := 13) dX8_recall_13 fX8_40 rfl rfl ?_
      refine go_iload_n (pc := 16) dX8_recall_16 rfl ?_
      refine go_zldN (x := (nI 0)) (pc := 17) dX8_recall_17 (by omega) hj ?_
      refine go_if_neN (tgt := 24) (pc := 18) dX8_recall_18 (by omega) (by decide) (fun c_18 => ?_) (fun c_18 => ?_)
      · exact absurd c_18 (by decide)
      · refine go_ldc (pc := 21) dX8_recall_21 kX8_169 ?_
        have ei : py_ix I0 none ((nI 1)) = none := by unfold py_ix; rw [if_neg (by omega)]
        have e0 : nh_recall H I0 none ((nI 1)) = H := by unfold nh_recall; rw [if_pos (by omega), ei]
        have e1 : na_recall n I0 none ((nI 1)) = n := by unfold na_recall; rw [if_pos (by omega), ei]
        exact go_retI (pc := 23) dX8_recall_23 (by unfold an_recall; rw [if_pos (by omega), ei]) ⟨by rw [e0, e1]; exact hI, py_fr.rf _ _ σ⟩
    · subst hk9
      subst hB
      have hj := h8
      change σ 58 1 = nI 1 ∧ py_hm (σ 57) (33 * 1) J at hj
      refine go_aload_n (pc := 12) dX8_recall_12 rfl ?_
      refine go_getR (pc := 13) dX8_recall_13 fX8_40 rfl rfl ?_
      refine go_iload_n (pc := 16) dX8_recall_16 rfl ?_
      refine go_zldN (x := (nI 1)) (pc := 17) dX8_recall_17 (by omega) hj.1 ?_
      refine go_if_neN (tgt := 24) (pc := 18) dX8_recall_18 (by omega) (by decide) (fun c_18 => ?_) (fun c_18 => ?_)
      · refine go_aload_n (pc := 24) dX8_recall_24 rfl ?_
        refine go_getR (pc := 25) dX8_recall_25 fX8_37 rfl rfl ?_
        refine go_bipush (v := nI 33) (pc := 28) dX8_recall_28 (by decide) ?_
        refine go_iload_n (pc := 30) dX8_recall_30 rfl ?_
        refine go_imulN (pc := 31) dX8_recall_31  ?_
        refine go_aload_n (pc := 32) dX8_recall_32 rfl ?_
        refine go_getR (pc := 33) dX8_recall_33 fX8_25 rfl rfl ?_
        refine go_iconst (v := nI 0) (pc := 36) dX8_recall_36 (by decide) ?_
        refine go_cSv (pc := 37) dX8_recall_37 (ev_copies_57_53 (a := 1) (by omega)) lX8_148 YX8_copies SX8_copies rfl (by decide) rfl (Nat.le_of_ble_eq_true rfl) (fun s1 e1 => ?_)
        subst e1
        refine go_aload_n (pc := 40) dX8_recall_40 rfl ?_
        refine go_iconst (v := nI 0) (pc := 41) dX8_recall_41 (by decide) ?_
        refine go_putI (pc := 42) dX8_recall_42 fX8_152 rfl rfl ?_
        refine go_iconst (v := nI 1) (pc := 45) dX8_recall_45 (by decide) ?_
        have ei : py_ix I0 (some J) ((nI 1)) = (some J) := by unfold py_ix; rw [if_neg (by omega)]
        have e0 : nh_recall H I0 (some J) ((nI 1)) = J := by unfold nh_recall; rw [if_pos (by omega), ei]
        have e1 : na_recall n I0 (some J) ((nI 1)) = 0 := by unfold na_recall; rw [if_pos (by omega), ei]
        have hf : py_fr [53] [(47, 17)] σ (py_up (py_row σ 53 (va_cpy (σ 57) (σ 53) (33 * 1) (0) 33)) 47 17 (nI 0)) := ((py_fr.rf [53] [(47, 17)] σ).row (by decide) _).ut (by decide) _
        refine go_retI (pc := 46) dX8_recall_46 (by unfold an_recall; rw [if_pos (by omega), ei]) ⟨?_, hf.wd (by decide) (by decide)⟩
        rw [e0, e1]
        exact ⟨py_rk_fr hf (by decide) h1, (by rw [hf 47 4 (by decide) (by decide)]; exact h2), py_tm_fr hf (by decide) h3, (by rw [hf 47 7 (by decide) (by decide)]; exact h4), (by rw [py_up_k _ _ _ (by decide), py_row_self]; exact py_hm_cpy hj.2), ⟨py_up_s _ _ _ _, fun i hi => absurd hi (Nat.not_lt_zero i)⟩, py_ik_fr hf (by decide) h7, py_ik_fr hf (by decide) h8, py_tn_fr hf (by decide) h9⟩
      · exact absurd c_18 (by decide)
  · refine go_ldc (pc := 9) dX8_recall_9 kX8_67 ?_
    have e0 : nh_recall H I0 I1 ((x)) = H := by unfold nh_recall; rw [if_neg (by omega)]
    have e1 : na_recall n I0 I1 ((x)) = n := by unfold na_recall; rw [if_neg (by omega)]
    exact go_retI (pc := 11) dX8_recall_11 (by unfold an_recall; rw [if_neg (by omega)]) ⟨by rw [e0, e1]; exact hI, py_fr.rf _ _ σ⟩
set_option maxHeartbeats 4000000 in
set_option maxRecDepth 100000 in
theorem mo_undo {X : py_X} {σ : py_H} {R : py_Rt} {q : Int32} {B : Nat → Nat} {N : Nat} {ft : Int32} {H : Nat → Nat} {n : Nat} {As : Nat → Nat → Nat} {I0 I1 : Option (Nat → Nat)} {t : Nat} {tr : Nat → Int32} (hI : py_IM σ R q B N ft H n As I0 I1 t tr) (hW : py_IW H n As I0 I1 t) : py_Ev X 1 yX8_undo cX8_undo 1 (some .int) [.ref 47] σ (py_vs (some (.int (an_undo n))) (fun s => py_IM s R q B N ft ((nz_undo (n, As, H)).2.2) ((nz_undo (n, As, H)).1) ((nz_undo (n, As, H)).2.1) I0 I1 t tr ∧ py_fr py_SM [] σ s)) := by
  obtain ⟨h1, h2, h3, h4, h5, h6, h7, h8, h9⟩ := id hI
  obtain ⟨hw, hA, hJ0, hJ1, ht16⟩ := id hW
  obtain ⟨w0, w1, w2, w3, w12, w03, w00, wW, wP, wR⟩ := id hw
  have hm := py_wm_of hw
  refine py_ofI (own := RX8) YX8_undo.2.2.2.2 rfl rfl (Nat.le_of_ble_eq_true rfl)  ?_
  show py_Go X RX8 cX8_undo 1 1 0 [some (.ref 47)] [] σ (py_vs (some (.int (an_undo n))) (fun s => py_IM s R q B N ft ((nz_undo (n, As, H)).2.2) ((nz_undo (n, As, H)).1) ((nz_undo (n, As, H)).2.1) I0 I1 t tr ∧ py_fr py_SM [] σ s))
  refine go_aload_n (pc := 0) dX8_undo_0 rfl ?_
  refine go_getI (x := (nI n)) (pc := 1) dX8_undo_1 fX8_152 rfl rfl h6.1 ?_
  refine go_if_neN (tgt := 10) (pc := 4) dX8_undo_4 (by omega) (by decide) (fun c_4 => ?_) (fun c_4 => ?_)
  · obtain ⟨m, hn⟩ : ∃ m, n = m + 1 := ⟨n - 1, by omega⟩
    subst hn
    refine go_aload_n (pc := 10) dX8_undo_10 rfl ?_
    refine go_dup (pc := 11) dX8_undo_11 rfl ?_
    refine go_getI (x := (nI (m + 1))) (pc := 12) dX8_undo_12 fX8_152 rfl rfl h6.1 ?_
    refine go_iconst (v := nI 1) (pc := 15) dX8_undo_15 (by decide) ?_
    refine go_isubN (pc := 16) dX8_undo_16 (by omega) ?_
    refine go_putI (pc := 17) dX8_undo_17 fX8_152 rfl rfl ?_
    refine go_aload_n (pc := 20) dX8_undo_20 rfl ?_
    refine go_getR (pc := 21) dX8_undo_21 fX8_34 rfl rfl ?_
    refine go_bipush (v := nI 33) (pc := 24) dX8_undo_24 (by decide) ?_
    refine go_aload_n (pc := 26) dX8_undo_26 rfl ?_
    refine go_getI (x := (nI (m + 1 - 1))) (pc := 27) dX8_undo_27 fX8_152 rfl rfl (py_up_s _ _ _ _) ?_
    refine go_imulN (pc := 30) dX8_undo_30  ?_
    refine go_aload_n (pc := 31) dX8_undo_31 rfl ?_
    refine go_getR (pc := 32) dX8_undo_32 fX8_25 rfl rfl ?_
    refine go_iconst (v := nI 0) (pc := 35) dX8_undo_35 (by decide) ?_
    rw [show m + 1 - 1 = m from rfl]
    refine go_cSv (pc := 36) dX8_undo_36 (ev_copies_56_53 (a := m) (by omega)) lX8_148 YX8_copies SX8_copies rfl (by decide) rfl (Nat.le_of_ble_eq_true rfl) (fun s1 e1 => ?_)
    subst e1
    refine go_aload_n (pc := 39) dX8_undo_39 rfl ?_
    refine go_getI (x := (nI (m + 1 - 1))) (pc := 40) dX8_undo_40 fX8_152 rfl rfl (by rw [py_row_ne _ _ (by decide)]; exact py_up_s _ _ _ _) ?_
    have hf : py_fr [53] [(47, 17)] σ (py_row (py_up σ 47 17 (nI m)) 53 (va_cpy ((py_up σ 47 17 (nI m)) 56) ((py_up σ 47 17 (nI m)) 53) (33 * m) (0) 33)) := ((py_fr.rf [53] [(47, 17)] σ).ut (by decide) _).row (by decide) _
    have ez : nz_undo (m + 1, As, H) = (m, As, As m) := rfl
    refine go_retI (pc := 43) dX8_undo_43 (by unfold an_undo; rw [if_neg (by omega)]) ⟨?_, hf.wd (by decide) (by decide)⟩
    rw [ez]
    show py_IM (py_row (py_up σ 47 17 (nI m)) 53 (va_cpy ((py_up σ 47 17 (nI m)) 56) ((py_up σ 47 17 (nI m)) 53) (33 * m) (0) 33)) R q B N ft (As m) (m) As I0 I1 t tr
    exact ⟨py_rk_fr hf (by decide) h1, (by rw [hf 47 4 (by decide) (by decide)]; exact h2), py_tm_fr hf (by decide) h3, (by rw [hf 47 7 (by decide) (by decide)]; exact h4), (by rw [py_row_self, py_up_k _ _ _ (by decide)]; exact py_hm_cpy (h6.2 m (by omega))), ⟨by rw [py_row_ne _ _ (by decide)]; exact py_up_s _ _ _ _, fun i hi => by rw [py_row_ne _ _ (by decide), py_up_k _ _ _ (by decide)]; exact h6.2 i (by omega)⟩, py_ik_fr hf (by decide) h7, py_ik_fr hf (by decide) h8, py_tn_fr hf (by decide) h9⟩
  · refine go_ldc (pc := 7) dX8_undo_7 kX8_169 ?_
    have ez : nz_undo (n, As, H) = (n, As, H) := by unfold nz_undo; exact if_pos c_4
    exact go_retI (pc := 9) dX8_undo_9 (by unfold an_undo; rw [if_pos (by omega)]) ⟨by rw [ez]; exact hI, py_fr.rf _ _ σ⟩
