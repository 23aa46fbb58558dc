/-! contracts: the reference's acts -/
set_option maxHeartbeats 4000000 in
set_option maxRecDepth 100000 in
theorem mo_deed {X : py_X} {σ : py_H} {R : py_Rt} {q : Int32} {B : Nat → Nat} {N : Nat} {ft : Int32} {H : Nat → Nat} {n : Nat} {As : Nat → Nat → Nat} {I0 I1 : Option (Nat → Nat)} {t : Nat} {tr : Nat → Int32} (hI : py_IM σ R q B N ft H n As I0 I1 t tr) (hW : py_IW H n As I0 I1 t) {x y : Int32} : py_Ev X 2 yX8_deed cX8_deed 3 (some .int) [.ref 47, .int (x), .int (y)] σ (py_vs (some (.int (an_deed H x y))) (fun s => py_IM s R q B N ft ((nz_deed (n, As, H) x y).2.2) ((nz_deed (n, As, H) x y).1) ((nz_deed (n, As, H) x y).2.1) I0 I1 t tr ∧ py_fr py_SM [] σ s)) := by
  obtain ⟨h1, h2, h3, h4, h5, h6, h7, h8, h9⟩ := id hI
  obtain ⟨hw, hA, hJ0, hJ1, ht16⟩ := id hW
  obtain ⟨w0, w1, w2, w3, w12, w03, w00, wW, wP, wR⟩ := id hw
  have hm := py_wm_of hw
  refine py_ofI (own := RX8) YX8_deed.2.2.2.2 rfl rfl (Nat.le_of_ble_eq_true rfl)  ?_
  show py_Go X RX8 cX8_deed 3 2 0 [some (.ref 47), some (.int (x)), some (.int (y))] [] σ (py_vs (some (.int (an_deed H x y))) (fun s => py_IM s R q B N ft ((nz_deed (n, As, H) x y).2.2) ((nz_deed (n, As, H) x y).1) ((nz_deed (n, As, H) x y).2.1) I0 I1 t tr ∧ py_fr py_SM [] σ s))
  refine go_aload_n (pc := 0) dX8_deed_0 rfl ?_
  refine go_iload_n (pc := 1) dX8_deed_1 rfl ?_
  refine go_cV (pc := 2) dX8_deed_2 (ev_isPicture h5 w12) lX8_177 YX8_isPicture VX8_isPicture rfl rfl rfl (by decide) rfl (Nat.le_of_ble_eq_true rfl) ?_
  refine go_if_eqB (tgt := 18) (pc := 5) dX8_deed_5 (by decide) (fun c_5 => ?_) (fun c_5 => ?_)
  · refine go_ldc (pc := 18) dX8_deed_18 kX8_67 ?_
    have ez : nz_deed (n, As, H) ((x)) ((y)) = (n, As, H) := by unfold nz_deed; rw [if_neg (by dsimp only; omega)]
    exact go_retI (pc := 20) dX8_deed_20 (by unfold an_deed; (repeat' split) <;> first | rfl | omega) ⟨by rw [ez]; exact hI, py_fr.rf _ _ σ⟩
  · obtain ⟨p, rfl, hp, hpI, hpC⟩ := py_pi_of (x := x) c_5
    have hcl : H (15 + 4 * p) ≤ 60 := (wP p hp).2.2.2.2.1
    have hu : H (15 + 4 * (nI p).toNatClampNeg) = H (15 + 4 * p) := by rw [hpC]
    refine go_iload_n (pc := 8) dX8_deed_8 rfl ?_
    refine go_iconst (v := nI 1) (pc := 9) dX8_deed_9 (by decide) ?_
    refine go_bipush (v := nI 60) (pc := 10) dX8_deed_10 (by decide) ?_
    refine go_cS (pc := 12) dX8_deed_12 ev_inN lX8_59 YX8_in SX8_in rfl (by decide) rfl (Nat.le_of_ble_eq_true rfl) ?_
    refine go_if_neB (tgt := 21) (pc := 15) dX8_deed_15 (by decide) (fun c_15 => ?_) (fun c_15 => ?_)
    · obtain ⟨v, rfl, hv0, hv, hvI, hvC⟩ := py_rg_of (x := y) (a := 1) (b := 60) c_15
      refine go_aload_n (pc := 21) dX8_deed_21 rfl ?_
      refine go_getR (pc := 22) dX8_deed_22 fX8_25 rfl rfl ?_
      refine go_bipush (v := nI 13) (pc := 25) dX8_deed_25 (by decide) ?_
      refine go_iconst (v := nI 4) (pc := 27) dX8_deed_27 (by decide) ?_
      refine go_iload_n (pc := 28) dX8_deed_28 rfl ?_
      refine go_imulN (pc := 29) dX8_deed_29  ?_
      refine go_iaddN (pc := 30) dX8_deed_30  ?_
      refine go_iconst (v := nI 2) (pc := 31) dX8_deed_31 (by decide) ?_
      refine go_iaddN (pc := 32) dX8_deed_32  ?_
      refine go_aldN (x := (nI (H (15 + 4 * p)))) (pc := 33) dX8_deed_33 rfl (by show (13 + (4 * p)) + 2 < 33; omega) (py_hm_at h5 (show (13 + (4 * p)) + 2 = 15 + 4 * p by omega) (by omega)) ?_
      refine go_if_neN (tgt := 40) (pc := 34) dX8_deed_34 (by omega) (by decide) (fun c_34 => ?_) (fun c_34 => ?_)
      · refine go_aload_n (pc := 40) dX8_deed_40 rfl ?_
        refine go_cVv (pc := 41) dX8_deed_41 (ev_notes h5 hA.1 h6) lX8_170 YX8_notes VX8_notes rfl rfl rfl (by decide) rfl (Nat.le_of_ble_eq_true rfl) (fun s1 hs => ?_)
        obtain ⟨hs17, hs56, hf1⟩ := hs
        have h51 : py_hm (s1 53) 0 H := by rw [hf1.at 53 (by decide) (by decide)]; exact h5
        refine go_aload_n (pc := 44) dX8_deed_44 rfl ?_
        refine go_getR (pc := 45) dX8_deed_45 fX8_25 rfl rfl ?_
        refine go_iload_n (pc := 48) dX8_deed_48 rfl ?_
        refine go_iload_n (pc := 49) dX8_deed_49 rfl ?_
        refine go_cSv (pc := 50) dX8_deed_50 (ev_takesOff_53 h51 (by omega) hcl (by omega)) lX8_158 YX8_takesOff SX8_takesOff rfl (by decide) rfl (Nat.le_of_ble_eq_true rfl) (fun s2 hs2 => ?_)
        obtain ⟨h52, hf2⟩ := hs2
        have hval : py_pc2 H p (H (15 + 4 * p) - v) (15 + 4 * p) = H (15 + 4 * p) - v := by unfold py_pc2; rw [if_pos rfl]
        refine go_aload_n (pc := 53) dX8_deed_53 rfl ?_
        refine go_getR (pc := 54) dX8_deed_54 fX8_25 rfl rfl ?_
        refine go_bipush (v := nI 13) (pc := 57) dX8_deed_57 (by decide) ?_
        refine go_iconst (v := nI 4) (pc := 59) dX8_deed_59 (by decide) ?_
        refine go_iload_n (pc := 60) dX8_deed_60 rfl ?_
        refine go_imulN (pc := 61) dX8_deed_61  ?_
        refine go_iaddN (pc := 62) dX8_deed_62  ?_
        refine go_iconst (v := nI 2) (pc := 63) dX8_deed_63 (by decide) ?_
        refine go_iaddN (pc := 64) dX8_deed_64  ?_
        refine go_aldN (x := (nI (H (15 + 4 * p) - v))) (pc := 65) dX8_deed_65 rfl (by show (13 + (4 * p)) + 2 < 33; omega) ((py_hm_at h52 (show (13 + (4 * p)) + 2 = 15 + 4 * p by omega) (by omega)).trans (congrArg nI hval)) ?_
        have ez : nz_deed (n, As, H) (nI p) (nI v) = py_act (n, As, H) (py_pc2 H p (H (15 + 4 * p) - v)) := by unfold nz_deed; rw [if_pos (by dsimp only; omega), hpC, hvC]
        have hf := (hf1.wd (S := [53, 56]) (T := [(47, 17)]) (by decide) (by decide)).tr hf2 (by decide) (by decide)
        refine go_retI (pc := 66) dX8_deed_66 (by unfold an_deed; rw [if_pos (by omega), hpC, hvC, if_neg (by omega)]) ⟨?_, hf.wd (by decide) (by decide)⟩
        rw [ez]
        show py_IM s2 R q B N ft (py_pc2 H p (H (15 + 4 * p) - v)) (if n + 1 < 24 then n + 1 else 24) (py_pa n As H) I0 I1 t tr
        exact ⟨py_rk_fr hf (by decide) h1, (by rw [hf 47 4 (by decide) (by decide)]; exact h2), py_tm_fr hf (by decide) h3, (by rw [hf 47 7 (by decide) (by decide)]; exact h4), h52, py_am_fr hf2 (by decide) ⟨hs17, hs56⟩, py_ik_fr hf (by decide) h7, py_ik_fr hf (by decide) h8, py_tn_fr hf (by decide) h9⟩
      · refine go_ldc (pc := 37) dX8_deed_37 kX8_169 ?_
        have ez : nz_deed (n, As, H) ((nI p)) ((nI v)) = (n, As, H) := by unfold nz_deed; rw [if_neg (by dsimp only; omega)]
        exact go_retI (pc := 39) dX8_deed_39 (by unfold an_deed; (repeat' split) <;> first | rfl | omega) ⟨by rw [ez]; exact hI, py_fr.rf _ _ σ⟩
    · refine go_ldc (pc := 18) dX8_deed_18 kX8_67 ?_
      have ez : nz_deed (n, As, H) ((nI p)) ((y)) = (n, As, H) := by unfold nz_deed; rw [if_neg (by dsimp only; omega)]
      exact go_retI (pc := 20) dX8_deed_20 (by unfold an_deed; (repeat' split) <;> first | rfl | omega) ⟨by rw [ez]; exact hI, py_fr.rf _ _ σ⟩
set_option maxHeartbeats 4000000 in
set_option maxRecDepth 100000 in
theorem mo_restore {X : py_X} {σ : py_H} {R : py_Rt} {q : Int32} {B : Nat → Nat} {N : Nat} {ft : Int32} {H : Nat → Nat} {n : Nat} {As : Nat → Nat → Nat} {I0 I1 : Option (Nat → Nat)} {t : Nat} {tr : Nat → Int32} (hI : py_IM σ R q B N ft H n As I0 I1 t tr) (hW : py_IW H n As I0 I1 t) {x y : Int32} : py_Ev X 2 yX8_restore cX8_restore 5 (some .int) [.ref 47, .int (x), .int (y)] σ (py_vs (some (.int (an_restore H x y))) (fun s => py_IM s R q B N ft ((nz_restore (n, As, H) x y).2.2) ((nz_restore (n, As, H) x y).1) ((nz_restore (n, As, H) x y).2.1) I0 I1 t tr ∧ py_fr py_SM [] σ s)) := by
  obtain ⟨h1, h2, h3, h4, h5, h6, h7, h8, h9⟩ := id hI
  obtain ⟨hw, hA, hJ0, hJ1, ht16⟩ := id hW
  obtain ⟨w0, w1, w2, w3, w12, w03, w00, wW, wP, wR⟩ := id hw
  have hm := py_wm_of hw
  refine py_ofI (own := RX8) YX8_restore.2.2.2.2 rfl rfl (Nat.le_of_ble_eq_true rfl)  ?_
  show py_Go X RX8 cX8_restore 5 2 0 [some (.ref 47), some (.int (x)), some (.int (y)), none, none] [] σ (py_vs (some (.int (an_restore H x y))) (fun s => py_IM s R q B N ft ((nz_restore (n, As, H) x y).2.2) ((nz_restore (n, As, H) x y).1) ((nz_restore (n, As, H) x y).2.1) I0 I1 t tr ∧ py_fr py_SM [] σ s))
  refine go_aload_n (pc := 0) dX8_restore_0 rfl ?_
  refine go_iload_n (pc := 1) dX8_restore_1 rfl ?_
  refine go_cV (pc := 2) dX8_restore_2 (ev_isPicture h5 w12) lX8_177 YX8_isPicture VX8_isPicture rfl rfl rfl (by decide) rfl (Nat.le_of_ble_eq_true rfl) ?_
  refine go_if_eqB (tgt := 18) (pc := 5) dX8_restore_5 (by decide) (fun c_5 => ?_) (fun c_5 => ?_)
  · refine go_ldc (pc := 18) dX8_restore_18 kX8_67 ?_
    have ez : nz_restore (n, As, H) ((x)) ((y)) = (n, As, H) := by unfold nz_restore; rw [if_neg (by dsimp only; omega)]
    exact go_retI (pc := 20) dX8_restore_20 (by unfold an_restore; (repeat' split) <;> first | rfl | omega) ⟨by rw [ez]; exact hI, py_fr.rf _ _ σ⟩
  · obtain ⟨p, rfl, hp, hpI, hpC⟩ := py_pi_of (x := x) c_5
    have hcl : H (15 + 4 * p) ≤ 60 := (wP p hp).2.2.2.2.1
    have hu : H (15 + 4 * (nI p).toNatClampNeg) = H (15 + 4 * p) := by rw [hpC]
    refine go_iload_n (pc := 8) dX8_restore_8 rfl ?_
    refine go_iconst (v := nI 1) (pc := 9) dX8_restore_9 (by decide) ?_
    refine go_bipush (v := nI 60) (pc := 10) dX8_restore_10 (by decide) ?_
    refine go_cS (pc := 12) dX8_restore_12 ev_inN lX8_59 YX8_in SX8_in rfl (by decide) rfl (Nat.le_of_ble_eq_true rfl) ?_
    refine go_if_neB (tgt := 21) (pc := 15) dX8_restore_15 (by decide) (fun c_15 => ?_) (fun c_15 => ?_)
    · obtain ⟨v, rfl, hv0, hv, hvI, hvC⟩ := py_rg_of (x := y) (a := 1) (b := 60) c_15
      have hcm : py_cm H (nI p).toNatClampNeg (nI v).toNatClampNeg = py_cm H p v := by rw [hpC, hvC]
      have hcb : py_cm H p v ≤ 60 - H (15 + 4 * p) := by unfold py_cm; split <;> omega
      refine go_aload_n (pc := 21) dX8_restore_21 rfl ?_
      refine go_getR (pc := 22) dX8_restore_22 fX8_25 rfl rfl ?_
      refine go_bipush (v := nI 13) (pc := 25) dX8_restore_25 (by decide) ?_
      refine go_iconst (v := nI 4) (pc := 27) dX8_restore_27 (by decide) ?_
      refine go_iload_n (pc := 28) dX8_restore_28 rfl ?_
      refine go_imulN (pc := 29) dX8_restore_29  ?_
      refine go_iaddN (pc := 30) dX8_restore_30  ?_
      refine go_iconst (v := nI 2) (pc := 31) dX8_restore_31 (by decide) ?_
      refine go_iaddN (pc := 32) dX8_restore_32  ?_
      refine go_aldN (x := (nI (H (15 + 4 * p)))) (pc := 33) dX8_restore_33 rfl (by show (13 + (4 * p)) + 2 < 33; omega) (py_hm_at h5 (show (13 + (4 * p)) + 2 = 15 + 4 * p by omega) (by omega)) ?_
      refine go_istore_n (pc := 34) dX8_restore_34 (by decide) rfl ?_
      refine go_iload_n (pc := 35) dX8_restore_35 rfl ?_
      refine go_bipush (v := nI 60) (pc := 36) dX8_restore_36 (by decide) ?_
      refine go_iload_n (pc := 38) dX8_restore_38 rfl ?_
      refine go_isubN (pc := 39) dX8_restore_39 (by omega) ?_
      refine go_icmp_geN (tgt := 47) (pc := 40) dX8_restore_40 (by omega) (by omega) (by decide) (fun c_40 => ?_) (fun c_40 => ?_)
      · refine go_bipush (v := nI 60) (pc := 47) dX8_restore_47 (by decide) ?_
        refine go_iload_n (pc := 49) dX8_restore_49 rfl ?_
        refine go_isubN (pc := 50) dX8_restore_50 (by omega) ?_
        have e9 : 60 - (H (15 + 4 * p)) = py_cm H p v := by unfold py_cm; rw [if_neg (by omega)]
        rw [e9]
        refine go_istore (pc := 51) dX8_restore_51 (by decide) rfl ?_
        refine go_iload_n (pc := 53) dX8_restore_53 rfl ?_
        refine go_if_eqN (tgt := 68) (pc := 54) dX8_restore_54 (by omega) (by decide) (fun c_54 => ?_) (fun c_54 => ?_)
        · refine go_ldc (pc := 68) dX8_restore_68 kX8_169 ?_
          have ez : nz_restore (n, As, H) ((nI p)) ((nI v)) = (n, As, H) := by unfold nz_restore; rw [if_neg (by dsimp only; omega)]
          exact go_retI (pc := 70) dX8_restore_70 (by unfold an_restore; (repeat' split) <;> first | rfl | omega) ⟨by rw [ez]; exact hI, py_fr.rf _ _ σ⟩
        · refine go_aload_n (pc := 57) dX8_restore_57 rfl ?_
          refine go_getR (pc := 58) dX8_restore_58 fX8_25 rfl rfl ?_
          refine go_iconst (v := nI 1) (pc := 61) dX8_restore_61 (by decide) ?_
          refine go_aldN (x := (nI (H 1))) (pc := 62) dX8_restore_62 rfl (by show 1 < 33; omega) (py_hm_at h5 (show 1 = 1 by omega) (by omega)) ?_
          refine go_iload (pc := 63) dX8_restore_63 rfl ?_
          refine go_icmp_geN (tgt := 71) (pc := 65) dX8_restore_65 (by omega) (by omega) (by decide) (fun c_65 => ?_) (fun c_65 => ?_)
          · refine go_aload_n (pc := 71) dX8_restore_71 rfl ?_
            refine go_cVv (pc := 72) dX8_restore_72 (ev_notes h5 hA.1 h6) lX8_170 YX8_notes VX8_notes rfl rfl rfl (by decide) rfl (Nat.le_of_ble_eq_true rfl) (fun s1 hs => ?_)
            obtain ⟨hs17, hs56, hf1⟩ := hs
            have h51 : py_hm (s1 53) 0 H := by rw [hf1.at 53 (by decide) (by decide)]; exact h5
            refine go_aload_n (pc := 75) dX8_restore_75 rfl ?_
            refine go_getR (pc := 76) dX8_restore_76 fX8_25 rfl rfl ?_
            refine go_iconst (v := nI 1) (pc := 79) dX8_restore_79 (by decide) ?_
            refine go_dup2 (pc := 80) dX8_restore_80 rfl rfl ?_
            refine go_aldN (x := (nI (H 1))) (pc := 81) dX8_restore_81 rfl (by show 1 < 33; omega) (py_hm_at h51 (show 1 = 1 by omega) (by omega)) ?_
            refine go_iload (pc := 82) dX8_restore_82 rfl ?_
            refine go_isubN (pc := 84) dX8_restore_84 (by omega) ?_
            refine go_astN (pc := 85) dX8_restore_85 rfl (by show 1 < 33; omega) ?_
            refine go_aload_n (pc := 86) dX8_restore_86 rfl ?_
            refine go_getR (pc := 87) dX8_restore_87 fX8_25 rfl rfl ?_
            refine go_bipush (v := nI 13) (pc := 90) dX8_restore_90 (by decide) ?_
            refine go_iconst (v := nI 4) (pc := 92) dX8_restore_92 (by decide) ?_
            refine go_iload_n (pc := 93) dX8_restore_93 rfl ?_
            refine go_imulN (pc := 94) dX8_restore_94  ?_
            refine go_iaddN (pc := 95) dX8_restore_95  ?_
            refine go_iconst (v := nI 2) (pc := 96) dX8_restore_96 (by decide) ?_
            refine go_iaddN (pc := 97) dX8_restore_97  ?_
            refine go_iload_n (pc := 98) dX8_restore_98 rfl ?_
            refine go_iload (pc := 99) dX8_restore_99 rfl ?_
            refine go_iaddN (pc := 101) dX8_restore_101  ?_
            refine go_astN (pc := 102) dX8_restore_102 rfl (by show (13 + (4 * p)) + 2 < 33; omega) ?_
            refine go_iload_n (pc := 103) dX8_restore_103 rfl ?_
            refine go_iload (pc := 104) dX8_restore_104 rfl ?_
            refine go_iaddN (pc := 106) dX8_restore_106  ?_
            have ez : nz_restore (n, As, H) (nI p) (nI v) = py_act (n, As, H) (py_rs H p (py_cm H p v)) := by unfold nz_restore; rw [if_pos (by dsimp only; omega), hpC, hvC]
            have hf2 : py_fr [53] [] s1 (py_up (py_up s1 53 1 ((nI ((H 1) - (py_cm H p v))))) 53 ((13 + (4 * p)) + 2) ((nI ((H (15 + 4 * p)) + (py_cm H p v))))) := ((py_fr.rf [53] [] s1).up (by decide) _).up (by decide) _
            have hf := (hf1.wd (S := [53, 56]) (T := [(47, 17)]) (by decide) (by decide)).tr hf2 (by decide) (by decide)
            refine go_retI (pc := 107) dX8_restore_107 (by unfold an_restore; rw [if_pos (by omega), hpC, hvC, if_pos (by omega)]) ⟨?_, hf.wd (by decide) (by decide)⟩
            rw [ez]
            show py_IM (py_up (py_up s1 53 1 ((nI ((H 1) - (py_cm H p v))))) 53 ((13 + (4 * p)) + 2) ((nI ((H (15 + 4 * p)) + (py_cm H p v))))) R q B N ft (py_rs H p (py_cm H p v)) (if n + 1 < 24 then n + 1 else 24) (py_pa n As H) I0 I1 t tr
            have h53 := py_hm_up (i := 15 + 4 * p) (v := H (15 + 4 * p) + py_cm H p v) (py_hm_up (i := 1) (v := H 1 - py_cm H p v) h51 (i2 := 1) rfl) (i2 := 13 + (4 * p) + 2) (by omega)
            have ers : py_rs H p (py_cm H p v) = (fun j => if j = 15 + 4 * p then H (15 + 4 * p) + py_cm H p v else (fun j => if j = 1 then H 1 - py_cm H p v else H j) j) := by
              funext j
              unfold py_rs
              by_cases hj : j = 15 + 4 * p
              · rw [if_pos hj, if_pos hj, hj]
              · rw [if_neg hj, if_neg hj]
            exact ⟨py_rk_fr hf (by decide) h1, (by rw [hf 47 4 (by decide) (by decide)]; exact h2), py_tm_fr hf (by decide) h3, (by rw [hf 47 7 (by decide) (by decide)]; exact h4), (by rw [ers]; exact h53), py_am_fr hf2 (by decide) ⟨hs17, hs56⟩, py_ik_fr hf (by decide) h7, py_ik_fr hf (by decide) h8, py_tn_fr hf (by decide) h9⟩
          · refine go_ldc (pc := 68) dX8_restore_68 kX8_169 ?_
            have ez : nz_restore (n, As, H) ((nI p)) ((nI v)) = (n, As, H) := by unfold nz_restore; rw [if_neg (by dsimp only; omega)]
            exact go_retI (pc := 70) dX8_restore_70 (by unfold an_restore; (repeat' split) <;> first | rfl | omega) ⟨by rw [ez]; exact hI, py_fr.rf _ _ σ⟩
      · refine go_iload_n (pc := 43) dX8_restore_43 rfl ?_
        refine go_goto (tgt := 51) (pc := 44) dX8_restore_44 (by decide) ?_
        have e9 : v = py_cm H p v := by unfold py_cm; rw [if_pos c_40]
        refine go_top (y := nI (py_cm H p v)) (by rw [← e9]) ?_
        refine go_istore (pc := 51) dX8_restore_51 (by decide) rfl ?_
        refine go_iload_n (pc := 53) dX8_restore_53 rfl ?_
        refine go_if_eqN (tgt := 68) (pc := 54) dX8_restore_54 (by omega) (by decide) (fun c_54 => ?_) (fun c_54 => ?_)
        · refine go_ldc (pc := 68) dX8_restore_68 kX8_169 ?_
          have ez : nz_restore (n, As, H) ((nI p)) ((nI v)) = (n, As, H) := by unfold nz_restore; rw [if_neg (by dsimp only; omega)]
          exact go_retI (pc := 70) dX8_restore_70 (by unfold an_restore; (repeat' split) <;> first | rfl | omega) ⟨by rw [ez]; exact hI, py_fr.rf _ _ σ⟩
        · refine go_aload_n (pc := 57) dX8_restore_57 rfl ?_
          refine go_getR (pc := 58) dX8_restore_58 fX8_25 rfl rfl ?_
          refine go_iconst (v := nI 1) (pc := 61) dX8_restore_61 (by decide) ?_
          refine go_aldN (x := (nI (H 1))) (pc := 62) dX8_restore_62 rfl (by show 1 < 33; omega) (py_hm_at h5 (show 1 = 1 by omega) (by omega)) ?_
          refine go_iload (pc := 63) dX8_restore_63 rfl ?_
          refine go_icmp_geN (tgt := 71) (pc := 65) dX8_restore_65 (by omega) (by omega) (by decide) (fun c_65 => ?_) (fun c_65 => ?_)
          · refine go_aload_n (pc := 71) dX8_restore_71 rfl ?_
            refine go_cVv (pc := 72) dX8_restore_72 (ev_notes h5 hA.1 h6) lX8_170 YX8_notes VX8_notes rfl rfl rfl (by decide) rfl (Nat.le_of_ble_eq_true rfl) (fun s1 hs => ?_)
            obtain ⟨hs17, hs56, hf1⟩ := hs
            have h51 : py_hm (s1 53) 0 H := by rw [hf1.at 53 (by decide) (by decide)]; exact h5
            refine go_aload_n (pc := 75) dX8_restore_75 rfl ?_
            refine go_getR (pc := 76) dX8_restore_76 fX8_25 rfl rfl ?_
            refine go_iconst (v := nI 1) (pc := 79) dX8_restore_79 (by decide) ?_
            refine go_dup2 (pc := 80) dX8_restore_80 rfl rfl ?_
            refine go_aldN (x := (nI (H 1))) (pc := 81) dX8_restore_81 rfl (by show 1 < 33; omega) (py_hm_at h51 (show 1 = 1 by omega) (by omega)) ?_
            refine go_iload (pc := 82) dX8_restore_82 rfl ?_
            refine go_isubN (pc := 84) dX8_restore_84 (by omega) ?_
            refine go_astN (pc := 85) dX8_restore_85 rfl (by show 1 < 33; omega) ?_
            refine go_aload_n (pc := 86) dX8_restore_86 rfl ?_
            refine go_getR (pc := 87) dX8_restore_87 fX8_25 rfl rfl ?_
            refine go_bipush (v := nI 13) (pc := 90) dX8_restore_90 (by decide) ?_
            refine go_iconst (v := nI 4) (pc := 92) dX8_restore_92 (by decide) ?_
            refine go_iload_n (pc := 93) dX8_restore_93 rfl ?_
            refine go_imulN (pc := 94) dX8_restore_94  ?_
            refine go_iaddN (pc := 95) dX8_restore_95  ?_
            refine go_iconst (v := nI 2) (pc := 96) dX8_restore_96 (by decide) ?_
            refine go_iaddN (pc := 97) dX8_restore_97  ?_
            refine go_iload_n (pc := 98) dX8_restore_98 rfl ?_
            refine go_iload (pc := 99) dX8_restore_99 rfl ?_
            refine go_iaddN (pc := 101) dX8_restore_101  ?_
            refine go_astN (pc := 102) dX8_restore_102 rfl (by show (13 + (4 * p)) + 2 < 33; omega) ?_
            refine go_iload_n (pc := 103) dX8_restore_103 rfl ?_
            refine go_iload (pc := 104) dX8_restore_104 rfl ?_
            refine go_iaddN (pc := 106) dX8_restore_106  ?_
            have ez : nz_restore (n, As, H) (nI p) (nI v) = py_act (n, As, H) (py_rs H p (py_cm H p v)) := by unfold nz_restore; rw [if_pos (by dsimp only; omega), hpC, hvC]
            have hf2 : py_fr [53] [] s1 (py_up (py_up s1 53 1 ((nI ((H 1) - (py_cm H p v))))) 53 ((13 + (4 * p)) + 2) ((nI ((H (15 + 4 * p)) + (py_cm H p v))))) := ((py_fr.rf [53] [] s1).up (by decide) _).up (by decide) _
            have hf := (hf1.wd (S := [53, 56]) (T := [(47, 17)]) (by decide) (by decide)).tr hf2 (by decide) (by decide)
            refine go_retI (pc := 107) dX8_restore_107 (by unfold an_restore; rw [if_pos (by omega), hpC, hvC, if_pos (by omega)]) ⟨?_, hf.wd (by decide) (by decide)⟩
            rw [ez]
            show py_IM (py_up (py_up s1 53 1 ((nI ((H 1) - (py_cm H p v))))) 53 ((13 + (4 * p)) + 2) ((nI ((H (15 + 4 * p)) + (py_cm H p v))))) R q B N ft (py_rs H p (py_cm H p v)) (if n + 1 < 24 then n + 1 else 24) (py_pa n As H) I0 I1 t tr
            have h53 := py_hm_up (i := 15 + 4 * p) (v := H (15 + 4 * p) + py_cm H p v) (py_hm_up (i := 1) (v := H 1 - py_cm H p v) h51 (i2 := 1) rfl) (i2 := 13 + (4 * p) + 2) (by omega)
            have ers : py_rs H p (py_cm H p v) = (fun j => if j = 15 + 4 * p then H (15 + 4 * p) + py_cm H p v else (fun j => if j = 1 then H 1 - py_cm H p v else H j) j) := by
              funext j
              unfold py_rs
              by_cases hj : j = 15 + 4 * p
              · rw [if_pos hj, if_pos hj, hj]
              · rw [if_neg hj, if_neg hj]
            exact ⟨py_rk_fr hf (by decide) h1, (by rw [hf 47 4 (by decide) (by decide)]; exact h2), py_tm_fr hf (by decide) h3, (by rw [hf 47 7 (by decide) (by decide)]; exact h4), (by rw [ers]; exact h53), py_am_fr hf2 (by decide) ⟨hs17, hs56⟩, py_ik_fr hf (by decide) h7, py_ik_fr hf (by decide) h8, py_tn_fr hf (by decide) h9⟩
          · refine go_ldc (pc := 68) dX8_restore_68 kX8_169 ?_
            have ez : nz_restore (n, As, H) ((nI p)) ((nI v)) = (n, As, H) := by unfold nz_restore; rw [if_neg (by dsimp only; omega)]
            exact go_retI (pc := 70) dX8_restore_70 (by unfold an_restore; (repeat' split) <;> first | rfl | omega) ⟨by rw [ez]; exact hI, py_fr.rf _ _ σ⟩
    · refine go_ldc (pc := 18) dX8_restore_18 kX8_67 ?_
      have ez : nz_restore (n, As, H) ((nI p)) ((y)) = (n, As, H) := by unfold nz_restore; rw [if_neg (by dsimp only; omega)]
      exact go_retI (pc := 20) dX8_restore_20 (by unfold an_restore; (repeat' split) <;> first | rfl | omega) ⟨by rw [ez]; exact hI, py_fr.rf _ _ σ⟩
set_option maxHeartbeats 4000000 in
set_option maxRecDepth 100000 in
theorem mo_hang {X : py_X} {σ : py_H} {R : py_Rt} {q : Int32} {B : Nat → Nat} {N : Nat} {ft : Int32} {H : Nat → Nat} {n : Nat} {As : Nat → Nat → Nat} {I0 I1 : Option (Nat → Nat)} {t : Nat} {tr : Nat → Int32} (hI : py_IM σ R q B N ft H n As I0 I1 t tr) (hW : py_IW H n As I0 I1 t) {x y : Int32} : py_Ev X 2 yX8_hang cX8_hang 4 (some .int) [.ref 47, .int (x), .int (y)] σ (py_vs (some (.int (an_hang H x y))) (fun s => py_IM s R q B N ft ((nz_hang (n, As, H) x y).2.2) ((nz_hang (n, As, H) x y).1) ((nz_hang (n, As, H) x y).2.1) I0 I1 t tr ∧ py_fr py_SM [] σ s)) := by
  obtain ⟨h1, h2, h3, h4, h5, h6, h7, h8, h9⟩ := id hI
  obtain ⟨hw, hA, hJ0, hJ1, ht16⟩ := id hW
  obtain ⟨w0, w1, w2, w3, w12, w03, w00, wW, wP, wR⟩ := id hw
  have hm := py_wm_of hw
  refine py_ofI (own := RX8) YX8_hang.2.2.2.2 rfl rfl (Nat.le_of_ble_eq_true rfl)  ?_
  show py_Go X RX8 cX8_hang 4 2 0 [some (.ref 47), some (.int (x)), some (.int (y)), none] [] σ (py_vs (some (.int (an_hang H x y))) (fun s => py_IM s R q B N ft ((nz_hang (n, As, H) x y).2.2) ((nz_hang (n, As, H) x y).1) ((nz_hang (n, As, H) x y).2.1) I0 I1 t tr ∧ py_fr py_SM [] σ s))
  refine go_aload_n (pc := 0) dX8_hang_0 rfl ?_
  refine go_iload_n (pc := 1) dX8_hang_1 rfl ?_
  refine go_cV (pc := 2) dX8_hang_2 (ev_isPicture h5 w12) lX8_177 YX8_isPicture VX8_isPicture rfl rfl rfl (by decide) rfl (Nat.le_of_ble_eq_true rfl) ?_
  refine go_if_eqB (tgt := 16) (pc := 5) dX8_hang_5 (by decide) (fun c_5 => ?_) (fun c_5 => ?_)
  · refine go_ldc (pc := 16) dX8_hang_16 kX8_67 ?_
    have ez : nz_hang (n, As, H) ((x)) ((y)) = (n, As, H) := by unfold nz_hang; rw [if_neg (by dsimp only; omega)]
    exact go_retI (pc := 18) dX8_hang_18 (by unfold an_hang; (repeat' split) <;> first | rfl | omega) ⟨by rw [ez]; exact hI, py_fr.rf _ _ σ⟩
  · obtain ⟨p, rfl, hp, hpI, hpC⟩ := py_pi_of (x := x) c_5
    have hu : H (16 + 4 * (nI p).toNatClampNeg) = H (16 + 4 * p) := by rw [hpC]
    have hpw : H (16 + 4 * p) < H 3 := (wP p hp).2.2.2.2.2
    refine go_aload_n (pc := 8) dX8_hang_8 rfl ?_
    refine go_iload_n (pc := 9) dX8_hang_9 rfl ?_
    refine go_cV (pc := 10) dX8_hang_10 (ev_isWall h5 w3) lX8_180 YX8_isWall VX8_isWall rfl rfl rfl (by decide) rfl (Nat.le_of_ble_eq_true rfl) ?_
    refine go_if_neB (tgt := 19) (pc := 13) dX8_hang_13 (by decide) (fun c_13 => ?_) (fun c_13 => ?_)
    · obtain ⟨v, rfl, hv, hvI, hvC⟩ := py_pi_of (x := y) c_13
      have hcu : py_ct H (nI v).toNatClampNeg = py_ct H v := by rw [hvC]
      refine go_aload_n (pc := 19) dX8_hang_19 rfl ?_
      refine go_getR (pc := 20) dX8_hang_20 fX8_25 rfl rfl ?_
      refine go_bipush (v := nI 13) (pc := 23) dX8_hang_23 (by decide) ?_
      refine go_iconst (v := nI 4) (pc := 25) dX8_hang_25 (by decide) ?_
      refine go_iload_n (pc := 26) dX8_hang_26 rfl ?_
      refine go_imulN (pc := 27) dX8_hang_27  ?_
      refine go_iaddN (pc := 28) dX8_hang_28  ?_
      refine go_iconst (v := nI 3) (pc := 29) dX8_hang_29 (by decide) ?_
      refine go_iaddN (pc := 30) dX8_hang_30  ?_
      refine go_aldN (x := (nI (H (16 + 4 * p)))) (pc := 31) dX8_hang_31 rfl (by show (13 + (4 * p)) + 3 < 33; omega) (py_hm_at h5 (show (13 + (4 * p)) + 3 = 16 + 4 * p by omega) (by omega)) ?_
      refine go_istore_n (pc := 32) dX8_hang_32 (by decide) rfl ?_
      refine go_iload_n (pc := 33) dX8_hang_33 rfl ?_
      refine go_iload_n (pc := 34) dX8_hang_34 rfl ?_
      refine go_icmp_neN (tgt := 41) (pc := 35) dX8_hang_35 (by omega) (by omega) (by decide) (fun c_35 => ?_) (fun c_35 => ?_)
      · refine go_aload_n (pc := 41) dX8_hang_41 rfl ?_
        refine go_getR (pc := 42) dX8_hang_42 fX8_25 rfl rfl ?_
        refine go_iload_n (pc := 45) dX8_hang_45 rfl ?_
        refine go_cS (pc := 46) dX8_hang_46 (ev_hangOn_53 h5 w12 (fun p hp => Nat.lt_of_lt_of_le (wP p hp).2.2.2.2.2 w3) (by omega)) lX8_127 YX8_hangOn SX8_hangOn rfl (by decide) rfl (Nat.le_of_ble_eq_true rfl) ?_
        refine go_cS (pc := 49) dX8_hang_49 (ev_ones (Nat.lt_of_lt_of_le (py_bs_lt _ _) (py_p2 w12).2.2)) lX8_131 YX8_ones SX8_ones rfl (by decide) rfl (Nat.le_of_ble_eq_true rfl) ?_
        refine go_top (y := nI (py_ct H v)) (by rw [py_pc_bs _ w12]; rfl) ?_
        have hct : py_ct H v ≤ H 12 := py_cn_le _ _
        refine go_aload_n (pc := 52) dX8_hang_52 rfl ?_
        refine go_getR (pc := 53) dX8_hang_53 fX8_25 rfl rfl ?_
        refine go_iconst (v := nI 0) (pc := 56) dX8_hang_56 (by decide) ?_
        refine go_aldN (x := (nI (H 0))) (pc := 57) dX8_hang_57 rfl (by show 0 < 33; omega) (py_hm_at h5 (show 0 = 0 by omega) (by omega)) ?_
        refine go_icmp_ltN (tgt := 64) (pc := 58) dX8_hang_58 (by omega) (by omega) (by decide) (fun c_58 => ?_) (fun c_58 => ?_)
        · refine go_aload_n (pc := 64) dX8_hang_64 rfl ?_
          refine go_cVv (pc := 65) dX8_hang_65 (ev_notes h5 hA.1 h6) lX8_170 YX8_notes VX8_notes rfl rfl rfl (by decide) rfl (Nat.le_of_ble_eq_true rfl) (fun s1 hs => ?_)
          obtain ⟨hs17, hs56, hf1⟩ := hs
          have h51 : py_hm (s1 53) 0 H := by rw [hf1.at 53 (by decide) (by decide)]; exact h5
          refine go_aload_n (pc := 68) dX8_hang_68 rfl ?_
          refine go_getR (pc := 69) dX8_hang_69 fX8_25 rfl rfl ?_
          refine go_bipush (v := nI 13) (pc := 72) dX8_hang_72 (by decide) ?_
          refine go_iconst (v := nI 4) (pc := 74) dX8_hang_74 (by decide) ?_
          refine go_iload_n (pc := 75) dX8_hang_75 rfl ?_
          refine go_imulN (pc := 76) dX8_hang_76  ?_
          refine go_iaddN (pc := 77) dX8_hang_77  ?_
          refine go_iconst (v := nI 3) (pc := 78) dX8_hang_78 (by decide) ?_
          refine go_iaddN (pc := 79) dX8_hang_79  ?_
          refine go_iload_n (pc := 80) dX8_hang_80 rfl ?_
          refine go_astN (pc := 81) dX8_hang_81 rfl (by show (13 + (4 * p)) + 3 < 33; omega) ?_
          refine go_iload_n (pc := 82) dX8_hang_82 rfl ?_
          have ez : nz_hang (n, As, H) (nI p) (nI v) = py_act (n, As, H) (py_hg H p v) := by unfold nz_hang; rw [if_pos (by dsimp only; omega), hpC, hvC]
          have hf2 : py_fr [53] [] s1 (py_up s1 53 ((13 + (4 * p)) + 3) ((nI v))) := (py_fr.rf [53] [] s1).up (by decide) _
          have hf := (hf1.wd (S := [53, 56]) (T := [(47, 17)]) (by decide) (by decide)).tr hf2 (by decide) (by decide)
          refine go_retI (pc := 83) dX8_hang_83 (by unfold an_hang; rw [if_pos (by omega), hpC, hvC, if_neg (by omega), if_pos (by omega)]) ⟨?_, hf.wd (by decide) (by decide)⟩
          rw [ez]
          show py_IM (py_up s1 53 ((13 + (4 * p)) + 3) ((nI v))) R q B N ft (py_hg H p v) (if n + 1 < 24 then n + 1 else 24) (py_pa n As H) I0 I1 t tr
          exact ⟨py_rk_fr hf (by decide) h1, (by rw [hf 47 4 (by decide) (by decide)]; exact h2), py_tm_fr hf (by decide) h3, (by rw [hf 47 7 (by decide) (by decide)]; exact h4), py_hm_up (i := 16 + 4 * p) h51 (by omega), py_am_fr hf2 (by decide) ⟨hs17, hs56⟩, py_ik_fr hf (by decide) h7, py_ik_fr hf (by decide) h8, py_tn_fr hf (by decide) h9⟩
        · refine go_ldc (pc := 61) dX8_hang_61 kX8_88 ?_
          have ez : nz_hang (n, As, H) ((nI p)) ((nI v)) = (n, As, H) := by unfold nz_hang; rw [if_neg (by dsimp only; omega)]
          exact go_retI (pc := 63) dX8_hang_63 (by unfold an_hang; (repeat' split) <;> first | rfl | omega) ⟨by rw [ez]; exact hI, py_fr.rf _ _ σ⟩
      · refine go_ldc (pc := 38) dX8_hang_38 kX8_169 ?_
        have ez : nz_hang (n, As, H) ((nI p)) ((nI v)) = (n, As, H) := by unfold nz_hang; rw [if_neg (by dsimp only; omega)]
        exact go_retI (pc := 40) dX8_hang_40 (by unfold an_hang; (repeat' split) <;> first | rfl | omega) ⟨by rw [ez]; exact hI, py_fr.rf _ _ σ⟩
    · refine go_ldc (pc := 16) dX8_hang_16 kX8_67 ?_
      have ez : nz_hang (n, As, H) ((nI p)) ((y)) = (n, As, H) := by unfold nz_hang; rw [if_neg (by dsimp only; omega)]
      exact go_retI (pc := 18) dX8_hang_18 (by unfold an_hang; (repeat' split) <;> first | rfl | omega) ⟨by rw [ez]; exact hI, py_fr.rf _ _ σ⟩
set_option maxHeartbeats 4000000 in
set_option maxRecDepth 100000 in
theorem mo_years {X : py_X} {σ : py_H} {R : py_Rt} {q : Int32} {B : Nat → Nat} {N : Nat} {ft : Int32} {H : Nat → Nat} {n : Nat} {As : Nat → Nat → Nat} {I0 I1 : Option (Nat → Nat)} {t : Nat} {tr : Nat → Int32} (hI : py_IM σ R q B N ft H n As I0 I1 t tr) (hW : py_IW H n As I0 I1 t) {x : Int32} : py_Ev X 3 yX8_years cX8_years 3 (some .int) [.ref 47, .int (x)] σ (py_vs (some (.int (an_years H x))) (fun s => py_IM s R q B N ft ((nz_years (n, As, H) x).2.2) ((nz_years (n, As, H) x).1) ((nz_years (n, As, H) x).2.1) I0 I1 t tr ∧ py_fr py_SM [] σ s)) := by
  obtain ⟨h1, h2, h3, h4, h5, h6, h7, h8, h9⟩ := id hI
  obtain ⟨hw, hA, hJ0, hJ1, ht16⟩ := id hW
  obtain ⟨w0, w1, w2, w3, w12, w03, w00, wW, wP, wR⟩ := id hw
  have hm := py_wm_of hw
  refine py_ofI (own := RX8) YX8_years.2.2.2.2 rfl rfl (Nat.le_of_ble_eq_true rfl)  ?_
  show py_Go X RX8 cX8_years 3 3 0 [some (.ref 47), some (.int (x)), none] [] σ (py_vs (some (.int (an_years H x))) (fun s => py_IM s R q B N ft ((nz_years (n, As, H) x).2.2) ((nz_years (n, As, H) x).1) ((nz_years (n, As, H) x).2.1) I0 I1 t tr ∧ py_fr py_SM [] σ s))
  have loop : ∀ k, (1 ≤ k ∧ k ≤ 24 ∧ H 2 + k ≤ 999 ∧ 0 < H 0 ∧ x = nI k ∧ (nI k).toInt = (k : Int) ∧ (nI k).toNatClampNeg = k) → ∀ i, i ≤ k → ∀ s, py_fr [53, 56] [(47, 17)] σ s → py_hm (s 53) 0 (py_yz i (n, As, H)).2.2 → (s 47 17 = nI (py_yz i (n, As, H)).1 ∧ ∀ j, j < (py_yz i (n, As, H)).1 → py_hm (s 56) (33 * j) ((py_yz i (n, As, H)).2.1 j)) → (py_yz i (n, As, H)).1 ≤ 24 → py_Go X RX8 cX8_years 3 3 42 [some (.ref 47), some (.int (nI k)), some (.int (nI i))] [] s (py_vs (some (.int (an_years H x))) (fun s => py_IM s R q B N ft ((nz_years (n, As, H) x).2.2) ((nz_years (n, As, H) x).1) ((nz_years (n, As, H) x).2.1) I0 I1 t tr ∧ py_fr py_SM [] σ s)) := by
    intro k hk7
    obtain ⟨hk0, hk, hk9, h00, hx, hkI, hkC⟩ := hk7
    subst hx
    refine py_loop _ k (fun i hi ih s hs hd hac hy24 => ?_)
    have hyh := py_yz_h (z := (n, As, H)) hw i
    change (py_yz i (n, As, H)).2.2 = py_age H i at hyh
    have hyw : py_wf (py_yz i (n, As, H)).2.2 := by rw [hyh]; exact py_age_wf hw (by omega)
    have hy12 : (py_yz i (n, As, H)).2.2 12 = H 12 := by rw [hyh]; exact py_age_12 H i
    refine go_iload_n (pc := 42) dX8_years_42 rfl ?_
    refine go_iload_n (pc := 43) dX8_years_43 rfl ?_
    refine go_icmp_geN (tgt := 64) (pc := 44) dX8_years_44 (by omega) (by omega) (by decide) (fun c_44 => ?_) (fun c_44 => ?_)
    · refine go_aload_n (pc := 64) dX8_years_64 rfl ?_
      refine go_getR (pc := 65) dX8_years_65 fX8_25 rfl rfl ?_
      refine go_cS (pc := 68) dX8_years_68 (ev_mliving_53 hd (by rw [hy12]; exact w12) (fun p hp => (hyw.2.2.2.2.2.2.2.2.1 p hp).2.2.2.2.1)) lX8_173 YX8_living SX8_living rfl (by decide) rfl (Nat.le_of_ble_eq_true rfl) ?_
      have hik : i = k := by omega
      subst hik
      have ez : nz_years (n, As, H) (nI i) = py_yz i (n, As, H) := by unfold nz_years; rw [if_pos (by dsimp only; omega), hkC]
      refine go_retI (pc := 71) dX8_years_71 (by unfold an_years; rw [if_pos (by omega), if_pos (by omega), if_pos (by omega), hkC, hyh]) ⟨?_, hs.wd (by decide) (by decide)⟩
      rw [ez]
      exact ⟨py_rk_fr hs (by decide) h1, (by rw [hs 47 4 (by decide) (by decide)]; exact h2), py_tm_fr hs (by decide) h3, (by rw [hs 47 7 (by decide) (by decide)]; exact h4), hd, hac, py_ik_fr hs (by decide) h7, py_ik_fr hs (by decide) h8, py_tn_fr hs (by decide) h9⟩
    · refine go_aload_n (pc := 47) dX8_years_47 rfl ?_
      refine go_cVv (pc := 48) dX8_years_48 (ev_notes hd hy24 hac) lX8_170 YX8_notes VX8_notes rfl rfl rfl (by decide) rfl (Nat.le_of_ble_eq_true rfl) (fun s1 hs1 => ?_)
      obtain ⟨hs17, hs56, hf1⟩ := hs1
      have hd1 : py_hm (s1 53) 0 (py_yz i (n, As, H)).2.2 := by rw [hf1.at 53 (by decide) (by decide)]; exact hd
      refine go_aload_n (pc := 51) dX8_years_51 rfl ?_
      refine go_getR (pc := 52) dX8_years_52 fX8_25 rfl rfl ?_
      refine go_cSv (pc := 55) dX8_years_55 (ev_passes_53 hd1 (py_wm_of hyw)) lX8_162 YX8_passes SX8_passes rfl (by decide) rfl (Nat.le_of_ble_eq_true rfl) (fun s2 hs2 => ?_)
      obtain ⟨hd2, hf2⟩ := hs2
      refine go_iincN (c := 1) (pc := 58) dX8_years_58 rfl (by decide) (by decide) rfl ?_
      refine go_goto (tgt := 42) (pc := 61) dX8_years_61 (by decide) ?_
      have hstep : py_yz (i + 1) (n, As, H) = py_act (py_yz i (n, As, H)) (py_age (py_yz i (n, As, H)).2.2 1) := rfl
      refine ih (by omega) s2 ((hs.tr hf1 (by decide) (by decide)).tr hf2 (by decide) (by decide)) hd2 (py_am_fr hf2 (by decide) ⟨hs17, hs56⟩) ?_
      rw [hstep]
      show (if (py_yz i (n, As, H)).1 + 1 < 24 then (py_yz i (n, As, H)).1 + 1 else 24) ≤ 24
      split <;> omega
  refine go_aload_n (pc := 0) dX8_years_0 rfl ?_
  refine go_cV (pc := 1) dX8_years_1 (ev_isHouse h5 w0) lX8_166 YX8_isHouse VX8_isHouse rfl rfl rfl (by decide) rfl (Nat.le_of_ble_eq_true rfl) ?_
  refine go_if_neB (tgt := 10) (pc := 4) dX8_years_4 (by decide) (fun c_4 => ?_) (fun c_4 => ?_)
  · refine go_iload_n (pc := 10) dX8_years_10 rfl ?_
    refine go_iconst (v := nI 1) (pc := 11) dX8_years_11 (by decide) ?_
    refine go_bipush (v := nI 24) (pc := 12) dX8_years_12 (by decide) ?_
    refine go_cS (pc := 14) dX8_years_14 ev_inN lX8_59 YX8_in SX8_in rfl (by decide) rfl (Nat.le_of_ble_eq_true rfl) ?_
    refine go_if_neB (tgt := 23) (pc := 17) dX8_years_17 (by decide) (fun c_17 => ?_) (fun c_17 => ?_)
    · obtain ⟨k, rfl, hk0, hk, hkI, hkC⟩ := py_rg_of (x := x) (a := 1) (b := 24) c_17
      refine go_aload_n (pc := 23) dX8_years_23 rfl ?_
      refine go_getR (pc := 24) dX8_years_24 fX8_25 rfl rfl ?_
      refine go_iconst (v := nI 2) (pc := 27) dX8_years_27 (by decide) ?_
      refine go_aldN (x := (nI (H 2))) (pc := 28) dX8_years_28 rfl (by show 2 < 33; omega) (py_hm_at h5 (show 2 = 2 by omega) (by omega)) ?_
      refine go_iload_n (pc := 29) dX8_years_29 rfl ?_
      refine go_iaddN (pc := 30) dX8_years_30  ?_
      refine go_sipush (v := nI 999) (pc := 31) dX8_years_31 (by decide) ?_
      refine go_icmp_leN (tgt := 40) (pc := 34) dX8_years_34 (by omega) (by omega) (by decide) (fun c_34 => ?_) (fun c_34 => ?_)
      · refine go_iconst (v := nI 0) (pc := 40) dX8_years_40 (by decide) ?_
        refine go_istore_n (pc := 41) dX8_years_41 (by decide) rfl ?_
        exact loop k ⟨hk0, hk, c_34, by omega, rfl, hkI, hkC⟩ 0 (by omega) σ (py_fr.rf _ _ σ) h5 h6 hA.1
      · refine go_ldc (pc := 37) dX8_years_37 kX8_88 ?_
        have ez : nz_years (n, As, H) ((nI k)) = (n, As, H) := by unfold nz_years; rw [if_neg (by dsimp only; omega)]
        exact go_retI (pc := 39) dX8_years_39 (by unfold an_years; (repeat' split) <;> first | rfl | omega) ⟨by rw [ez]; exact hI, py_fr.rf _ _ σ⟩
    · refine go_ldc (pc := 20) dX8_years_20 kX8_67 ?_
      have ez : nz_years (n, As, H) ((x)) = (n, As, H) := by unfold nz_years; rw [if_neg (by dsimp only; omega)]
      exact go_retI (pc := 22) dX8_years_22 (by unfold an_years; (repeat' split) <;> first | rfl | omega) ⟨by rw [ez]; exact hI, py_fr.rf _ _ σ⟩
  · refine go_ldc (pc := 7) dX8_years_7 kX8_169 ?_
    have ez : nz_years (n, As, H) ((x)) = (n, As, H) := by unfold nz_years; rw [if_neg (by dsimp only; omega)]
    exact go_retI (pc := 9) dX8_years_9 (by unfold an_years; (repeat' split) <;> first | rfl | omega) ⟨by rw [ez]; exact hI, py_fr.rf _ _ σ⟩
