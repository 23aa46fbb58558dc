/-! contracts: the reference's hanging, its end -/
set_option maxHeartbeats 4000000 in
set_option maxRecDepth 100000 in
theorem mo_hanging {X : py_X} {σ : py_H} {R : py_Rt} {q : Int32} {B : Nat → Nat} {N : Nat} {ft : Int32} {H : Nat → Nat} {n : Nat} {As : Nat → Nat → Nat} {I0 I1 : Option (Nat → Nat)} {t : Nat} {tr : Nat → Int32} (hI : py_IM σ R q B N ft H n As I0 I1 t tr) (hW : py_IW H n As I0 I1 t) {x y : Int32} : py_Ev X 4 yX8_hanging cX8_hanging 10 (some .int) [.ref 47, .int (x), .int (y)] σ (py_vs (some (.int (an_hanging H x y))) (fun s => py_IM s R q B N ft H n As I0 I1 t tr ∧ py_fr py_SM [] σ s)) := by
  obtain ⟨h1, h2, h3, h4, h5, h6, h7, h8, h9⟩ := id hI
  obtain ⟨hw, hA, hJ0, hJ1, ht16⟩ := id hW
  obtain ⟨w0, w1, w2, w3, w12, w03, w00, wW, wP, wR⟩ := id hw
  have hm := py_wm_of hw
  refine py_ofI (own := RX8) YX8_hanging.2.2.2.2 rfl rfl (Nat.le_of_ble_eq_true rfl)  ?_
  show py_Go X RX8 cX8_hanging 10 4 0 [some (.ref 47), some (.int (x)), some (.int (y)), none, none, none, none, none, none, none] [] σ (py_vs (some (.int (an_hanging H x y))) (fun s => py_IM s R q B N ft H n As I0 I1 t tr ∧ py_fr py_SM [] σ s))
  refine go_aload_n (pc := 0) dX8_hanging_0 rfl ?_
  refine go_cV (pc := 1) dX8_hanging_1 (ev_isHouse h5 w0) lX8_166 YX8_isHouse VX8_isHouse rfl rfl rfl (by decide) rfl (Nat.le_of_ble_eq_true rfl) ?_
  refine go_if_neB (tgt := 10) (pc := 4) dX8_hanging_4 (by decide) (fun c_4 => ?_) (fun c_4 => ?_)
  · refine go_iload_n (pc := 10) dX8_hanging_10 rfl ?_
    refine go_cS (pc := 11) dX8_hanging_11 ev_misFar lX8_183 YX8_isFar SX8_isFar rfl (by decide) rfl (Nat.le_of_ble_eq_true rfl) ?_
    refine go_if_eqB (tgt := 27) (pc := 14) dX8_hanging_14 (by decide) (fun c_14 => ?_) (fun c_14 => ?_)
    · refine go_ldc (pc := 27) dX8_hanging_27 kX8_67 ?_
      exact go_retI (pc := 29) dX8_hanging_29 (by unfold an_hanging; (repeat' split) <;> first | rfl | omega) ⟨hI, py_fr.rf _ _ σ⟩
    · obtain ⟨d, rfl, hd0, hd, hdI, hdC⟩ := py_rg_of (x := x) (a := 0) (b := 60) c_14
      refine go_iload_n (pc := 17) dX8_hanging_17 rfl ?_
      refine go_bipush (v := -2) (pc := 18) dX8_hanging_18 (by decide) ?_
      refine go_iconst (v := nI 4) (pc := 20) dX8_hanging_20 (by decide) ?_
      refine go_cS (pc := 21) dX8_hanging_21 ev_in lX8_59 YX8_in SX8_in rfl (by decide) rfl (Nat.le_of_ble_eq_true rfl) ?_
      have hm2 : (-2 : Int32).toInt = -2 := by decide
      have hm4 : (nI 4).toInt = 4 := by decide
      refine go_if_neB (tgt := 30) (pc := 24) dX8_hanging_24 (by decide) (fun c_24 => ?_) (fun c_24 => ?_)
      · refine go_iconst (v := nI 0) (pc := 30) dX8_hanging_30 (by decide) ?_
        refine go_istore_n (pc := 31) dX8_hanging_31 (by decide) rfl ?_
        have hzn := py_hz_some hw (d := d)
        obtain ⟨b, hzb⟩ : ∃ b, py_hz H d = some b := by
          cases hq : py_hz H d with
          | none => exact absurd hq hzn
          | some b => exact ⟨b, rfl⟩
        have fend : ∀ t9, py_hq X σ (py_vs (some (.int (an_hanging H (nI d) y))) (fun s => py_IM s R q B N ft H n As I0 I1 t tr ∧ py_fr py_SM [] σ s)) (H 12) d y 0 t9 (some b) := by
          intro t9 s hs _ hb
          have h5s : py_hm (s 53) 0 H := by rw [hs.at 53 (by decide) (by decide)]; exact h5
          have hb1 : b.1 ≤ 5 := hb.1
          have hb2 : b.2.1 ≤ 300 := hb.2.1
          show py_Go X RX8 cX8_hanging 10 4 60 [some (.ref 47), some (.int (nI d)), some (.int (y)), some (.int (nI (b.1))), some (.int (nI (b.2.1))), some (.int (nI 0)), none, none, none, none] [] s (py_vs (some (.int (an_hanging H (nI d) y))) (fun s => py_IM s R q B N ft H n As I0 I1 t tr ∧ py_fr py_SM [] σ s))
          refine go_iload (pc := 60) dX8_hanging_60 rfl ?_
          refine go_if_eqN (tgt := 245) (pc := 62) dX8_hanging_62 (by omega) (by decide) (fun c_62 => ?_) (fun c_62 => ?_)
          · refine go_iload_n (pc := 245) dX8_hanging_245 rfl ?_
            refine go_iconst (v := -1) (pc := 246) dX8_hanging_246 (by decide) ?_
            refine go_icmp_ne (tgt := 254) (pc := 247) dX8_hanging_247 (by decide) (fun c_247 => ?_) (fun c_247 => ?_)
            · refine go_iload_n (pc := 254) dX8_hanging_254 rfl ?_
              refine go_bipush (v := -2) (pc := 255) dX8_hanging_255 (by decide) ?_
              refine go_icmp_ne (tgt := 265) (pc := 257) dX8_hanging_257 (by decide) (fun c_257 => ?_) (fun c_257 => ?_)
              · refine go_aload_n (pc := 265) dX8_hanging_265 rfl ?_
                refine go_iload_n (pc := 266) dX8_hanging_266 rfl ?_
                refine go_cV (pc := 267) dX8_hanging_267 (ev_isPicture h5s w12) lX8_177 YX8_isPicture VX8_isPicture rfl rfl rfl (by decide) rfl (Nat.le_of_ble_eq_true rfl) ?_
                refine go_if_eqB (tgt := 282) (pc := 270) dX8_hanging_270 (by decide) (fun c_270 => ?_) (fun c_270 => ?_)
                · refine go_ldc (pc := 282) dX8_hanging_282 kX8_53 ?_
                  have hfw : py_fr [55, 59, 60] [] σ s := hs
                  exact go_retI (pc := 284) dX8_hanging_284 (by unfold an_hanging; rw [if_pos (by omega), if_pos (by omega), hdC, hzb]; dsimp only; rw [if_neg (fun z => c_247 (Int32.toInt_inj.mp (by rw [z]; decide))), if_neg (fun z => c_257 (Int32.toInt_inj.mp (by rw [z]; decide))), if_neg (by have z1 : y.toInt ≠ -1 := fun z => c_247 (Int32.toInt_inj.mp (by rw [z]; decide)); have z2 : y.toInt ≠ -2 := fun z => c_257 (Int32.toInt_inj.mp (by rw [z]; decide)); omega)]) ⟨⟨py_rk_fr hfw (by decide) h1, (by rw [hfw 47 4 (by decide) (by decide)]; exact h2), py_tm_fr hfw (by decide) h3, (by rw [hfw 47 7 (by decide) (by decide)]; exact h4), (by rw [hfw.at 53 (by decide) (by decide)]; exact h5), py_am_fr hfw (by decide) h6, py_ik_fr hfw (by decide) h7, py_ik_fr hfw (by decide) h8, py_tn_fr hfw (by decide) h9⟩, hfw.wd (by decide) (by decide)⟩
                · obtain ⟨k, hyk, hk, hkI, hkC⟩ := py_pi_of (x := y) c_270
                  subst hyk
                  refine go_aload_n (pc := 273) dX8_hanging_273 rfl ?_
                  refine go_getR (pc := 274) dX8_hanging_274 fX8_47 rfl rfl ?_
                  refine go_iload_n (pc := 277) dX8_hanging_277 rfl ?_
                  refine go_aldN (x := (nI (b.2.2 k))) (pc := 278) dX8_hanging_278 rfl (by show k < 5; omega) (hb.2.2 k hk) ?_
                  refine go_goto (tgt := 284) (pc := 279) dX8_hanging_279 (by decide) ?_
                  have hfw : py_fr [55, 59, 60] [] σ s := hs
                  exact go_retI (pc := 284) dX8_hanging_284 (by unfold an_hanging; rw [if_pos (by omega), if_pos (by omega), hdC, hzb]; dsimp only; rw [if_neg (by omega), if_neg (by omega), if_pos (by omega), hkC]) ⟨⟨py_rk_fr hfw (by decide) h1, (by rw [hfw 47 4 (by decide) (by decide)]; exact h2), py_tm_fr hfw (by decide) h3, (by rw [hfw 47 7 (by decide) (by decide)]; exact h4), (by rw [hfw.at 53 (by decide) (by decide)]; exact h5), py_am_fr hfw (by decide) h6, py_ik_fr hfw (by decide) h7, py_ik_fr hfw (by decide) h8, py_tn_fr hfw (by decide) h9⟩, hfw.wd (by decide) (by decide)⟩
              · refine go_iload (pc := 260) dX8_hanging_260 rfl ?_
                refine go_goto (tgt := 284) (pc := 262) dX8_hanging_262 (by decide) ?_
                have hfw : py_fr [55, 59, 60] [] σ s := hs
                exact go_retI (pc := 284) dX8_hanging_284 (by unfold an_hanging; rw [if_pos (by omega), if_pos (by omega), hdC, hzb]; dsimp only; rw [if_neg (by rw [c_257]; decide), if_pos (by rw [c_257]; decide)]) ⟨⟨py_rk_fr hfw (by decide) h1, (by rw [hfw 47 4 (by decide) (by decide)]; exact h2), py_tm_fr hfw (by decide) h3, (by rw [hfw 47 7 (by decide) (by decide)]; exact h4), (by rw [hfw.at 53 (by decide) (by decide)]; exact h5), py_am_fr hfw (by decide) h6, py_ik_fr hfw (by decide) h7, py_ik_fr hfw (by decide) h8, py_tn_fr hfw (by decide) h9⟩, hfw.wd (by decide) (by decide)⟩
            · refine go_iload_n (pc := 250) dX8_hanging_250 rfl ?_
              refine go_goto (tgt := 284) (pc := 251) dX8_hanging_251 (by decide) ?_
              have hfw : py_fr [55, 59, 60] [] σ s := hs
              exact go_retI (pc := 284) dX8_hanging_284 (by unfold an_hanging; rw [if_pos (by omega), if_pos (by omega), hdC, hzb]; dsimp only; rw [if_pos (by rw [c_247]; decide)]) ⟨⟨py_rk_fr hfw (by decide) h1, (by rw [hfw 47 4 (by decide) (by decide)]; exact h2), py_tm_fr hfw (by decide) h3, (by rw [hfw 47 7 (by decide) (by decide)]; exact h4), (by rw [hfw.at 53 (by decide) (by decide)]; exact h5), py_am_fr hfw (by decide) h6, py_ik_fr hfw (by decide) h7, py_ik_fr hfw (by decide) h8, py_tn_fr hfw (by decide) h9⟩, hfw.wd (by decide) (by decide)⟩
          · exact absurd c_62 (by decide)
        have fin : py_hq X σ (py_vs (some (.int (an_hanging H (nI d) y))) (fun s => py_IM s R q B N ft H n As I0 I1 t tr ∧ py_fr py_SM [] σ s)) (H 12) d y 1 (fun _ => 0) none := by
          have h33 := w03 (by omega)
          refine py_words (Q := fun t9 B9 => py_hq X σ (py_vs (some (.int (an_hanging H (nI d) y))) (fun s => py_IM s R q B N ft H n As I0 I1 t tr ∧ py_fr py_SM [] σ s)) (H 12) d y 1 t9 B9) (Qe := fun B9 => ∀ t9, py_hq X σ (py_vs (some (.int (an_hanging H (nI d) y))) (fun s => py_IM s R q B N ft H n As I0 I1 t tr ∧ py_fr py_SM [] σ s)) (H 12) d y 0 t9 B9) h33 (py_hbody hw h5 hd) (H 12) 0 (fun _ => 0) none (by omega) (fun q hq => h33) (fun q hq => rfl) ?_
          show ∀ t9, py_hq X σ _ (H 12) d y 0 t9 (py_hu H d (H 12) 0 (fun _ => 0) none)
          rw [← py_hz_hu, hzb]
          exact fend
        have zero : ∀ i, i ≤ 5 → py_Go X RX8 cX8_hanging 10 4 32 [some (.ref 47), some (.int (nI d)), some (.int (y)), some (.int (nI i)), none, none, none, none, none, none] [] (py_row σ 59 (py_zs (σ 59) 0 (i))) (py_vs (some (.int (an_hanging H (nI d) y))) (fun s => py_IM s R q B N ft H n As I0 I1 t tr ∧ py_fr py_SM [] σ s)) := by
          refine py_loop _ 5 (fun i hi ihz => ?_)
          refine go_iload_n (pc := 32) dX8_hanging_32 rfl ?_
          refine go_iconst (v := nI 5) (pc := 33) dX8_hanging_33 (by decide) ?_
          refine go_icmp_geN (tgt := 50) (pc := 34) dX8_hanging_34 (by omega) (by omega) (by decide) (fun c_34 => ?_) (fun c_34 => ?_)
          · refine go_ldc (pc := 50) dX8_hanging_50 kX8_53 ?_
            refine go_istore_n (pc := 52) dX8_hanging_52 (by decide) rfl ?_
            refine go_ldc (pc := 53) dX8_hanging_53 kX8_53 ?_
            refine go_istore (pc := 55) dX8_hanging_55 (by decide) rfl ?_
            refine go_iconst (v := nI 1) (pc := 57) dX8_hanging_57 (by decide) ?_
            refine go_istore (pc := 58) dX8_hanging_58 (by decide) rfl ?_
            have hf9 : py_fr [55, 59, 60] [] σ (py_row σ 59 (py_zs (σ 59) 0 (i))) := (py_fr.rf [55, 59, 60] [] σ).row (by decide) _
            exact fin (py_row σ 59 (py_zs (σ 59) 0 (i))) hf9 (fun _ q hq => by rw [py_row_self]; unfold py_zs; rw [if_pos (by omega)]) trivial
          · refine go_aload_n (pc := 37) dX8_hanging_37 rfl ?_
            refine go_getR (pc := 38) dX8_hanging_38 fX8_44 rfl rfl ?_
            refine go_iload_n (pc := 41) dX8_hanging_41 rfl ?_
            refine go_iconst (v := nI 0) (pc := 42) dX8_hanging_42 (by decide) ?_
            refine go_astN (pc := 43) dX8_hanging_43 rfl (by show i < 5; omega) ?_
            refine go_iincN (c := 1) (pc := 44) dX8_hanging_44 rfl (by decide) (by decide) rfl ?_
            refine go_goto (tgt := 32) (pc := 47) dX8_hanging_47 (by decide) ?_
            rw [py_up_row]
            have e7 := py_zs_s (σ 59) 0 i
            rw [Nat.zero_add] at e7
            rw [e7]
            exact ihz (by omega)
        have e8 := zero 0 (by decide)
        rw [py_zs_0, py_row_id] at e8
        exact e8
      · refine go_ldc (pc := 27) dX8_hanging_27 kX8_67 ?_
        exact go_retI (pc := 29) dX8_hanging_29 (by unfold an_hanging; (repeat' split) <;> first | rfl | omega) ⟨hI, py_fr.rf _ _ σ⟩
  · refine go_ldc (pc := 7) dX8_hanging_7 kX8_169 ?_
    exact go_retI (pc := 9) dX8_hanging_9 (by unfold an_hanging; (repeat' split) <;> first | rfl | omega) ⟨hI, py_fr.rf _ _ σ⟩
