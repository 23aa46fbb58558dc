/-! contracts: what is foretold, second half -/
/-- a local of which nothing is told may hold anything -/
theorem go_drop {X : py_X} {own : String} {cc : ByteArray} {nL d pc : Nat} {ls ls2 : List (Option Value)} {st : List Value} {σ : py_H} {P : py_P} (h : ∀ (i : Nat) (v : Value), ls2[i]? = some (some v) → ls[i]? = some (some v)) (k : py_Go X own cc nL d pc ls2 st σ P) : py_Go X own cc nL d pc ls st σ P := by
  intro p l e R s m args below meth c D ad cI cZ A cells slots Q H locs la C hP hS hL rt
  exact k p l e R s m args below meth c D ad cI cZ A cells slots Q H locs la C hP hS ⟨hL.1, hL.2.1, fun i v hv => hL.2.2 i v (h i v hv)⟩ rt
/-- some locals are told no more -/
def py_mask : List Bool → List (Option Value) → List (Option Value)
  | b :: m, v :: t => (if b then v else none) :: py_mask m t
  | _, _ => []
theorem py_mask_of : ∀ (m : List Bool) (ls : List (Option Value)) (i : Nat) (v : Value), (py_mask m ls)[i]? = some (some v) → ls[i]? = some (some v)
  | [], ls, i, v, h => by simp [py_mask] at h
  | b :: m, [], i, v, h => by simp [py_mask] at h
  | b :: m, w :: t, 0, v, h => by
    cases b
    · simp [py_mask] at h
    · simpa [py_mask] using h
  | b :: m, w :: t, i + 1, v, h => by
    rw [List.getElem?_cons_succ]
    have h2 : (py_mask m t)[i]? = some (some v) := by simpa [py_mask] using h
    exact py_mask_of m t i v h2
theorem go_mask {X : py_X} {own : String} {cc : ByteArray} {nL d pc : Nat} {ls ls2 : List (Option Value)} {st : List Value} {σ : py_H} {P : py_P} (m : List Bool) (h : py_mask m ls = ls2) (k : py_Go X own cc nL d pc ls2 st σ P) : py_Go X own cc nL d pc ls st σ P := go_drop (fun i v hv => py_mask_of m ls i v (h ▸ hv)) k
set_option maxHeartbeats 4000000 in
set_option maxRecDepth 100000 in
theorem ev_firstToDie {X : py_X} {σ : py_H} {H : Nat → Nat} (hc : py_hd σ 7 H) (hw : py_wf H) : py_Ev X 5 yX5_firstToDie cX5_firstToDie 6 (some .int) [.ref 37, .ref 7] σ (py_vs (some (.int (py_whI H (H 12)))) (fun s => py_fr [38] [] σ s)) := by
  obtain ⟨w0, w1, w2, w3, w12, w03, w00, wW, wP, wR⟩ := id hw
  refine py_ofI (own := RX5) YX5_firstToDie.2.2.2.2 rfl rfl (Nat.le_of_ble_eq_true rfl)  ?_
  show py_Go X RX5 cX5_firstToDie 6 5 0 [some (.ref 37), some (.ref 7), none, none, none, none] [] σ (py_vs (some (.int (py_whI H (H 12)))) (fun s => py_fr [38] [] σ s))
  have loop : ∀ i, i ≤ H 12 → ∀ s, py_fr [38] [] σ s → py_Go X RX5 cX5_firstToDie 6 5 9 [some (.ref 37), some (.ref 7), some (.int (py_whI H i)), some (.int (nI (py_sn H i))), some (.int (nI i)), none] [] s (py_vs (some (.int (py_whI H (H 12)))) (fun s => py_fr [38] [] σ s)) := by
    refine py_loop _ (H 12) (fun i hi ih s hs => ?_)
    have hcs := py_hd_fr hs (by decide) (by decide) hc
    refine go_iload (pc := 9) dX5_firstToDie_9 rfl ?_
    refine go_aload_n (pc := 11) dX5_firstToDie_11 rfl ?_
    refine go_getI (x := (nI (H 12))) (pc := 12) dX5_firstToDie_12 fX5_37 rfl rfl hcs.2.2.2.2.1 ?_
    refine go_icmp_geN (tgt := 50) (pc := 15) dX5_firstToDie_15 (by omega) (by omega) (by decide) (fun c_15 => ?_) (fun c_15 => ?_)
    · refine go_iload_n (pc := 50) dX5_firstToDie_50 rfl ?_
      exact go_retI (pc := 51) dX5_firstToDie_51 (by rw [show i = H 12 by omega]) hs
    · refine go_aload_n (pc := 18) dX5_firstToDie_18 rfl ?_
      refine go_aload_n (pc := 19) dX5_firstToDie_19 rfl ?_
      refine go_iload (pc := 20) dX5_firstToDie_20 rfl ?_
      refine go_cVi (pc := 22) dX5_firstToDie_22 (ev_death hcs hw c_15) lX5_64 YX5_death VX5_death rfl rfl rfl (by decide) rfl (Nat.le_of_ble_eq_true rfl) (fun s1 e1 => ?_)
      have hs1 := hs.tr e1 (by decide) (by decide)
      have hsn := py_sn_le H i
      have hdy := py_dy_le H i
      have hdI : (py_dyI H i).toInt = if py_dy H i < 100 then (py_dy H i : Int) else -1000000 := by
        unfold py_dyI
        split
        · exact nI_toInt (by omega)
        · decide
      refine go_istore (pc := 25) dX5_firstToDie_25 (by decide) rfl ?_
      refine go_iload (pc := 27) dX5_firstToDie_27 rfl ?_
      refine go_if_leJ (tgt := 44) (pc := 29) dX5_firstToDie_29 (by decide) (fun c_29 => ?_) (fun c_29 => ?_)
      · refine go_iincN (c := 1) (pc := 44) dX5_firstToDie_44 rfl (by decide) (by decide) rfl ?_
        refine go_goto (tgt := 9) (pc := 47) dX5_firstToDie_47 (by decide) ?_
        have e9 : ¬ (0 < py_dy H i ∧ py_dy H i < py_sn H i) := by
          intro z
          rw [if_pos (by omega)] at hdI
          omega
        have e8 := ih c_15 s1 hs1
        rw [(py_sn_f e9).1, (py_sn_f e9).2] at e8
        exact go_mask [true, true, true, true, true, false] rfl e8
      · refine go_iload (pc := 32) dX5_firstToDie_32 rfl ?_
        refine go_iload_n (pc := 34) dX5_firstToDie_34 rfl ?_
        refine go_icmp_geJN (tgt := 44) (pc := 35) dX5_firstToDie_35 (by omega) (by decide) (fun c_35 => ?_) (fun c_35 => ?_)
        · refine go_iincN (c := 1) (pc := 44) dX5_firstToDie_44 rfl (by decide) (by decide) rfl ?_
          refine go_goto (tgt := 9) (pc := 47) dX5_firstToDie_47 (by decide) ?_
          have e9 : ¬ (0 < py_dy H i ∧ py_dy H i < py_sn H i) := by
            intro z
            rw [if_pos (by omega)] at hdI
            omega
          have e8 := ih c_15 s1 hs1
          rw [(py_sn_f e9).1, (py_sn_f e9).2] at e8
          exact go_mask [true, true, true, true, true, false] rfl e8
        · refine go_iload (pc := 38) dX5_firstToDie_38 rfl ?_
          refine go_istore_n (pc := 40) dX5_firstToDie_40 (by decide) rfl ?_
          refine go_iload (pc := 41) dX5_firstToDie_41 rfl ?_
          refine go_istore_n (pc := 43) dX5_firstToDie_43 (by decide) rfl ?_
          refine go_iincN (c := 1) (pc := 44) dX5_firstToDie_44 rfl (by decide) (by decide) rfl ?_
          refine go_goto (tgt := 9) (pc := 47) dX5_firstToDie_47 (by decide) ?_
          have e9 : 0 < py_dy H i ∧ py_dy H i < py_sn H i := by
            by_cases z : py_dy H i < 100
            · rw [if_pos z] at hdI
              omega
            · rw [if_neg z] at hdI
              omega
          have e8 := ih c_15 s1 hs1
          rw [(py_sn_t e9).1, (py_sn_t e9).2] at e8
          have e7 : py_dyI H i = nI (py_dy H i) := by unfold py_dyI; rw [if_pos (by omega)]
          rw [e7]
          exact go_mask [true, true, true, true, true, false] rfl e8
  refine go_ldc (pc := 0) dX5_firstToDie_0 kX5_63 ?_
  refine go_istore_n (pc := 2) dX5_firstToDie_2 (by decide) rfl ?_
  refine go_bipush (v := nI 100) (pc := 3) dX5_firstToDie_3 (by decide) ?_
  refine go_istore_n (pc := 5) dX5_firstToDie_5 (by decide) rfl ?_
  refine go_iconst (v := nI 0) (pc := 6) dX5_firstToDie_6 (by decide) ?_
  refine go_istore (pc := 7) dX5_firstToDie_7 (by decide) rfl ?_
  exact loop 0 (Nat.zero_le _) σ (py_fr.rf _ _ σ)
set_option maxHeartbeats 4000000 in
set_option maxRecDepth 100000 in
theorem ev_cellsToSave {X : py_X} {σ : py_H} {H : Nat → Nat} (hc : py_hd σ 7 H) (hw : py_wf H) {t n : Nat} (ht : t < 32) (hn : n ≤ 60) : py_Ev X 4 yX5_cellsToSave cX5_cellsToSave 7 (some .int) [.ref 37, .ref 7, .int (nI t), .int (nI n)] σ (py_vs (some (.int (py_saveI H t n))) (fun s => py_fr [38] [] σ s)) := by
  obtain ⟨w0, w1, w2, w3, w12, w03, w00, wW, wP, wR⟩ := id hw
  refine py_ofI (own := RX5) YX5_cellsToSave.2.2.2.2 rfl rfl (Nat.le_of_ble_eq_true rfl)  ?_
  show py_Go X RX5 cX5_cellsToSave 7 4 0 [some (.ref 37), some (.ref 7), some (.int (nI t)), some (.int (nI n)), none, none, none] [] σ (py_vs (some (.int (py_saveI H t n))) (fun s => py_fr [38] [] σ s))
  have loop : ∀ i, i ≤ H 12 → ∀ s, py_fr [38] [] σ s → (∀ p, p < i → py_ok1 H t n p = true) → py_sv H t n i ≤ 60 * i → py_Go X RX5 cX5_cellsToSave 7 4 6 [some (.ref 37), some (.ref 7), some (.int (nI t)), some (.int (nI n)), some (.int (nI (py_sv H t n i))), some (.int (nI i)), none] [] s (py_vs (some (.int (py_saveI H t n))) (fun s => py_fr [38] [] σ s)) := by
    refine py_loop _ (H 12) (fun i hi ih s hs hok hsv => ?_)
    have hcs := py_hd_fr hs (by decide) (by decide) hc
    refine go_iload (pc := 6) dX5_cellsToSave_6 rfl ?_
    refine go_aload_n (pc := 8) dX5_cellsToSave_8 rfl ?_
    refine go_getI (x := (nI (H 12))) (pc := 9) dX5_cellsToSave_9 fX5_37 rfl rfl hcs.2.2.2.2.1 ?_
    refine go_icmp_geN (tgt := 92) (pc := 12) dX5_cellsToSave_12 (by omega) (by omega) (by decide) (fun c_12 => ?_) (fun c_12 => ?_)
    · refine go_iload (pc := 92) dX5_cellsToSave_92 rfl ?_
      refine go_aload_n (pc := 94) dX5_cellsToSave_94 rfl ?_
      refine go_getI (x := (nI (H 1))) (pc := 95) dX5_cellsToSave_95 fX5_108 rfl rfl hcs.2.1 ?_
      refine go_icmp_leN (tgt := 106) (pc := 98) dX5_cellsToSave_98 (by omega) (by omega) (by decide) (fun c_98 => ?_) (fun c_98 => ?_)
      · refine go_iload (pc := 106) dX5_cellsToSave_106 rfl ?_
        refine go_retI (pc := 108) dX5_cellsToSave_108 ?_ hs
        unfold py_saveI
        rw [show i = H 12 by omega] at c_98 ⊢
        rw [if_pos ⟨(py_all_iff _ _).mpr (fun p hp => hok p (by omega)), c_98⟩]
      · refine go_ldc (pc := 101) dX5_cellsToSave_101 kX5_63 ?_
        refine go_goto (tgt := 108) (pc := 103) dX5_cellsToSave_103 (by decide) ?_
        refine go_retI (pc := 108) dX5_cellsToSave_108 ?_ hs
        unfold py_saveI
        rw [if_neg]
        rintro ⟨-, z⟩
        rw [show i = H 12 by omega] at c_98
        omega
    · refine go_iload_n (pc := 15) dX5_cellsToSave_15 rfl ?_
      refine go_iload (pc := 16) dX5_cellsToSave_16 rfl ?_
      refine go_ishr (pc := 18) dX5_cellsToSave_18 ?_
      refine go_iconst (v := nI 1) (pc := 19) dX5_cellsToSave_19 (by decide) ?_
      refine go_iand (pc := 20) dX5_cellsToSave_20 ?_
      refine go_iconst (v := nI 1) (pc := 21) dX5_cellsToSave_21 (by decide) ?_
      refine go_eq (st2 := [.int (nI 1), .int (nI (t / 2 ^ i % 2))]) (by rw [py_shr1 (by omega) (by omega)]) ?_
      refine go_icmp_neN (tgt := 86) (pc := 22) dX5_cellsToSave_22 (by omega) (by omega) (by decide) (fun c_22 => ?_) (fun c_22 => ?_)
      · refine go_iincN (c := 1) (pc := 86) dX5_cellsToSave_86 rfl (by decide) (by decide) rfl ?_
        refine go_goto (tgt := 6) (pc := 89) dX5_cellsToSave_89 (by decide) ?_
        have hbt : py_bit t i = false := decide_eq_false c_22
        have e8 := ih c_12 s hs (fun p hp => by
          by_cases hpi : p = i
          · subst hpi; unfold py_ok1; rw [hbt]; rfl
          · exact hok p (by omega)) (by show py_sv H t n i + _ ≤ _; rw [hbt]; simp only [Bool.false_eq_true, if_false]; omega)
        have e7 : py_sv H t n (i + 1) = py_sv H t n i := by show py_sv H t n i + _ = _; rw [hbt]; rfl
        rw [e7] at e8
        exact e8
      · refine go_aload_n (pc := 25) dX5_cellsToSave_25 rfl ?_
        refine go_getR (pc := 26) dX5_cellsToSave_26 fX5_12 rfl rfl ?_
        refine go_aload_n (pc := 29) dX5_cellsToSave_29 rfl ?_
        refine go_iload (pc := 30) dX5_cellsToSave_30 rfl ?_
        refine go_cVv (pc := 32) dX5_cellsToSave_32 (ev_takeFrom hcs hw c_12) lX5_53 YX3_takeFrom VX3_takeFrom rfl rfl rfl (by decide) rfl (Nat.le_of_ble_eq_true rfl) (fun s1 e1 => ?_)
        obtain ⟨e2, e3⟩ := e1
        have hs1 := hs.tr e3 (by decide) (by decide)
        have hq := wP i c_12
        have hfs : py_fn H i n ≤ 20 * n := py_fs_le (py_bd_of hw c_12).1 (py_bd_of hw c_12).2.2.1 (py_bd_of hw c_12).2.2.2.1 n
        have hbt : py_bit t i = true := decide_eq_true c_22
        refine go_aload_n (pc := 35) dX5_cellsToSave_35 rfl ?_
        refine go_getR (pc := 36) dX5_cellsToSave_36 fX5_12 rfl rfl ?_
        refine go_iload_n (pc := 39) dX5_cellsToSave_39 rfl ?_
        refine go_cV (pc := 40) dX5_cellsToSave_40 (ev_fadesIn (n := n) e2 (py_bd_of hw c_12) (by omega) hq.2.1) lX5_57 YX3_fadesIn VX3_fadesIn rfl rfl rfl (by decide) rfl (Nat.le_of_ble_eq_true rfl) ?_
        refine go_top (y := (nI (py_fn H i n))) rfl ?_
        refine go_iconst (v := nI 1) (pc := 43) dX5_cellsToSave_43 (by decide) ?_
        refine go_iaddN (pc := 44) dX5_cellsToSave_44  ?_
        refine go_istore (pc := 45) dX5_cellsToSave_45 (by decide) rfl ?_
        refine go_aload_n (pc := 47) dX5_cellsToSave_47 rfl ?_
        refine go_getR (pc := 48) dX5_cellsToSave_48 fX5_12 rfl rfl ?_
        refine go_getI (x := (nI (H (15 + 4 * i)))) (pc := 51) dX5_cellsToSave_51 fX5_100 rfl rfl e2.2.2.1 ?_
        refine go_if_eqN (tgt := 64) (pc := 54) dX5_cellsToSave_54 (by omega) (by decide) (fun c_54 => ?_) (fun c_54 => ?_)
        · refine go_ldc (pc := 64) dX5_cellsToSave_64 kX5_63 ?_
          refine go_retI (pc := 66) dX5_cellsToSave_66 ?_ hs1
          unfold py_saveI
          rw [if_neg]
          rintro ⟨z, -⟩
          have z1 := (py_all_iff _ _).mp z i c_12
          unfold py_ok1 at z1
          rw [hbt] at z1
          simp at z1
          omega
        · refine go_iload (pc := 57) dX5_cellsToSave_57 rfl ?_
          refine go_bipush (v := nI 60) (pc := 59) dX5_cellsToSave_59 (by decide) ?_
          refine go_icmp_leN (tgt := 67) (pc := 61) dX5_cellsToSave_61 (by omega) (by omega) (by decide) (fun c_61 => ?_) (fun c_61 => ?_)
          · refine go_iload (pc := 67) dX5_cellsToSave_67 rfl ?_
            refine go_iconst (v := nI 0) (pc := 69) dX5_cellsToSave_69 (by decide) ?_
            refine go_iload (pc := 70) dX5_cellsToSave_70 rfl ?_
            refine go_aload_n (pc := 72) dX5_cellsToSave_72 rfl ?_
            refine go_getR (pc := 73) dX5_cellsToSave_73 fX5_12 rfl rfl ?_
            refine go_getI (x := (nI (H (15 + 4 * i)))) (pc := 76) dX5_cellsToSave_76 fX5_100 rfl rfl e2.2.2.1 ?_
            refine go_isub (pc := 79) dX5_cellsToSave_79  ?_
            refine go_mmax (pc := 80) dX5_cellsToSave_80 lX5_102 Smax Imath Cmax (by decide) (Nat.le_of_ble_eq_true rfl) ?_
            refine go_top (y := (nI (py_nd H i n))) (py_max0 (by omega) (by omega)) ?_
            refine go_iaddN (pc := 83) dX5_cellsToSave_83  ?_
            refine go_istore (pc := 84) dX5_cellsToSave_84 (by decide) rfl ?_
            refine go_iincN (c := 1) (pc := 86) dX5_cellsToSave_86 rfl (by decide) (by decide) rfl ?_
            refine go_goto (tgt := 6) (pc := 89) dX5_cellsToSave_89 (by decide) ?_
            have e7 : py_sv H t n (i + 1) = py_sv H t n i + py_nd H i n := by show py_sv H t n i + _ = _; rw [hbt]; rfl
            have hnd : py_nd H i n ≤ 60 := by unfold py_nd; omega
            have e8 := ih c_12 s1 hs1 (fun p hp => by
              by_cases hpi : p = i
              · subst hpi; unfold py_ok1; rw [hbt]; simp; exact ⟨c_54, by omega⟩
              · exact hok p (by omega)) (by rw [e7]; omega)
            rw [e7] at e8
            exact go_mask [true, true, true, true, true, true, false] rfl e8
          · refine go_ldc (pc := 64) dX5_cellsToSave_64 kX5_63 ?_
            refine go_retI (pc := 66) dX5_cellsToSave_66 ?_ hs1
            unfold py_saveI
            rw [if_neg]
            rintro ⟨z, -⟩
            have z1 := (py_all_iff _ _).mp z i c_12
            unfold py_ok1 at z1
            rw [hbt] at z1
            simp at z1
            omega
  refine go_iconst (v := nI 0) (pc := 0) dX5_cellsToSave_0 (by decide) ?_
  refine go_istore (pc := 1) dX5_cellsToSave_1 (by decide) rfl ?_
  refine go_iconst (v := nI 0) (pc := 3) dX5_cellsToSave_3 (by decide) ?_
  refine go_istore (pc := 4) dX5_cellsToSave_4 (by decide) rfl ?_
  exact loop 0 (Nat.zero_le _) σ (py_fr.rf _ _ σ) (fun p hp => absurd hp (Nat.not_lt_zero p)) (Nat.zero_le _)
theorem py_ol.k0 {s : py_H} {K S C L D Y : Nat} (h : py_ol s K S C L D Y) (v : Nat) : py_ol (py_up s 38 0 (nI v)) v S C L D Y := by
  obtain ⟨a, b, c, d, e, f⟩ := h
  exact ⟨py_up_s _ _ _ _, by rw [py_up_j _ _ _ (by decide)]; exact b, by rw [py_up_j _ _ _ (by decide)]; exact c, by rw [py_up_j _ _ _ (by decide)]; exact d, by rw [py_up_j _ _ _ (by decide)]; exact e, by rw [py_up_j _ _ _ (by decide)]; exact f⟩
theorem py_ol.k1 {s : py_H} {K S C L D Y : Nat} (h : py_ol s K S C L D Y) (v : Nat) : py_ol (py_up s 38 1 (nI v)) K v C L D Y := by
  obtain ⟨a, b, c, d, e, f⟩ := h
  exact ⟨by rw [py_up_j _ _ _ (by decide)]; exact a, py_up_s _ _ _ _, by rw [py_up_j _ _ _ (by decide)]; exact c, by rw [py_up_j _ _ _ (by decide)]; exact d, by rw [py_up_j _ _ _ (by decide)]; exact e, by rw [py_up_j _ _ _ (by decide)]; exact f⟩
theorem py_ol.k2 {s : py_H} {K S C L D Y : Nat} (h : py_ol s K S C L D Y) (v : Nat) : py_ol (py_up s 38 2 (nI v)) K S v L D Y := by
  obtain ⟨a, b, c, d, e, f⟩ := h
  exact ⟨by rw [py_up_j _ _ _ (by decide)]; exact a, by rw [py_up_j _ _ _ (by decide)]; exact b, py_up_s _ _ _ _, by rw [py_up_j _ _ _ (by decide)]; exact d, by rw [py_up_j _ _ _ (by decide)]; exact e, by rw [py_up_j _ _ _ (by decide)]; exact f⟩
theorem py_ol.k3 {s : py_H} {K S C L D Y : Nat} (h : py_ol s K S C L D Y) (v : Nat) : py_ol (py_up s 38 3 (nI v)) K S C v D Y := by
  obtain ⟨a, b, c, d, e, f⟩ := h
  exact ⟨by rw [py_up_j _ _ _ (by decide)]; exact a, by rw [py_up_j _ _ _ (by decide)]; exact b, by rw [py_up_j _ _ _ (by decide)]; exact c, py_up_s _ _ _ _, by rw [py_up_j _ _ _ (by decide)]; exact e, by rw [py_up_j _ _ _ (by decide)]; exact f⟩
theorem py_ol.k4 {s : py_H} {K S C L D Y : Nat} (h : py_ol s K S C L D Y) (v : Nat) : py_ol (py_up s 38 4 (nI v)) K S C L v Y := by
  obtain ⟨a, b, c, d, e, f⟩ := h
  exact ⟨by rw [py_up_j _ _ _ (by decide)]; exact a, by rw [py_up_j _ _ _ (by decide)]; exact b, by rw [py_up_j _ _ _ (by decide)]; exact c, by rw [py_up_j _ _ _ (by decide)]; exact d, py_up_s _ _ _ _, by rw [py_up_j _ _ _ (by decide)]; exact f⟩
theorem py_ol.k5 {s : py_H} {K S C L D Y : Nat} (h : py_ol s K S C L D Y) (v : Nat) : py_ol (py_up s 38 5 (nI v)) K S C L D v := by
  obtain ⟨a, b, c, d, e, f⟩ := h
  exact ⟨by rw [py_up_j _ _ _ (by decide)]; exact a, by rw [py_up_j _ _ _ (by decide)]; exact b, by rw [py_up_j _ _ _ (by decide)]; exact c, by rw [py_up_j _ _ _ (by decide)]; exact d, by rw [py_up_j _ _ _ (by decide)]; exact e, py_up_s _ _ _ _⟩
set_option maxHeartbeats 4000000 in
set_option maxRecDepth 100000 in
theorem ev_livingInDark {X : py_X} {σ : py_H} {H : Nat → Nat} (hc : py_hd σ 7 H) (hw : py_wf H) {x n : Nat} (hx : x < H 3) (hn : n ≤ 60) : py_Ev X 4 yX5_livingInDark cX5_livingInDark 6 (some .int) [.ref 37, .ref 7, .int (nI x), .int (nI n)] σ (py_vs (some (.int (nI (py_dn H x n)))) (fun s => py_fr [38] [] σ s)) := by
  obtain ⟨w0, w1, w2, w3, w12, w03, w00, wW, wP, wR⟩ := id hw
  refine py_ofI (own := RX5) YX5_livingInDark.2.2.2.2 rfl rfl (Nat.le_of_ble_eq_true rfl)  ?_
  show py_Go X RX5 cX5_livingInDark 6 4 0 [some (.ref 37), some (.ref 7), some (.int (nI x)), some (.int (nI n)), none, none] [] σ (py_vs (some (.int (nI (py_dn H x n)))) (fun s => py_fr [38] [] σ s))
  have loop : ∀ i, i ≤ H 12 → ∀ s, py_fr [38] [] σ s → py_Go X RX5 cX5_livingInDark 6 4 6 [some (.ref 37), some (.ref 7), some (.int (nI x)), some (.int (nI n)), some (.int (nI (py_cn (fun p => decide (0 < py_dl H x p n)) i))), some (.int (nI i))] [] s (py_vs (some (.int (nI (py_dn H x n)))) (fun s => py_fr [38] [] σ s)) := by
    refine py_loop _ (H 12) (fun i hi ih s hs => ?_)
    have hcs := py_hd_fr hs (by decide) (by decide) hc
    refine go_iload (pc := 6) dX5_livingInDark_6 rfl ?_
    refine go_aload_n (pc := 8) dX5_livingInDark_8 rfl ?_
    refine go_getI (x := (nI (H 12))) (pc := 9) dX5_livingInDark_9 fX5_37 rfl rfl hcs.2.2.2.2.1 ?_
    refine go_icmp_geN (tgt := 71) (pc := 12) dX5_livingInDark_12 (by omega) (by omega) (by decide) (fun c_12 => ?_) (fun c_12 => ?_)
    · refine go_iload (pc := 71) dX5_livingInDark_71 rfl ?_
      exact go_retI (pc := 73) dX5_livingInDark_73 (by unfold py_dn; rw [show i = H 12 by omega]) hs
    · refine go_aload_n (pc := 15) dX5_livingInDark_15 rfl ?_
      refine go_getR (pc := 16) dX5_livingInDark_16 fX5_12 rfl rfl ?_
      refine go_aload_n (pc := 19) dX5_livingInDark_19 rfl ?_
      refine go_iload (pc := 20) dX5_livingInDark_20 rfl ?_
      refine go_cVv (pc := 22) dX5_livingInDark_22 (ev_takeFrom hcs hw c_12) lX5_53 YX3_takeFrom VX3_takeFrom rfl rfl rfl (by decide) rfl (Nat.le_of_ble_eq_true rfl) (fun s1 e1 => ?_)
      obtain ⟨e2, e3⟩ := e1
      have hs1 := hs.tr e3 (by decide) (by decide)
      have hq := wP i c_12
      have hcs1 := py_hd_fr e3 (by decide) (by decide) hcs
      have hbd := py_bd_of hw c_12
      have hcn := py_cn_le (fun p => decide (0 < py_dl H x p n)) i
      refine go_aload_n (pc := 25) dX5_livingInDark_25 rfl ?_
      refine go_getR (pc := 26) dX5_livingInDark_26 fX5_114 rfl rfl ?_
      refine go_iload (pc := 29) dX5_livingInDark_29 rfl ?_
      refine go_aldN (x := (nI (H (16 + 4 * i)))) (pc := 31) dX5_livingInDark_31 rfl (by show i < 5; omega) (hcs1.2.2.2.2.2.2 i c_12).2.2.2 ?_
      refine go_iload_n (pc := 32) dX5_livingInDark_32 rfl ?_
      refine go_icmp_neN (tgt := 44) (pc := 33) dX5_livingInDark_33 (by omega) (by omega) (by decide) (fun c_33 => ?_) (fun c_33 => ?_)
      · refine go_iload (pc := 44) dX5_livingInDark_44 rfl ?_
        refine go_aload_n (pc := 46) dX5_livingInDark_46 rfl ?_
        refine go_getR (pc := 47) dX5_livingInDark_47 fX5_12 rfl rfl ?_
        refine go_iload_n (pc := 50) dX5_livingInDark_50 rfl ?_
        have edl : py_dl H x i n = H (15 + 4 * i) - py_fs (H (13 + 4 * i)) (H (14 + 4 * i)) (H (4 + 2 * H (16 + 4 * i))) (H (5 + 2 * H (16 + 4 * i))) (H 2) n := by unfold py_dl; rw [if_neg c_33]
        have hsz : py_dl H x i n ≤ 60 := by rw [edl]; omega
        refine go_cV (pc := 51) dX5_livingInDark_51 (ev_cellsBehind e2 hbd (by omega) hq.2.1 hq.2.2.2.2.1) lX5_61 YX3_cellsBehind VX3_cellsBehind rfl rfl rfl (by decide) rfl (Nat.le_of_ble_eq_true rfl) ?_
        rw [← edl]
        refine go_if_leN (tgt := 61) (pc := 54) dX5_livingInDark_54 (by omega) (by decide) (fun c_54 => ?_) (fun c_54 => ?_)
        · refine go_iconst (v := nI 0) (pc := 61) dX5_livingInDark_61 (by decide) ?_
          refine go_iaddN (pc := 62) dX5_livingInDark_62  ?_
          refine go_istore (pc := 63) dX5_livingInDark_63 (by decide) rfl ?_
          refine go_iincN (c := 1) (pc := 65) dX5_livingInDark_65 rfl (by decide) (by decide) rfl ?_
          refine go_goto (tgt := 6) (pc := 68) dX5_livingInDark_68 (by decide) ?_
          have e8 := ih c_12 s1 hs1
          rw [← py_cn_f (f := (fun p => decide (0 < py_dl H x p n))) (p := i) (decide_eq_false (by omega))] at e8
          exact e8
        · refine go_iconst (v := nI 1) (pc := 57) dX5_livingInDark_57 (by decide) ?_
          refine go_goto (tgt := 62) (pc := 58) dX5_livingInDark_58 (by decide) ?_
          refine go_iaddN (pc := 62) dX5_livingInDark_62  ?_
          refine go_istore (pc := 63) dX5_livingInDark_63 (by decide) rfl ?_
          refine go_iincN (c := 1) (pc := 65) dX5_livingInDark_65 rfl (by decide) (by decide) rfl ?_
          refine go_goto (tgt := 6) (pc := 68) dX5_livingInDark_68 (by decide) ?_
          have e8 := ih c_12 s1 hs1
          rw [← py_cn_t (f := (fun p => decide (0 < py_dl H x p n))) (p := i) (decide_eq_true (by omega))] at e8
          exact e8
      · refine go_aload_n (pc := 36) dX5_livingInDark_36 rfl ?_
        refine go_getR (pc := 37) dX5_livingInDark_37 fX5_12 rfl rfl ?_
        refine go_iconst (v := nI 0) (pc := 40) dX5_livingInDark_40 (by decide) ?_
        refine go_putI (pc := 41) dX5_livingInDark_41 fX5_117 rfl rfl ?_
        refine go_iload (pc := 44) dX5_livingInDark_44 rfl ?_
        refine go_aload_n (pc := 46) dX5_livingInDark_46 rfl ?_
        refine go_getR (pc := 47) dX5_livingInDark_47 fX5_12 rfl rfl ?_
        refine go_iload_n (pc := 50) dX5_livingInDark_50 rfl ?_
        have hs2 := hs1.up (k := 38) (j := 3) (by decide) (nI 0)
        have edl : py_dl H x i n = H (15 + 4 * i) - py_fs (H (13 + 4 * i)) (H (14 + 4 * i)) 0 (H (5 + 2 * H (16 + 4 * i))) (H 2) n := by unfold py_dl; rw [if_pos c_33]
        have hsz : py_dl H x i n ≤ 60 := by rw [edl]; omega
        refine go_cV (pc := 51) dX5_livingInDark_51 (ev_cellsBehind (e2.k3 0) ⟨hbd.1, hbd.2.1, by decide, hbd.2.2.2.1, hbd.2.2.2.2⟩ (by omega) hq.2.1 hq.2.2.2.2.1) lX5_61 YX3_cellsBehind VX3_cellsBehind rfl rfl rfl (by decide) rfl (Nat.le_of_ble_eq_true rfl) ?_
        rw [← edl]
        refine go_if_leN (tgt := 61) (pc := 54) dX5_livingInDark_54 (by omega) (by decide) (fun c_54 => ?_) (fun c_54 => ?_)
        · refine go_iconst (v := nI 0) (pc := 61) dX5_livingInDark_61 (by decide) ?_
          refine go_iaddN (pc := 62) dX5_livingInDark_62  ?_
          refine go_istore (pc := 63) dX5_livingInDark_63 (by decide) rfl ?_
          refine go_iincN (c := 1) (pc := 65) dX5_livingInDark_65 rfl (by decide) (by decide) rfl ?_
          refine go_goto (tgt := 6) (pc := 68) dX5_livingInDark_68 (by decide) ?_
          have e8 := ih c_12 _ hs2
          rw [← py_cn_f (f := (fun p => decide (0 < py_dl H x p n))) (p := i) (decide_eq_false (by omega))] at e8
          exact e8
        · refine go_iconst (v := nI 1) (pc := 57) dX5_livingInDark_57 (by decide) ?_
          refine go_goto (tgt := 62) (pc := 58) dX5_livingInDark_58 (by decide) ?_
          refine go_iaddN (pc := 62) dX5_livingInDark_62  ?_
          refine go_istore (pc := 63) dX5_livingInDark_63 (by decide) rfl ?_
          refine go_iincN (c := 1) (pc := 65) dX5_livingInDark_65 rfl (by decide) (by decide) rfl ?_
          refine go_goto (tgt := 6) (pc := 68) dX5_livingInDark_68 (by decide) ?_
          have e8 := ih c_12 _ hs2
          rw [← py_cn_t (f := (fun p => decide (0 < py_dl H x p n))) (p := i) (decide_eq_true (by omega))] at e8
          exact e8
  refine go_iconst (v := nI 0) (pc := 0) dX5_livingInDark_0 (by decide) ?_
  refine go_istore (pc := 1) dX5_livingInDark_1 (by decide) rfl ?_
  refine go_iconst (v := nI 0) (pc := 3) dX5_livingInDark_3 (by decide) ?_
  refine go_istore (pc := 4) dX5_livingInDark_4 (by decide) rfl ?_
  exact loop 0 (Nat.zero_le _) σ (py_fr.rf _ _ σ)
theorem py_dn_le (H : Nat → Nat) (w d : Nat) : py_dn H w d ≤ H 12 := py_cn_le _ _
theorem py_mx_s (f : Nat → Nat) {n : Nat} (h : 0 < n) : py_mx f (n + 1) = if f (py_mx f n) < f n then n else py_mx f n := by
  show (if n = 0 then 0 else _) = _
  rw [if_neg (by omega)]
theorem py_mx_lt (f : Nat → Nat) : ∀ {n : Nat}, 0 < n → py_mx f n < n
  | 0, h => absurd h (by decide)
  | 1, _ => by show 0 < 1; decide
  | n + 2, _ => by
    have ih := py_mx_lt f (n := n + 1) (by omega)
    rw [py_mx_s f (by omega)]
    split <;> omega
def py_mxI (f : Nat → Nat) (n : Nat) : Int32 := if n = 0 then -1 else nI (f (py_mx f n))
set_option maxHeartbeats 4000000 in
set_option maxRecDepth 100000 in
theorem ev_wallToDarken {X : py_X} {σ : py_H} {H : Nat → Nat} (hc : py_hd σ 7 H) (hw : py_wf H) {n : Nat} (hn : n ≤ 60) : py_Ev X 5 yX5_wallToDarken cX5_wallToDarken 7 (some .int) [.ref 37, .ref 7, .int (nI n)] σ (py_vs (some (.int (nI (py_mx (fun w => py_dn H w n) (H 3))))) (fun s => py_fr [38] [] σ s)) := by
  obtain ⟨w0, w1, w2, w3, w12, w03, w00, wW, wP, wR⟩ := id hw
  refine py_ofI (own := RX5) YX5_wallToDarken.2.2.2.2 rfl rfl (Nat.le_of_ble_eq_true rfl)  ?_
  show py_Go X RX5 cX5_wallToDarken 7 5 0 [some (.ref 37), some (.ref 7), some (.int (nI n)), none, none, none, none] [] σ (py_vs (some (.int (nI (py_mx (fun w => py_dn H w n) (H 3))))) (fun s => py_fr [38] [] σ s))
  have loop : ∀ i, i ≤ H 3 → ∀ s, py_fr [38] [] σ s → py_Go X RX5 cX5_wallToDarken 7 5 8 [some (.ref 37), some (.ref 7), some (.int (nI n)), some (.int (nI (py_mx (fun w => py_dn H w n) i))), some (.int (py_mxI (fun w => py_dn H w n) i)), some (.int (nI i)), none] [] s (py_vs (some (.int (nI (py_mx (fun w => py_dn H w n) (H 3))))) (fun s => py_fr [38] [] σ s)) := by
    refine py_loop _ (H 3) (fun i hi ih s hs => ?_)
    have hcs := py_hd_fr hs (by decide) (by decide) hc
    refine go_iload (pc := 8) dX5_wallToDarken_8 rfl ?_
    refine go_aload_n (pc := 10) dX5_wallToDarken_10 rfl ?_
    refine go_getI (x := (nI (H 3))) (pc := 11) dX5_wallToDarken_11 fX5_81 rfl rfl hcs.2.2.2.1 ?_
    refine go_icmp_geN (tgt := 47) (pc := 14) dX5_wallToDarken_14 (by omega) (by omega) (by decide) (fun c_14 => ?_) (fun c_14 => ?_)
    · refine go_iload_n (pc := 47) dX5_wallToDarken_47 rfl ?_
      exact go_retI (pc := 48) dX5_wallToDarken_48 (by rw [show i = H 3 by omega]) hs
    · refine go_aload_n (pc := 17) dX5_wallToDarken_17 rfl ?_
      refine go_aload_n (pc := 18) dX5_wallToDarken_18 rfl ?_
      refine go_iload (pc := 19) dX5_wallToDarken_19 rfl ?_
      refine go_iload_n (pc := 21) dX5_wallToDarken_21 rfl ?_
      refine go_cVi (pc := 22) dX5_wallToDarken_22 (ev_livingInDark hcs hw c_14 hn) lX5_111 YX5_livingInDark VX5_livingInDark rfl rfl rfl (by decide) rfl (Nat.le_of_ble_eq_true rfl) (fun s1 e1 => ?_)
      have hs1 := hs.tr e1 (by decide) (by decide)
      have hdn := py_dn_le H i n
      have hd2 := py_dn_le H (py_mx (fun w => py_dn H w n) i) n
      have hmI : (py_mxI (fun w => py_dn H w n) i).toInt = if i = 0 then -1 else (py_dn H (py_mx (fun w => py_dn H w n) i) n : Int) := by
        unfold py_mxI
        split
        · decide
        · exact nI_toInt (by show py_dn H _ n < _; omega)
      refine go_istore (pc := 25) dX5_wallToDarken_25 (by decide) rfl ?_
      refine go_iload (pc := 27) dX5_wallToDarken_27 rfl ?_
      refine go_iload (pc := 29) dX5_wallToDarken_29 rfl ?_
      refine go_icmp_leNJ (tgt := 41) (pc := 31) dX5_wallToDarken_31 (by omega) (by decide) (fun c_31 => ?_) (fun c_31 => ?_)
      · refine go_iincN (c := 1) (pc := 41) dX5_wallToDarken_41 rfl (by decide) (by decide) rfl ?_
        refine go_goto (tgt := 8) (pc := 44) dX5_wallToDarken_44 (by decide) ?_
        have h0 : i ≠ 0 := by intro z; rw [if_pos z] at hmI; omega
        have e7 : py_mx (fun w => py_dn H w n) (i + 1) = py_mx (fun w => py_dn H w n) i := by
          rw [py_mx_s _ (by omega), if_neg]
          rw [if_neg h0] at hmI
          show ¬ (py_dn H _ n < py_dn H i n)
          omega
        have e8 := ih c_14 s1 hs1
        have e6 : py_mxI (fun w => py_dn H w n) (i + 1) = py_mxI (fun w => py_dn H w n) i := by unfold py_mxI; rw [if_neg (by omega), if_neg h0, e7]
        rw [e6, e7] at e8
        exact go_mask [true, true, true, true, true, true, false] rfl e8
      · refine go_iload (pc := 34) dX5_wallToDarken_34 rfl ?_
        refine go_istore_n (pc := 36) dX5_wallToDarken_36 (by decide) rfl ?_
        refine go_iload (pc := 37) dX5_wallToDarken_37 rfl ?_
        refine go_istore (pc := 39) dX5_wallToDarken_39 (by decide) rfl ?_
        refine go_iincN (c := 1) (pc := 41) dX5_wallToDarken_41 rfl (by decide) (by decide) rfl ?_
        refine go_goto (tgt := 8) (pc := 44) dX5_wallToDarken_44 (by decide) ?_
        have e7 : py_mx (fun w => py_dn H w n) (i + 1) = i := by
          by_cases h0 : i = 0
          · subst h0; rfl
          · rw [py_mx_s _ (by omega), if_pos]
            rw [if_neg h0] at hmI
            show py_dn H _ n < py_dn H i n
            omega
        have e8 := ih c_14 s1 hs1
        have e6 : py_mxI (fun w => py_dn H w n) (i + 1) = nI (py_dn H i n) := by unfold py_mxI; rw [if_neg (by omega), e7]
        rw [e6, e7] at e8
        exact go_mask [true, true, true, true, true, true, false] rfl e8
  refine go_iconst (v := nI 0) (pc := 0) dX5_wallToDarken_0 (by decide) ?_
  refine go_istore_n (pc := 1) dX5_wallToDarken_1 (by decide) rfl ?_
  refine go_iconst (v := -1) (pc := 2) dX5_wallToDarken_2 (by decide) ?_
  refine go_istore (pc := 3) dX5_wallToDarken_3 (by decide) rfl ?_
  refine go_iconst (v := nI 0) (pc := 5) dX5_wallToDarken_5 (by decide) ?_
  refine go_istore (pc := 6) dX5_wallToDarken_6 (by decide) rfl ?_
  exact loop 0 (Nat.zero_le _) σ (py_fr.rf _ _ σ)
set_option maxHeartbeats 4000000 in
set_option maxRecDepth 100000 in
theorem ev_isAsTold {X : py_X} {σ : py_H} {K S C L D Y : Nat} (ho : py_ol σ K S C L D Y) (hb : py_bd S L D Y) (hk5 : K ≤ 5) (hc : C ≤ 60) {n : Nat} (hn : n ≤ 16) : py_Ev X 3 yX5_isAsTold cX5_isAsTold 3 (some .boolean) [.ref 37, .int (nI n)] σ (py_ret (.int (py_b (py_fit K S C L D Y (σ 39) n = true))) σ) := by
  refine py_ofZ (own := RX5) YX5_isAsTold.2.2.2.2 rfl rfl (Nat.le_of_ble_eq_true rfl) py_b_ok ?_
  show py_Go X RX5 cX5_isAsTold 3 3 0 [some (.ref 37), some (.int (nI n)), none] [] σ (py_ret (.int (py_b (py_fit K S C L D Y (σ 39) n = true))) σ)
  have loop : ∀ i, i ≤ n → (∀ y, y < i → nI (C - py_fs K S L D Y (y + 1)) = σ 39 y) → py_Go X RX5 cX5_isAsTold 3 3 2 [some (.ref 37), some (.int (nI n)), some (.int (nI i))] [] σ (py_ret (.int (py_b (py_fit K S C L D Y (σ 39) n = true))) σ) := by
    refine py_loop _ (n) (fun i hi ih hf => ?_)
    refine go_iload_n (pc := 2) dX5_isAsTold_2 rfl ?_
    refine go_iload_n (pc := 3) dX5_isAsTold_3 rfl ?_
    refine go_icmp_geN (tgt := 40) (pc := 4) dX5_isAsTold_4 (by omega) (by omega) (by decide) (fun c_4 => ?_) (fun c_4 => ?_)
    · refine go_iconst (v := nI 1) (pc := 40) dX5_isAsTold_40 (by decide) ?_
      exact go_retI (pc := 41) dX5_isAsTold_41 (py_b_t ((py_all_iff _ n).mpr (fun y hy => decide_eq_true (hf y (by omega))))).symm rfl
    · refine go_iload_n (pc := 7) dX5_isAsTold_7 rfl ?_
      refine go_bipush (v := nI 16) (pc := 8) dX5_isAsTold_8 (by decide) ?_
      refine go_icmp_geN (tgt := 40) (pc := 10) dX5_isAsTold_10 (by omega) (by omega) (by decide) (fun c_10 => ?_) (fun c_10 => ?_)
      · omega
      · refine go_aload_n (pc := 13) dX5_isAsTold_13 rfl ?_
        refine go_getR (pc := 14) dX5_isAsTold_14 fX5_12 rfl rfl ?_
        refine go_iload_n (pc := 17) dX5_isAsTold_17 rfl ?_
        refine go_iconst (v := nI 1) (pc := 18) dX5_isAsTold_18 (by decide) ?_
        refine go_iaddN (pc := 19) dX5_isAsTold_19  ?_
        refine go_cV (pc := 20) dX5_isAsTold_20 (ev_cellsBehind (n := i + 1) ho hb (by omega) hk5 hc) lX5_61 YX3_cellsBehind VX3_cellsBehind rfl rfl rfl (by decide) rfl (Nat.le_of_ble_eq_true rfl) ?_
        refine go_aload_n (pc := 23) dX5_isAsTold_23 rfl ?_
        refine go_getR (pc := 24) dX5_isAsTold_24 fX5_18 rfl rfl ?_
        refine go_iload_n (pc := 27) dX5_isAsTold_27 rfl ?_
        refine go_aldN (x := (σ 39 i)) (pc := 28) dX5_isAsTold_28 rfl (by show i < 16; omega) rfl ?_
        refine go_icmp_eq (tgt := 34) (pc := 29) dX5_isAsTold_29 (by decide) (fun c_29 => ?_) (fun c_29 => ?_)
        · refine go_iincN (c := 1) (pc := 34) dX5_isAsTold_34 rfl (by decide) (by decide) rfl ?_
          refine go_goto (tgt := 2) (pc := 37) dX5_isAsTold_37 (by decide) ?_
          exact ih c_4 (fun y hy => by
            by_cases hyi : y = i
            · subst hyi; exact c_29
            · exact hf y (by omega))
        · refine go_iconst (v := nI 0) (pc := 32) dX5_isAsTold_32 (by decide) ?_
          exact go_retI (pc := 33) dX5_isAsTold_33 (py_b_f (py_fit_f c_4 c_29)).symm rfl
  refine go_iconst (v := nI 0) (pc := 0) dX5_isAsTold_0 (by decide) ?_
  refine go_istore_n (pc := 1) dX5_isAsTold_1 (by decide) rfl ?_
  exact loop 0 (Nat.zero_le _) (fun y hy => absurd hy (Nat.not_lt_zero y))
