/-! contracts: the reference's fits -/
theorem py_fit_s {K S C L D Y : Nat} {τ : Nat → Int32} {n : Nat} : py_fit K S C L D Y τ (n + 1) = true ↔ py_fit K S C L D Y τ n = true ∧ nI (C - py_fs K S L D Y (n + 1)) = τ n := by
  unfold py_fit
  rw [py_all_s]
  simp
set_option maxHeartbeats 4000000 in
set_option maxRecDepth 100000 in
theorem ev_goesSo {X : py_X} {σ : py_H} {G : Nat → Nat} (hG : py_hm (σ 55) 0 G) (hw : py_wm G) {p f n : Nat} (hp : p < G 12) (hf : f + n ≤ 320) (hn : n ≤ 16) (hy : G 2 + n ≤ 5000) : py_Ev X 3 yX8_goesSo cX8_goesSo 6 (some .boolean) [.ref 47, .int (nI p), .int (nI f), .int (nI n)] σ (py_vs (some (.int (py_b (py_fit (G (13 + 4 * p)) (G (14 + 4 * p)) (G (15 + 4 * p)) (G (4 + 2 * G (16 + 4 * p))) (G (5 + 2 * G (16 + 4 * p))) (G 2) (fun k => σ 50 (f + k)) n = true)))) (fun s => py_fr [55] [] σ s)) := by
  have w12 := hw.1
  refine py_ofZ (own := RX8) YX8_goesSo.2.2.2.2 rfl rfl (Nat.le_of_ble_eq_true rfl) py_b_ok ?_
  show py_Go X RX8 cX8_goesSo 6 3 0 [some (.ref 47), some (.int (nI p)), some (.int (nI f)), some (.int (nI n)), none, none] [] σ (py_vs (some (.int (py_b (py_fit (G (13 + 4 * p)) (G (14 + 4 * p)) (G (15 + 4 * p)) (G (4 + 2 * G (16 + 4 * p))) (G (5 + 2 * G (16 + 4 * p))) (G 2) (fun k => σ 50 (f + k)) n = true)))) (fun s => py_fr [55] [] σ s))
  have loop : ∀ i, i ≤ n → ∀ s, py_hm (s 55) 0 (py_age G i) → py_fr [55] [] σ s → py_Go X RX8 cX8_goesSo 6 3 6 [some (.ref 47), some (.int (nI p)), some (.int (nI f)), some (.int (nI n)), some (.int (py_b (py_fit (G (13 + 4 * p)) (G (14 + 4 * p)) (G (15 + 4 * p)) (G (4 + 2 * G (16 + 4 * p))) (G (5 + 2 * G (16 + 4 * p))) (G 2) (fun k => σ 50 (f + k)) i = true))), some (.int (nI i))] [] s (py_vs (some (.int (py_b (py_fit (G (13 + 4 * p)) (G (14 + 4 * p)) (G (15 + 4 * p)) (G (4 + 2 * G (16 + 4 * p))) (G (5 + 2 * G (16 + 4 * p))) (G 2) (fun k => σ 50 (f + k)) n = true)))) (fun s => py_fr [55] [] σ s)) := by
    refine py_loop _ n (fun i hi ih s hT hs => ?_)
    refine go_iload (pc := 6) dX8_goesSo_6 rfl ?_
    refine go_iload_n (pc := 8) dX8_goesSo_8 rfl ?_
    refine go_icmp_geN (tgt := 62) (pc := 9) dX8_goesSo_9 (by omega) (by omega) (by decide) (fun c_9 => ?_) (fun c_9 => ?_)
    · refine go_iload (pc := 62) dX8_goesSo_62 rfl ?_
      exact go_retI (pc := 64) dX8_goesSo_64 (by rw [show i = n by omega]) hs
    · refine go_aload_n (pc := 12) dX8_goesSo_12 rfl ?_
      refine go_getR (pc := 13) dX8_goesSo_13 fX8_31 rfl rfl ?_
      refine go_cSv (pc := 16) dX8_goesSo_16 (ev_passes_55 hT (py_age_wm hw (by omega))) lX8_162 YX8_passes SX8_passes rfl (by decide) rfl (Nat.le_of_ble_eq_true rfl) (fun s1 hs1 => ?_)
      obtain ⟨hT1, hf1⟩ := hs1
      rw [py_age_ag hw] at hT1
      have hs1 := hs.tr hf1 (by decide) (by decide)
      refine go_iload (pc := 19) dX8_goesSo_19 rfl ?_
      refine go_if_eqB (tgt := 53) (pc := 21) dX8_goesSo_21 (by decide) (fun c_21 => ?_) (fun c_21 => ?_)
      · refine go_iconst (v := nI 0) (pc := 53) dX8_goesSo_53 (by decide) ?_
        refine go_istore (pc := 54) dX8_goesSo_54 (by decide) rfl ?_
        refine go_iincN (c := 1) (pc := 56) dX8_goesSo_56 rfl (by decide) (by decide) rfl ?_
        refine go_goto (tgt := 6) (pc := 59) dX8_goesSo_59 (by decide) ?_
        have e4 : py_b (py_fit (G (13 + 4 * p)) (G (14 + 4 * p)) (G (15 + 4 * p)) (G (4 + 2 * G (16 + 4 * p))) (G (5 + 2 * G (16 + 4 * p))) (G 2) (fun k => σ 50 (f + k)) (i + 1) = true) = nI 0 := py_b_f (fun z => by first | exact c_21 (py_fit_s.mp z).1 | exact c_46 (py_fit_s.mp z).2)
        have e8 := ih (by omega) s1 hT1 hs1
        rw [e4] at e8
        exact e8
      · refine go_aload_n (pc := 24) dX8_goesSo_24 rfl ?_
        refine go_getR (pc := 25) dX8_goesSo_25 fX8_31 rfl rfl ?_
        refine go_bipush (v := nI 13) (pc := 28) dX8_goesSo_28 (by decide) ?_
        refine go_iconst (v := nI 4) (pc := 30) dX8_goesSo_30 (by decide) ?_
        refine go_iload_n (pc := 31) dX8_goesSo_31 rfl ?_
        refine go_imulN (pc := 32) dX8_goesSo_32  ?_
        refine go_iaddN (pc := 33) dX8_goesSo_33  ?_
        refine go_iconst (v := nI 2) (pc := 34) dX8_goesSo_34 (by decide) ?_
        refine go_iaddN (pc := 35) dX8_goesSo_35  ?_
        refine go_aldN (x := (nI (py_lf G p (i + 1)))) (pc := 36) dX8_goesSo_36 rfl (by show (13 + (4 * p)) + 2 < 33; omega) ((py_hm_at hT1 (show (13 + (4 * p)) + 2 = 15 + 4 * p by omega) (by omega)).trans (congrArg nI (py_lf_age hp (i + 1)))) ?_
        refine go_aload_n (pc := 37) dX8_goesSo_37 rfl ?_
        refine go_getR (pc := 38) dX8_goesSo_38 fX8_16 rfl rfl ?_
        refine go_iload_n (pc := 41) dX8_goesSo_41 rfl ?_
        refine go_iload (pc := 42) dX8_goesSo_42 rfl ?_
        refine go_iaddN (pc := 44) dX8_goesSo_44  ?_
        refine go_aldN (x := (σ 50 (f + i))) (pc := 45) dX8_goesSo_45 rfl (by show f + i < 320; omega) (by rw [hs1.at 50 (by decide) (by decide)]) ?_
        refine go_icmp_ne (tgt := 53) (pc := 46) dX8_goesSo_46 (by decide) (fun c_46 => ?_) (fun c_46 => ?_)
        · refine go_iconst (v := nI 0) (pc := 53) dX8_goesSo_53 (by decide) ?_
          refine go_istore (pc := 54) dX8_goesSo_54 (by decide) rfl ?_
          refine go_iincN (c := 1) (pc := 56) dX8_goesSo_56 rfl (by decide) (by decide) rfl ?_
          refine go_goto (tgt := 6) (pc := 59) dX8_goesSo_59 (by decide) ?_
          have e4 : py_b (py_fit (G (13 + 4 * p)) (G (14 + 4 * p)) (G (15 + 4 * p)) (G (4 + 2 * G (16 + 4 * p))) (G (5 + 2 * G (16 + 4 * p))) (G 2) (fun k => σ 50 (f + k)) (i + 1) = true) = nI 0 := py_b_f (fun z => by first | exact c_21 (py_fit_s.mp z).1 | exact c_46 (py_fit_s.mp z).2)
          have e8 := ih (by omega) s1 hT1 hs1
          rw [e4] at e8
          exact e8
        · refine go_iconst (v := nI 1) (pc := 49) dX8_goesSo_49 (by decide) ?_
          refine go_goto (tgt := 54) (pc := 50) dX8_goesSo_50 (by decide) ?_
          refine go_istore (pc := 54) dX8_goesSo_54 (by decide) rfl ?_
          refine go_iincN (c := 1) (pc := 56) dX8_goesSo_56 rfl (by decide) (by decide) rfl ?_
          refine go_goto (tgt := 6) (pc := 59) dX8_goesSo_59 (by decide) ?_
          have e4 : py_b (py_fit (G (13 + 4 * p)) (G (14 + 4 * p)) (G (15 + 4 * p)) (G (4 + 2 * G (16 + 4 * p))) (G (5 + 2 * G (16 + 4 * p))) (G 2) (fun k => σ 50 (f + k)) (i + 1) = true) = nI 1 := py_b_t (py_fit_s.mpr ⟨c_21, c_46⟩)
          have e8 := ih (by omega) s1 hT1 hs1
          rw [e4] at e8
          exact e8
  refine go_iconst (v := nI 1) (pc := 0) dX8_goesSo_0 (by decide) ?_
  refine go_istore (pc := 1) dX8_goesSo_1 (by decide) rfl ?_
  refine go_iconst (v := nI 0) (pc := 3) dX8_goesSo_3 (by decide) ?_
  refine go_istore (pc := 4) dX8_goesSo_4 (by decide) rfl ?_
  have e8 := loop 0 (by omega) σ (by rw [py_age_0]; exact hG) (py_fr.rf _ _ σ)
  rw [show py_b (py_fit (G (13 + 4 * p)) (G (14 + 4 * p)) (G (15 + 4 * p)) (G (4 + 2 * G (16 + 4 * p))) (G (5 + 2 * G (16 + 4 * p))) (G 2) (fun k => σ 50 (f + k)) 0 = true) = nI 1 from py_b_t rfl] at e8
  exact e8
/-- a house with one number put another way -/
def py_one (H : Nat → Nat) (i v : Nat) : Nat → Nat := fun j => if j = i then v else H j
theorem py_one_s (H : Nat → Nat) (i v : Nat) : py_one H i v i = v := by unfold py_one; rw [if_pos rfl]
theorem py_one_o {H : Nat → Nat} {i v j : Nat} (h : j ≠ i) : py_one H i v j = H j := by unfold py_one; rw [if_neg h]
theorem py_pc2_one (H : Nat → Nat) (p v : Nat) : py_pc2 H p v = py_one H (15 + 4 * p) v := rfl
theorem py_one_wm {H : Nat → Nat} (h : py_wm H) {p a v : Nat} (hp : p < H 12) (ha : a = 0 ∨ a = 1 ∨ a = 2 ∨ a = 3) (h0 : a = 0 → v ≤ 5) (h1 : a = 1 → 1 ≤ v ∧ v ≤ 9) (h2 : a = 2 → v ≤ 60) (h3 : a = 3 → v < H 3) : py_wm (py_one H (13 + 4 * p + a) v) := by
  obtain ⟨w12, w3, w2, wW, wP⟩ := h
  have e12 : py_one H (13 + 4 * p + a) v 12 = H 12 := py_one_o (by omega)
  have e3 : py_one H (13 + 4 * p + a) v 3 = H 3 := py_one_o (by omega)
  have e2 : py_one H (13 + 4 * p + a) v 2 = H 2 := py_one_o (by omega)
  unfold py_wm
  rw [e12, e3, e2]
  refine ⟨w12, w3, w2, fun k hk => ?_, fun q hq => ?_⟩
  · rw [py_one_o (j := 4 + 2 * k) (by omega), py_one_o (j := 5 + 2 * k) (by omega)]
    exact wW k hk
  · have z := wP q hq
    by_cases hqp : q = p
    · subst hqp
      rcases ha with ha | ha | ha | ha <;> subst ha
      · rw [show 13 + 4 * q + 0 = 13 + 4 * q by omega, py_one_s, py_one_o (j := 14 + 4 * q) (by omega), py_one_o (j := 15 + 4 * q) (by omega), py_one_o (j := 16 + 4 * q) (by omega)]
        exact ⟨h0 rfl, z.2⟩
      · rw [show 13 + 4 * q + 1 = 14 + 4 * q by omega, py_one_s, py_one_o (j := 13 + 4 * q) (by omega), py_one_o (j := 15 + 4 * q) (by omega), py_one_o (j := 16 + 4 * q) (by omega)]
        exact ⟨z.1, (h1 rfl).1, (h1 rfl).2, z.2.2.2⟩
      · rw [show 13 + 4 * q + 2 = 15 + 4 * q by omega, py_one_s, py_one_o (j := 13 + 4 * q) (by omega), py_one_o (j := 14 + 4 * q) (by omega), py_one_o (j := 16 + 4 * q) (by omega)]
        exact ⟨z.1, z.2.1, z.2.2.1, h2 rfl, z.2.2.2.2⟩
      · rw [show 13 + 4 * q + 3 = 16 + 4 * q by omega, py_one_s, py_one_o (j := 13 + 4 * q) (by omega), py_one_o (j := 14 + 4 * q) (by omega), py_one_o (j := 15 + 4 * q) (by omega)]
        exact ⟨z.1, z.2.1, z.2.2.1, z.2.2.2.1, h3 rfl⟩
    · rw [py_one_o (j := 13 + 4 * q) (by omega), py_one_o (j := 14 + 4 * q) (by omega), py_one_o (j := 15 + 4 * q) (by omega), py_one_o (j := 16 + 4 * q) (by omega)]
      exact z
theorem py_one_w0 {H : Nat → Nat} (h : py_wm H) {p v : Nat} (hp : p < H 12) (hv : v ≤ 5) : py_wm (py_one H (13 + 4 * p) v) := by
  have z := py_one_wm (a := 0) (v := v) h hp (by omega) (by omega) (by omega) (by omega) (by omega)
  exact z
theorem py_one_w1 {H : Nat → Nat} (h : py_wm H) {p v : Nat} (hp : p < H 12) (hv : 1 ≤ v ∧ v ≤ 9) : py_wm (py_one H (14 + 4 * p) v) := by
  have z := py_one_wm (a := 1) (v := v) h hp (by omega) (by omega) (by omega) (by omega) (by omega)
  rw [show 13 + 4 * p + 1 = 14 + 4 * p by omega] at z
  exact z
theorem py_one_w2 {H : Nat → Nat} (h : py_wm H) {p v : Nat} (hp : p < H 12) (hv : v ≤ 60) : py_wm (py_one H (15 + 4 * p) v) := by
  have z := py_one_wm (a := 2) (v := v) h hp (by omega) (by omega) (by omega) (by omega) (by omega)
  rw [show 13 + 4 * p + 2 = 15 + 4 * p by omega] at z
  exact z
theorem py_one_w3 {H : Nat → Nat} (h : py_wm H) {p v : Nat} (hp : p < H 12) (hv : v < H 3) : py_wm (py_one H (16 + 4 * p) v) := by
  have z := py_one_wm (a := 3) (v := v) h hp (by omega) (by omega) (by omega) (by omega) (by omega)
  rw [show 13 + 4 * p + 3 = 16 + 4 * p by omega] at z
  exact z

set_option maxHeartbeats 4000000 in
set_option maxRecDepth 100000 in
theorem mo_fits {X : py_X} {σ : py_H} {R : py_Rt} {q : Int32} {B : Nat → Nat} {N : Nat} {ft : Int32} {H : Nat → Nat} {n : Nat} {As : Nat → Nat → Nat} {I0 I1 : Option (Nat → Nat)} {t : Nat} {tr : Nat → Int32} (hI : py_IM σ R q B N ft H n As I0 I1 t tr) (hW : py_IW H n As I0 I1 t) {x xr xi xn y : Int32} : py_Ev X 4 yX8_fits cX8_fits 11 (some .int) [.ref 47, .int (x), .int (xr), .int (xi), .int (xn), .int (y)] σ (py_vs (some (.int (an_fits R H x xr xi xn y))) (fun s => py_IM s R (nq_fits R q H x xr xi xn y) B N ft H n As I0 I1 t tr ∧ py_fr py_SM [] σ s)) := by
  obtain ⟨h1, h2, h3, h4, h5, h6, h7, h8, h9⟩ := id hI
  obtain ⟨hw, hA, hJ0, hJ1, ht16⟩ := id hW
  obtain ⟨w0, w1, w2, w3, w12, w03, w00, wW, wP, wR⟩ := id hw
  have hm := py_wm_of hw
  refine py_ofI (own := RX8) YX8_fits.2.2.2.2 rfl rfl (Nat.le_of_ble_eq_true rfl)  ?_
  show py_Go X RX8 cX8_fits 11 4 0 [some (.ref 47), some (.int (x)), some (.int (xr)), some (.int (xi)), some (.int (xn)), some (.int (y)), none, none, none, none, none] [] σ (py_vs (some (.int (an_fits R H x xr xi xn y))) (fun s => py_IM s R (nq_fits R q H x xr xi xn y) B N ft H n As I0 I1 t tr ∧ py_fr py_SM [] σ s))
  refine go_aload_n (pc := 0) dX8_fits_0 rfl ?_
  refine go_iload_n (pc := 1) dX8_fits_1 rfl ?_
  refine go_cV (pc := 2) dX8_fits_2 (ev_isPicture h5 w12) lX8_177 YX8_isPicture VX8_isPicture rfl rfl rfl (by decide) rfl (Nat.le_of_ble_eq_true rfl) ?_
  refine go_if_eqB (tgt := 36) (pc := 5) dX8_fits_5 (by decide) (fun c_5 => ?_) (fun c_5 => ?_)
  · refine go_ldc (pc := 36) dX8_fits_36 kX8_67 ?_
    have e2 : nq_fits R q H ((x)) ((xr)) ((xi)) ((xn)) ((y)) = q := by unfold nq_fits; (repeat' split) <;> first | rfl | omega
    exact go_retI (pc := 38) dX8_fits_38 (by unfold an_fits; (repeat' split) <;> first | rfl | omega) ⟨by rw [e2]; exact hI, py_fr.rf _ _ σ⟩
  · obtain ⟨p, rfl, hp, hpI, hpC⟩ := py_pi_of (x := x) c_5
    have hq := wP p hp
    refine go_iload_n (pc := 8) dX8_fits_8 rfl ?_
    refine go_cS (pc := 9) dX8_fits_9 ev_misRow lX8_63 YX8_isRow SX8_isRow rfl (by decide) rfl (Nat.le_of_ble_eq_true rfl) ?_
    refine go_if_eqB (tgt := 36) (pc := 12) dX8_fits_12 (by decide) (fun c_12 => ?_) (fun c_12 => ?_)
    · refine go_ldc (pc := 36) dX8_fits_36 kX8_67 ?_
      have e2 : nq_fits R q H ((nI p)) ((xr)) ((xi)) ((xn)) ((y)) = q := by unfold nq_fits; (repeat' split) <;> first | rfl | omega
      exact go_retI (pc := 38) dX8_fits_38 (by unfold an_fits; (repeat' split) <;> first | rfl | omega) ⟨by rw [e2]; exact hI, py_fr.rf _ _ σ⟩
    · obtain ⟨a, rfl, ha, haI, haC⟩ := py_pi_of (x := xr) c_12
      have hRa := h1 a ha
      have hua1 : R.1 (nI a).toNatClampNeg = R.1 a := by rw [haC]
      have hua2 : R.2.1 (nI a).toNatClampNeg = R.2.1 a := by rw [haC]
      refine go_iload (pc := 15) dX8_fits_15 rfl ?_
      refine go_iconst (v := nI 1) (pc := 17) dX8_fits_17 (by decide) ?_
      refine go_bipush (v := nI 16) (pc := 18) dX8_fits_18 (by decide) ?_
      refine go_cS (pc := 20) dX8_fits_20 ev_inN lX8_59 YX8_in SX8_in rfl (by decide) rfl (Nat.le_of_ble_eq_true rfl) ?_
      refine go_if_eqB (tgt := 36) (pc := 23) dX8_fits_23 (by decide) (fun c_23 => ?_) (fun c_23 => ?_)
      · refine go_ldc (pc := 36) dX8_fits_36 kX8_67 ?_
        have e2 : nq_fits R q H ((nI p)) ((nI a)) ((xi)) ((xn)) ((y)) = q := by unfold nq_fits; (repeat' split) <;> first | rfl | omega
        exact go_retI (pc := 38) dX8_fits_38 (by unfold an_fits; (repeat' split) <;> first | rfl | omega) ⟨by rw [e2]; exact hI, py_fr.rf _ _ σ⟩
      · obtain ⟨m, rfl, hm0, hm16, hmI, hmC⟩ := py_rg_of (x := xn) (a := 1) (b := 16) c_23
        refine go_iload (pc := 26) dX8_fits_26 rfl ?_
        refine go_iconst (v := nI 0) (pc := 28) dX8_fits_28 (by decide) ?_
        refine go_iconst (v := nI 3) (pc := 29) dX8_fits_29 (by decide) ?_
        refine go_cS (pc := 30) dX8_fits_30 ev_inN lX8_59 YX8_in SX8_in rfl (by decide) rfl (Nat.le_of_ble_eq_true rfl) ?_
        refine go_if_neB (tgt := 39) (pc := 33) dX8_fits_33 (by decide) (fun c_33 => ?_) (fun c_33 => ?_)
        · obtain ⟨k, rfl, hk0, hk, hkI, hkC⟩ := py_rg_of (x := y) (a := 0) (b := 3) c_33
          refine go_aload_n (pc := 39) dX8_fits_39 rfl ?_
          refine go_iload_n (pc := 40) dX8_fits_40 rfl ?_
          refine go_cV (pc := 41) dX8_fits_41 (ev_misMissing ha hRa.2.1 hRa.1) lX8_75 YX8_isMissing VX8_isMissing rfl rfl rfl (by decide) rfl (Nat.le_of_ble_eq_true rfl) ?_
          refine go_if_eqB (tgt := 53) (pc := 44) dX8_fits_44 (by decide) (fun c_44 => ?_) (fun c_44 => ?_)
          · have hMa := hRa.2.2 (by omega)
            refine go_aload_n (pc := 53) dX8_fits_53 rfl ?_
            refine go_iload_n (pc := 54) dX8_fits_54 rfl ?_
            refine go_iload_n (pc := 55) dX8_fits_55 rfl ?_
            refine go_iload (pc := 56) dX8_fits_56 rfl ?_
            refine go_cV (pc := 58) dX8_fits_58 (ev_isPart ha hMa.2.1 hMa.1) lX8_82 YX8_isPart VX8_isPart rfl rfl rfl (by decide) rfl (Nat.le_of_ble_eq_true rfl) ?_
            refine go_if_neB (tgt := 70) (pc := 61) dX8_fits_61 (by decide) (fun c_61 => ?_) (fun c_61 => ?_)
            · obtain ⟨i, rfl, hi0, hi, hiI, hiC⟩ := py_rg_of (x := xi) (a := 0) (b := 40) ⟨by omega, by omega⟩
              rcases (show k = 0 ∨ k = 1 ∨ k = 2 ∨ k = 3 by omega) with hk9 | hk9 | hk9 | hk9
              · subst hk9
                refine go_iload (pc := 70) dX8_fits_70 rfl ?_
                refine go_iconst (v := nI 2) (pc := 72) dX8_fits_72 (by decide) ?_
                refine go_icmp_geN (tgt := 80) (pc := 73) dX8_fits_73 (by omega) (by omega) (by decide) (fun c_73 => ?_) (fun c_73 => ?_)
                · omega
                · refine go_iconst (v := nI 1) (pc := 76) dX8_fits_76 (by decide) ?_
                  refine go_goto (tgt := 81) (pc := 77) dX8_fits_77 (by decide) ?_
                  refine go_istore (pc := 81) dX8_fits_81 (by decide) rfl ?_
                  refine go_iload (pc := 83) dX8_fits_83 rfl ?_
                  refine go_if_neN (tgt := 92) (pc := 85) dX8_fits_85 (by omega) (by decide) (fun c_85 => ?_) (fun c_85 => ?_)
                  · omega
                  · refine go_iconst (v := nI 5) (pc := 88) dX8_fits_88 (by decide) ?_
                    refine go_goto (tgt := 122) (pc := 89) dX8_fits_89 (by decide) ?_
                    refine go_istore (pc := 122) dX8_fits_122 (by decide) rfl ?_
                    refine go_bipush (v := nI 13) (pc := 124) dX8_fits_124 (by decide) ?_
                    refine go_iconst (v := nI 4) (pc := 126) dX8_fits_126 (by decide) ?_
                    refine go_iload_n (pc := 127) dX8_fits_127 rfl ?_
                    refine go_imulN (pc := 128) dX8_fits_128  ?_
                    refine go_iaddN (pc := 129) dX8_fits_129  ?_
                    refine go_iload (pc := 130) dX8_fits_130 rfl ?_
                    refine go_if_neN (tgt := 139) (pc := 132) dX8_fits_132 (by omega) (by decide) (fun c_132 => ?_) (fun c_132 => ?_)
                    · omega
                    · refine go_iconst (v := nI 0) (pc := 135) dX8_fits_135 (by decide) ?_
                      refine go_goto (tgt := 150) (pc := 136) dX8_fits_136 (by decide) ?_
                      refine go_iaddN (pc := 150) dX8_fits_150  ?_
                      refine go_istore (pc := 151) dX8_fits_151 (by decide) rfl ?_
                      refine go_iconst (v := nI 0) (pc := 153) dX8_fits_153 (by decide) ?_
                      refine go_istore (pc := 154) dX8_fits_154 (by decide) rfl ?_
                      refine go_iload (pc := 156) dX8_fits_156 rfl ?_
                      refine go_istore (pc := 158) dX8_fits_158 (by decide) rfl ?_
                      have loop : ∀ v, v ≤ 6 → 1 ≤ v → ∀ s, py_fr [55] [] σ s → py_Go X RX8 cX8_fits 11 4 160 [some (.ref 47), some (.int (nI p)), some (.int (nI a)), some (.int (nI i)), some (.int (nI m)), some (.int (nI 0)), some (.int (nI 1)), some (.int (nI 5)), some (.int (nI ((13 + (4 * p)) + 0))), some (.int (nI (py_bs (fun v => decide (1 ≤ v) && py_fit v (H (14 + 4 * p)) (H (15 + 4 * p)) (H (4 + 2 * H (16 + 4 * p))) (H (5 + 2 * H (16 + 4 * p))) (H 2) (fun k => R.2.2 (40 * a + i + k)) m) v))), some (.int (nI v))] [] s (py_vs (some (.int (an_fits R H (nI p) (nI a) (nI i) (nI m) (nI 0)))) (fun s => py_IM s R (nq_fits R q H (nI p) (nI a) (nI i) (nI m) (nI 0)) B N ft H n As I0 I1 t tr ∧ py_fr py_SM [] σ s)) := by
                        refine py_loop _ (6) (fun v hv ih hv1 s hs => ?_)
                        have h5s : py_hm (s 53) 0 H := by rw [hs.at 53 (by decide) (by decide)]; exact h5
                        have hbl := py_bs_lt (fun v => decide (1 ≤ v) && py_fit v (H (14 + 4 * p)) (H (15 + 4 * p)) (H (4 + 2 * H (16 + 4 * p))) (H (5 + 2 * H (16 + 4 * p))) (H 2) (fun k => R.2.2 (40 * a + i + k)) m) v
                        have hb30 : 2 ^ v ≤ 2 ^ 30 := Nat.pow_le_pow_right (by decide) (by omega)
                        refine go_iload (pc := 160) dX8_fits_160 rfl ?_
                        refine go_iload (pc := 162) dX8_fits_162 rfl ?_
                        refine go_icmp_gtN (tgt := 234) (pc := 164) dX8_fits_164 (by omega) (by omega) (by decide) (fun c_164 => ?_) (fun c_164 => ?_)
                        · refine go_aload_n (pc := 234) dX8_fits_234 rfl ?_
                          refine go_iload (pc := 235) dX8_fits_235 rfl ?_
                          refine go_cVi (pc := 237) dX8_fits_237 ev_mwell lX8_72 YX8_well VX8_well rfl rfl rfl (by decide) rfl (Nat.le_of_ble_eq_true rfl) (fun sf ef => ?_)
                          subst ef
                          have hv9 : v = 6 := by omega
                          have hf : py_fr [55] [(47, 4)] σ (py_up s 47 4 (nI 0)) := (hs.wd (S := [55]) (T := [(47, 4)]) (by decide) (by decide)).ut (by decide) _
                          refine go_retI (pc := 240) dX8_fits_240 ?_ ⟨?_, hf.wd (by decide) (by decide)⟩
                          · rw [hv9]
                            unfold an_fits
                            rw [if_pos (by omega), haC, if_neg (by omega), if_pos (by omega), hpC, hiC, hmC]
                            unfold py_ft4
                            (repeat' split) <;> first | omega | rfl
                          · refine ⟨py_rk_fr hf (by decide) h1, ?_, py_tm_fr hf (by decide) h3, (by rw [hf 47 7 (by decide) (by decide)]; exact h4), (by rw [hf.at 53 (by decide) (by decide)]; exact h5), py_am_fr hf (by decide) h6, py_ik_fr hf (by decide) h7, py_ik_fr hf (by decide) h8, py_tn_fr hf (by decide) h9⟩
                            rw [py_up_s]
                            unfold nq_fits
                            rw [if_pos (by omega), haC, if_neg (by omega), if_pos (by omega)]
                        · refine go_aload_n (pc := 167) dX8_fits_167 rfl ?_
                          refine go_cVv (pc := 168) dX8_fits_168 (ev_tries h5s) lX8_186 YX8_tries VX8_tries rfl rfl rfl (by decide) rfl (Nat.le_of_ble_eq_true rfl) (fun s1 hs1 => ?_)
                          obtain ⟨hT1, hf1⟩ := hs1
                          refine go_iload (pc := 171) dX8_fits_171 rfl ?_
                          refine go_iconst (v := nI 3) (pc := 173) dX8_fits_173 (by decide) ?_
                          refine go_icmp_neN (tgt := 190) (pc := 174) dX8_fits_174 (by omega) (by omega) (by decide) (fun c_174 => ?_) (fun c_174 => ?_)
                          · refine go_aload_n (pc := 190) dX8_fits_190 rfl ?_
                            refine go_getR (pc := 191) dX8_fits_191 fX8_31 rfl rfl ?_
                            refine go_iload (pc := 194) dX8_fits_194 rfl ?_
                            refine go_iload (pc := 196) dX8_fits_196 rfl ?_
                            refine go_astN (pc := 198) dX8_fits_198 rfl (by show (13 + (4 * p)) + 0 < 33; omega) ?_
                            refine go_iload (pc := 199) dX8_fits_199 rfl ?_
                            refine go_aload_n (pc := 201) dX8_fits_201 rfl ?_
                            refine go_iload_n (pc := 202) dX8_fits_202 rfl ?_
                            refine go_bipush (v := nI 40) (pc := 203) dX8_fits_203 (by decide) ?_
                            refine go_iload_n (pc := 205) dX8_fits_205 rfl ?_
                            refine go_imulN (pc := 206) dX8_fits_206  ?_
                            refine go_iload_n (pc := 207) dX8_fits_207 rfl ?_
                            refine go_iaddN (pc := 208) dX8_fits_208  ?_
                            refine go_iload (pc := 209) dX8_fits_209 rfl ?_
                            have hT3 : py_hm ((py_up s1 55 ((13 + (4 * p)) + 0) ((nI v))) 55) 0 (py_one H (13 + 4 * p) v) := py_hm_up (i := 13 + 4 * p) (v := v) hT1 (by omega)
                            have hs2 : py_fr [55] [] s (py_up s1 55 ((13 + (4 * p)) + 0) ((nI v))) := hf1.up (by decide) _
                            have hsw := hs.tr hs2 (by decide) (by decide)
                            have htau : ∀ j, j < m → (py_up s1 55 ((13 + (4 * p)) + 0) ((nI v))) 50 (40 * a + i + j) = R.2.2 (40 * a + i + j) := fun j hj => by rw [hsw.at 50 (by decide) (by decide), show 40 * a + i + j = 40 * a + (i + j) by omega]; exact hMa.2.2 (i + j) (by omega)
                            refine go_cVi (pc := 211) dX8_fits_211 (ev_goesSo hT3 (py_one_w0 hm hp (by omega)) (p := p) (by rw [py_one_o (by omega)]; exact hp) (by omega) hm16 (by rw [py_one_o (by omega)]; omega)) lX8_206 YX8_goesSo VX8_goesSo rfl rfl rfl (by decide) rfl (Nat.le_of_ble_eq_true rfl) (fun s3 hs3 => ?_)
                            refine go_top (y := py_b ((fun v => decide (1 ≤ v) && py_fit v (H (14 + 4 * p)) (H (15 + 4 * p)) (H (4 + 2 * H (16 + 4 * p))) (H (5 + 2 * H (16 + 4 * p))) (H 2) (fun k => R.2.2 (40 * a + i + k)) m) v = true)) (py_b_c (by rw [py_fit_cong htau, py_one_o (j := 14 + 4 * p) (by omega), py_one_o (j := 15 + 4 * p) (by omega), py_one_o (j := 16 + 4 * p) (by omega), py_one_s, py_one_o (j := 4 + 2 * H (16 + 4 * p)) (by omega), py_one_o (j := 5 + 2 * H (16 + 4 * p)) (by omega), py_one_o (j := 2) (by omega)]; dsimp only; rw [decide_eq_true hv1, Bool.true_and])) ?_
                            have hs4 := hsw.tr hs3 (by decide) (by decide)
                            refine go_if_eqB (tgt := 224) (pc := 214) dX8_fits_214 (by decide) (fun c_214 => ?_) (fun c_214 => ?_)
                            · refine go_iconst (v := nI 0) (pc := 224) dX8_fits_224 (by decide) ?_
                              refine go_ior (pc := 225) dX8_fits_225 ?_
                              refine go_istore (pc := 226) dX8_fits_226 (by decide) rfl ?_
                              refine go_iincN (c := 1) (pc := 228) dX8_fits_228 rfl (by decide) (by decide) rfl ?_
                              refine go_goto (tgt := 160) (pc := 231) dX8_fits_231 (by decide) ?_
                              have e8 := ih (by omega) (by omega) s3 hs4
                              rw [← py_bs_f (f := (fun v => decide (1 ≤ v) && py_fit v (H (14 + 4 * p)) (H (15 + 4 * p)) (H (4 + 2 * H (16 + 4 * p))) (H (5 + 2 * H (16 + 4 * p))) (H 2) (fun k => R.2.2 (40 * a + i + k)) m)) (p := v) (by simpa using c_214)] at e8
                              rw [py_or0]
                              exact e8
                            · refine go_iconst (v := nI 1) (pc := 217) dX8_fits_217 (by decide) ?_
                              refine go_iload (pc := 218) dX8_fits_218 rfl ?_
                              refine go_ishl (pc := 220) dX8_fits_220 ?_
                              refine go_goto (tgt := 225) (pc := 221) dX8_fits_221 (by decide) ?_
                              refine go_ior (pc := 225) dX8_fits_225 ?_
                              refine go_istore (pc := 226) dX8_fits_226 (by decide) rfl ?_
                              refine go_iincN (c := 1) (pc := 228) dX8_fits_228 rfl (by decide) (by decide) rfl ?_
                              refine go_goto (tgt := 160) (pc := 231) dX8_fits_231 (by decide) ?_
                              have e8 := ih (by omega) (by omega) s3 hs4
                              rw [py_or_add (py_bs_lt _ v) (by omega), py_bs_t (f := (fun v => decide (1 ≤ v) && py_fit v (H (14 + 4 * p)) (H (15 + 4 * p)) (H (4 + 2 * H (16 + 4 * p))) (H (5 + 2 * H (16 + 4 * p))) (H 2) (fun k => R.2.2 (40 * a + i + k)) m)) (p := v) c_214]
                              exact e8
                          · omega
                      have e8 := loop 1 (by decide) (by decide) σ (py_fr.rf _ _ σ)
                      rw [show py_bs (fun v => decide (1 ≤ v) && py_fit v (H (14 + 4 * p)) (H (15 + 4 * p)) (H (4 + 2 * H (16 + 4 * p))) (H (5 + 2 * H (16 + 4 * p))) (H 2) (fun k => R.2.2 (40 * a + i + k)) m) 1 = 0 from rfl] at e8
                      exact e8
              · subst hk9
                refine go_iload (pc := 70) dX8_fits_70 rfl ?_
                refine go_iconst (v := nI 2) (pc := 72) dX8_fits_72 (by decide) ?_
                refine go_icmp_geN (tgt := 80) (pc := 73) dX8_fits_73 (by omega) (by omega) (by decide) (fun c_73 => ?_) (fun c_73 => ?_)
                · omega
                · refine go_iconst (v := nI 1) (pc := 76) dX8_fits_76 (by decide) ?_
                  refine go_goto (tgt := 81) (pc := 77) dX8_fits_77 (by decide) ?_
                  refine go_istore (pc := 81) dX8_fits_81 (by decide) rfl ?_
                  refine go_iload (pc := 83) dX8_fits_83 rfl ?_
                  refine go_if_neN (tgt := 92) (pc := 85) dX8_fits_85 (by omega) (by decide) (fun c_85 => ?_) (fun c_85 => ?_)
                  · refine go_iload (pc := 92) dX8_fits_92 rfl ?_
                    refine go_iconst (v := nI 1) (pc := 94) dX8_fits_94 (by decide) ?_
                    refine go_icmp_neN (tgt := 103) (pc := 95) dX8_fits_95 (by omega) (by omega) (by decide) (fun c_95 => ?_) (fun c_95 => ?_)
                    · omega
                    · refine go_bipush (v := nI 9) (pc := 98) dX8_fits_98 (by decide) ?_
                      refine go_goto (tgt := 122) (pc := 100) dX8_fits_100 (by decide) ?_
                      refine go_istore (pc := 122) dX8_fits_122 (by decide) rfl ?_
                      refine go_bipush (v := nI 13) (pc := 124) dX8_fits_124 (by decide) ?_
                      refine go_iconst (v := nI 4) (pc := 126) dX8_fits_126 (by decide) ?_
                      refine go_iload_n (pc := 127) dX8_fits_127 rfl ?_
                      refine go_imulN (pc := 128) dX8_fits_128  ?_
                      refine go_iaddN (pc := 129) dX8_fits_129  ?_
                      refine go_iload (pc := 130) dX8_fits_130 rfl ?_
                      refine go_if_neN (tgt := 139) (pc := 132) dX8_fits_132 (by omega) (by decide) (fun c_132 => ?_) (fun c_132 => ?_)
                      · refine go_iload (pc := 139) dX8_fits_139 rfl ?_
                        refine go_iconst (v := nI 1) (pc := 141) dX8_fits_141 (by decide) ?_
                        refine go_icmp_neN (tgt := 149) (pc := 142) dX8_fits_142 (by omega) (by omega) (by decide) (fun c_142 => ?_) (fun c_142 => ?_)
                        · omega
                        · refine go_iconst (v := nI 1) (pc := 145) dX8_fits_145 (by decide) ?_
                          refine go_goto (tgt := 150) (pc := 146) dX8_fits_146 (by decide) ?_
                          refine go_iaddN (pc := 150) dX8_fits_150  ?_
                          refine go_istore (pc := 151) dX8_fits_151 (by decide) rfl ?_
                          refine go_iconst (v := nI 0) (pc := 153) dX8_fits_153 (by decide) ?_
                          refine go_istore (pc := 154) dX8_fits_154 (by decide) rfl ?_
                          refine go_iload (pc := 156) dX8_fits_156 rfl ?_
                          refine go_istore (pc := 158) dX8_fits_158 (by decide) rfl ?_
                          have loop : ∀ v, v ≤ 10 → 1 ≤ v → ∀ s, py_fr [55] [] σ s → py_Go X RX8 cX8_fits 11 4 160 [some (.ref 47), some (.int (nI p)), some (.int (nI a)), some (.int (nI i)), some (.int (nI m)), some (.int (nI 1)), some (.int (nI 1)), some (.int (nI 9)), some (.int (nI ((13 + (4 * p)) + 1))), some (.int (nI (py_bs (fun v => decide (1 ≤ v) && py_fit (H (13 + 4 * p)) v (H (15 + 4 * p)) (H (4 + 2 * H (16 + 4 * p))) (H (5 + 2 * H (16 + 4 * p))) (H 2) (fun k => R.2.2 (40 * a + i + k)) m) v))), some (.int (nI v))] [] s (py_vs (some (.int (an_fits R H (nI p) (nI a) (nI i) (nI m) (nI 1)))) (fun s => py_IM s R (nq_fits R q H (nI p) (nI a) (nI i) (nI m) (nI 1)) B N ft H n As I0 I1 t tr ∧ py_fr py_SM [] σ s)) := by
                            refine py_loop _ (10) (fun v hv ih hv1 s hs => ?_)
                            have h5s : py_hm (s 53) 0 H := by rw [hs.at 53 (by decide) (by decide)]; exact h5
                            have hbl := py_bs_lt (fun v => decide (1 ≤ v) && py_fit (H (13 + 4 * p)) v (H (15 + 4 * p)) (H (4 + 2 * H (16 + 4 * p))) (H (5 + 2 * H (16 + 4 * p))) (H 2) (fun k => R.2.2 (40 * a + i + k)) m) v
                            have hb30 : 2 ^ v ≤ 2 ^ 30 := Nat.pow_le_pow_right (by decide) (by omega)
                            refine go_iload (pc := 160) dX8_fits_160 rfl ?_
                            refine go_iload (pc := 162) dX8_fits_162 rfl ?_
                            refine go_icmp_gtN (tgt := 234) (pc := 164) dX8_fits_164 (by omega) (by omega) (by decide) (fun c_164 => ?_) (fun c_164 => ?_)
                            · refine go_aload_n (pc := 234) dX8_fits_234 rfl ?_
                              refine go_iload (pc := 235) dX8_fits_235 rfl ?_
                              refine go_cVi (pc := 237) dX8_fits_237 ev_mwell lX8_72 YX8_well VX8_well rfl rfl rfl (by decide) rfl (Nat.le_of_ble_eq_true rfl) (fun sf ef => ?_)
                              subst ef
                              have hv9 : v = 10 := by omega
                              have hf : py_fr [55] [(47, 4)] σ (py_up s 47 4 (nI 0)) := (hs.wd (S := [55]) (T := [(47, 4)]) (by decide) (by decide)).ut (by decide) _
                              refine go_retI (pc := 240) dX8_fits_240 ?_ ⟨?_, hf.wd (by decide) (by decide)⟩
                              · rw [hv9]
                                unfold an_fits
                                rw [if_pos (by omega), haC, if_neg (by omega), if_pos (by omega), hpC, hiC, hmC]
                                unfold py_ft4
                                (repeat' split) <;> first | omega | rfl
                              · refine ⟨py_rk_fr hf (by decide) h1, ?_, py_tm_fr hf (by decide) h3, (by rw [hf 47 7 (by decide) (by decide)]; exact h4), (by rw [hf.at 53 (by decide) (by decide)]; exact h5), py_am_fr hf (by decide) h6, py_ik_fr hf (by decide) h7, py_ik_fr hf (by decide) h8, py_tn_fr hf (by decide) h9⟩
                                rw [py_up_s]
                                unfold nq_fits
                                rw [if_pos (by omega), haC, if_neg (by omega), if_pos (by omega)]
                            · refine go_aload_n (pc := 167) dX8_fits_167 rfl ?_
                              refine go_cVv (pc := 168) dX8_fits_168 (ev_tries h5s) lX8_186 YX8_tries VX8_tries rfl rfl rfl (by decide) rfl (Nat.le_of_ble_eq_true rfl) (fun s1 hs1 => ?_)
                              obtain ⟨hT1, hf1⟩ := hs1
                              refine go_iload (pc := 171) dX8_fits_171 rfl ?_
                              refine go_iconst (v := nI 3) (pc := 173) dX8_fits_173 (by decide) ?_
                              refine go_icmp_neN (tgt := 190) (pc := 174) dX8_fits_174 (by omega) (by omega) (by decide) (fun c_174 => ?_) (fun c_174 => ?_)
                              · refine go_aload_n (pc := 190) dX8_fits_190 rfl ?_
                                refine go_getR (pc := 191) dX8_fits_191 fX8_31 rfl rfl ?_
                                refine go_iload (pc := 194) dX8_fits_194 rfl ?_
                                refine go_iload (pc := 196) dX8_fits_196 rfl ?_
                                refine go_astN (pc := 198) dX8_fits_198 rfl (by show (13 + (4 * p)) + 1 < 33; omega) ?_
                                refine go_iload (pc := 199) dX8_fits_199 rfl ?_
                                refine go_aload_n (pc := 201) dX8_fits_201 rfl ?_
                                refine go_iload_n (pc := 202) dX8_fits_202 rfl ?_
                                refine go_bipush (v := nI 40) (pc := 203) dX8_fits_203 (by decide) ?_
                                refine go_iload_n (pc := 205) dX8_fits_205 rfl ?_
                                refine go_imulN (pc := 206) dX8_fits_206  ?_
                                refine go_iload_n (pc := 207) dX8_fits_207 rfl ?_
                                refine go_iaddN (pc := 208) dX8_fits_208  ?_
                                refine go_iload (pc := 209) dX8_fits_209 rfl ?_
                                have hT3 : py_hm ((py_up s1 55 ((13 + (4 * p)) + 1) ((nI v))) 55) 0 (py_one H (14 + 4 * p) v) := py_hm_up (i := 14 + 4 * p) (v := v) hT1 (by omega)
                                have hs2 : py_fr [55] [] s (py_up s1 55 ((13 + (4 * p)) + 1) ((nI v))) := hf1.up (by decide) _
                                have hsw := hs.tr hs2 (by decide) (by decide)
                                have htau : ∀ j, j < m → (py_up s1 55 ((13 + (4 * p)) + 1) ((nI v))) 50 (40 * a + i + j) = R.2.2 (40 * a + i + j) := fun j hj => by rw [hsw.at 50 (by decide) (by decide), show 40 * a + i + j = 40 * a + (i + j) by omega]; exact hMa.2.2 (i + j) (by omega)
                                refine go_cVi (pc := 211) dX8_fits_211 (ev_goesSo hT3 (py_one_w1 hm hp (by omega)) (p := p) (by rw [py_one_o (by omega)]; exact hp) (by omega) hm16 (by rw [py_one_o (by omega)]; omega)) lX8_206 YX8_goesSo VX8_goesSo rfl rfl rfl (by decide) rfl (Nat.le_of_ble_eq_true rfl) (fun s3 hs3 => ?_)
                                refine go_top (y := py_b ((fun v => decide (1 ≤ v) && py_fit (H (13 + 4 * p)) v (H (15 + 4 * p)) (H (4 + 2 * H (16 + 4 * p))) (H (5 + 2 * H (16 + 4 * p))) (H 2) (fun k => R.2.2 (40 * a + i + k)) m) v = true)) (py_b_c (by rw [py_fit_cong htau, py_one_o (j := 13 + 4 * p) (by omega), py_one_o (j := 15 + 4 * p) (by omega), py_one_o (j := 16 + 4 * p) (by omega), py_one_s, py_one_o (j := 4 + 2 * H (16 + 4 * p)) (by omega), py_one_o (j := 5 + 2 * H (16 + 4 * p)) (by omega), py_one_o (j := 2) (by omega)]; dsimp only; rw [decide_eq_true hv1, Bool.true_and])) ?_
                                have hs4 := hsw.tr hs3 (by decide) (by decide)
                                refine go_if_eqB (tgt := 224) (pc := 214) dX8_fits_214 (by decide) (fun c_214 => ?_) (fun c_214 => ?_)
                                · refine go_iconst (v := nI 0) (pc := 224) dX8_fits_224 (by decide) ?_
                                  refine go_ior (pc := 225) dX8_fits_225 ?_
                                  refine go_istore (pc := 226) dX8_fits_226 (by decide) rfl ?_
                                  refine go_iincN (c := 1) (pc := 228) dX8_fits_228 rfl (by decide) (by decide) rfl ?_
                                  refine go_goto (tgt := 160) (pc := 231) dX8_fits_231 (by decide) ?_
                                  have e8 := ih (by omega) (by omega) s3 hs4
                                  rw [← py_bs_f (f := (fun v => decide (1 ≤ v) && py_fit (H (13 + 4 * p)) v (H (15 + 4 * p)) (H (4 + 2 * H (16 + 4 * p))) (H (5 + 2 * H (16 + 4 * p))) (H 2) (fun k => R.2.2 (40 * a + i + k)) m)) (p := v) (by simpa using c_214)] at e8
                                  rw [py_or0]
                                  exact e8
                                · refine go_iconst (v := nI 1) (pc := 217) dX8_fits_217 (by decide) ?_
                                  refine go_iload (pc := 218) dX8_fits_218 rfl ?_
                                  refine go_ishl (pc := 220) dX8_fits_220 ?_
                                  refine go_goto (tgt := 225) (pc := 221) dX8_fits_221 (by decide) ?_
                                  refine go_ior (pc := 225) dX8_fits_225 ?_
                                  refine go_istore (pc := 226) dX8_fits_226 (by decide) rfl ?_
                                  refine go_iincN (c := 1) (pc := 228) dX8_fits_228 rfl (by decide) (by decide) rfl ?_
                                  refine go_goto (tgt := 160) (pc := 231) dX8_fits_231 (by decide) ?_
                                  have e8 := ih (by omega) (by omega) s3 hs4
                                  rw [py_or_add (py_bs_lt _ v) (by omega), py_bs_t (f := (fun v => decide (1 ≤ v) && py_fit (H (13 + 4 * p)) v (H (15 + 4 * p)) (H (4 + 2 * H (16 + 4 * p))) (H (5 + 2 * H (16 + 4 * p))) (H 2) (fun k => R.2.2 (40 * a + i + k)) m)) (p := v) c_214]
                                  exact e8
                              · omega
                          have e8 := loop 1 (by decide) (by decide) σ (py_fr.rf _ _ σ)
                          rw [show py_bs (fun v => decide (1 ≤ v) && py_fit (H (13 + 4 * p)) v (H (15 + 4 * p)) (H (4 + 2 * H (16 + 4 * p))) (H (5 + 2 * H (16 + 4 * p))) (H 2) (fun k => R.2.2 (40 * a + i + k)) m) 1 = 0 from rfl] at e8
                          exact e8
                      · omega
                  · omega
              · subst hk9
                refine go_iload (pc := 70) dX8_fits_70 rfl ?_
                refine go_iconst (v := nI 2) (pc := 72) dX8_fits_72 (by decide) ?_
                refine go_icmp_geN (tgt := 80) (pc := 73) dX8_fits_73 (by omega) (by omega) (by decide) (fun c_73 => ?_) (fun c_73 => ?_)
                · refine go_iconst (v := nI 0) (pc := 80) dX8_fits_80 (by decide) ?_
                  refine go_istore (pc := 81) dX8_fits_81 (by decide) rfl ?_
                  refine go_iload (pc := 83) dX8_fits_83 rfl ?_
                  refine go_if_neN (tgt := 92) (pc := 85) dX8_fits_85 (by omega) (by decide) (fun c_85 => ?_) (fun c_85 => ?_)
                  · refine go_iload (pc := 92) dX8_fits_92 rfl ?_
                    refine go_iconst (v := nI 1) (pc := 94) dX8_fits_94 (by decide) ?_
                    refine go_icmp_neN (tgt := 103) (pc := 95) dX8_fits_95 (by omega) (by omega) (by decide) (fun c_95 => ?_) (fun c_95 => ?_)
                    · refine go_iload (pc := 103) dX8_fits_103 rfl ?_
                      refine go_iconst (v := nI 2) (pc := 105) dX8_fits_105 (by decide) ?_
                      refine go_icmp_neN (tgt := 120) (pc := 106) dX8_fits_106 (by omega) (by omega) (by decide) (fun c_106 => ?_) (fun c_106 => ?_)
                      · omega
                      · refine go_aload_n (pc := 109) dX8_fits_109 rfl ?_
                        refine go_getR (pc := 110) dX8_fits_110 fX8_25 rfl rfl ?_
                        refine go_iconst (v := nI 3) (pc := 113) dX8_fits_113 (by decide) ?_
                        refine go_aldN (x := (nI (H 3))) (pc := 114) dX8_fits_114 rfl (by show 3 < 33; omega) (py_hm_at h5 (show 3 = 3 by omega) (by omega)) ?_
                        refine go_iconst (v := nI 1) (pc := 115) dX8_fits_115 (by decide) ?_
                        refine go_isubN (pc := 116) dX8_fits_116 (by omega) ?_
                        refine go_goto (tgt := 122) (pc := 117) dX8_fits_117 (by decide) ?_
                        refine go_istore (pc := 122) dX8_fits_122 (by decide) rfl ?_
                        refine go_bipush (v := nI 13) (pc := 124) dX8_fits_124 (by decide) ?_
                        refine go_iconst (v := nI 4) (pc := 126) dX8_fits_126 (by decide) ?_
                        refine go_iload_n (pc := 127) dX8_fits_127 rfl ?_
                        refine go_imulN (pc := 128) dX8_fits_128  ?_
                        refine go_iaddN (pc := 129) dX8_fits_129  ?_
                        refine go_iload (pc := 130) dX8_fits_130 rfl ?_
                        refine go_if_neN (tgt := 139) (pc := 132) dX8_fits_132 (by omega) (by decide) (fun c_132 => ?_) (fun c_132 => ?_)
                        · refine go_iload (pc := 139) dX8_fits_139 rfl ?_
                          refine go_iconst (v := nI 1) (pc := 141) dX8_fits_141 (by decide) ?_
                          refine go_icmp_neN (tgt := 149) (pc := 142) dX8_fits_142 (by omega) (by omega) (by decide) (fun c_142 => ?_) (fun c_142 => ?_)
                          · refine go_iconst (v := nI 3) (pc := 149) dX8_fits_149 (by decide) ?_
                            refine go_iaddN (pc := 150) dX8_fits_150  ?_
                            refine go_istore (pc := 151) dX8_fits_151 (by decide) rfl ?_
                            refine go_iconst (v := nI 0) (pc := 153) dX8_fits_153 (by decide) ?_
                            refine go_istore (pc := 154) dX8_fits_154 (by decide) rfl ?_
                            refine go_iload (pc := 156) dX8_fits_156 rfl ?_
                            refine go_istore (pc := 158) dX8_fits_158 (by decide) rfl ?_
                            have loop : ∀ v, v ≤ H 3 → 0 ≤ v → ∀ s, py_fr [55] [] σ s → py_Go X RX8 cX8_fits 11 4 160 [some (.ref 47), some (.int (nI p)), some (.int (nI a)), some (.int (nI i)), some (.int (nI m)), some (.int (nI 2)), some (.int (nI 0)), some (.int (nI ((H 3) - 1))), some (.int (nI ((13 + (4 * p)) + 3))), some (.int (nI (py_bs (fun v => py_fit (H (13 + 4 * p)) (H (14 + 4 * p)) (H (15 + 4 * p)) (H (4 + 2 * v)) (H (5 + 2 * v)) (H 2) (fun k => R.2.2 (40 * a + i + k)) m) v))), some (.int (nI v))] [] s (py_vs (some (.int (an_fits R H (nI p) (nI a) (nI i) (nI m) (nI 2)))) (fun s => py_IM s R (nq_fits R q H (nI p) (nI a) (nI i) (nI m) (nI 2)) B N ft H n As I0 I1 t tr ∧ py_fr py_SM [] σ s)) := by
                              refine py_loop _ (H 3) (fun v hv ih hv1 s hs => ?_)
                              have h5s : py_hm (s 53) 0 H := by rw [hs.at 53 (by decide) (by decide)]; exact h5
                              have hbl := py_bs_lt (fun v => py_fit (H (13 + 4 * p)) (H (14 + 4 * p)) (H (15 + 4 * p)) (H (4 + 2 * v)) (H (5 + 2 * v)) (H 2) (fun k => R.2.2 (40 * a + i + k)) m) v
                              have hb30 : 2 ^ v ≤ 2 ^ 30 := Nat.pow_le_pow_right (by decide) (by omega)
                              refine go_iload (pc := 160) dX8_fits_160 rfl ?_
                              refine go_iload (pc := 162) dX8_fits_162 rfl ?_
                              refine go_icmp_gtN (tgt := 234) (pc := 164) dX8_fits_164 (by omega) (by omega) (by decide) (fun c_164 => ?_) (fun c_164 => ?_)
                              · refine go_aload_n (pc := 234) dX8_fits_234 rfl ?_
                                refine go_iload (pc := 235) dX8_fits_235 rfl ?_
                                refine go_cVi (pc := 237) dX8_fits_237 ev_mwell lX8_72 YX8_well VX8_well rfl rfl rfl (by decide) rfl (Nat.le_of_ble_eq_true rfl) (fun sf ef => ?_)
                                subst ef
                                have hv9 : v = H 3 := by omega
                                have hf : py_fr [55] [(47, 4)] σ (py_up s 47 4 (nI 0)) := (hs.wd (S := [55]) (T := [(47, 4)]) (by decide) (by decide)).ut (by decide) _
                                refine go_retI (pc := 240) dX8_fits_240 ?_ ⟨?_, hf.wd (by decide) (by decide)⟩
                                · rw [hv9]
                                  unfold an_fits
                                  rw [if_pos (by omega), haC, if_neg (by omega), if_pos (by omega), hpC, hiC, hmC]
                                  unfold py_ft4
                                  (repeat' split) <;> first | omega | rfl
                                · refine ⟨py_rk_fr hf (by decide) h1, ?_, py_tm_fr hf (by decide) h3, (by rw [hf 47 7 (by decide) (by decide)]; exact h4), (by rw [hf.at 53 (by decide) (by decide)]; exact h5), py_am_fr hf (by decide) h6, py_ik_fr hf (by decide) h7, py_ik_fr hf (by decide) h8, py_tn_fr hf (by decide) h9⟩
                                  rw [py_up_s]
                                  unfold nq_fits
                                  rw [if_pos (by omega), haC, if_neg (by omega), if_pos (by omega)]
                              · refine go_aload_n (pc := 167) dX8_fits_167 rfl ?_
                                refine go_cVv (pc := 168) dX8_fits_168 (ev_tries h5s) lX8_186 YX8_tries VX8_tries rfl rfl rfl (by decide) rfl (Nat.le_of_ble_eq_true rfl) (fun s1 hs1 => ?_)
                                obtain ⟨hT1, hf1⟩ := hs1
                                refine go_iload (pc := 171) dX8_fits_171 rfl ?_
                                refine go_iconst (v := nI 3) (pc := 173) dX8_fits_173 (by decide) ?_
                                refine go_icmp_neN (tgt := 190) (pc := 174) dX8_fits_174 (by omega) (by omega) (by decide) (fun c_174 => ?_) (fun c_174 => ?_)
                                · refine go_aload_n (pc := 190) dX8_fits_190 rfl ?_
                                  refine go_getR (pc := 191) dX8_fits_191 fX8_31 rfl rfl ?_
                                  refine go_iload (pc := 194) dX8_fits_194 rfl ?_
                                  refine go_iload (pc := 196) dX8_fits_196 rfl ?_
                                  refine go_astN (pc := 198) dX8_fits_198 rfl (by show (13 + (4 * p)) + 3 < 33; omega) ?_
                                  refine go_iload (pc := 199) dX8_fits_199 rfl ?_
                                  refine go_aload_n (pc := 201) dX8_fits_201 rfl ?_
                                  refine go_iload_n (pc := 202) dX8_fits_202 rfl ?_
                                  refine go_bipush (v := nI 40) (pc := 203) dX8_fits_203 (by decide) ?_
                                  refine go_iload_n (pc := 205) dX8_fits_205 rfl ?_
                                  refine go_imulN (pc := 206) dX8_fits_206  ?_
                                  refine go_iload_n (pc := 207) dX8_fits_207 rfl ?_
                                  refine go_iaddN (pc := 208) dX8_fits_208  ?_
                                  refine go_iload (pc := 209) dX8_fits_209 rfl ?_
                                  have hT3 : py_hm ((py_up s1 55 ((13 + (4 * p)) + 3) ((nI v))) 55) 0 (py_one H (16 + 4 * p) v) := py_hm_up (i := 16 + 4 * p) (v := v) hT1 (by omega)
                                  have hs2 : py_fr [55] [] s (py_up s1 55 ((13 + (4 * p)) + 3) ((nI v))) := hf1.up (by decide) _
                                  have hsw := hs.tr hs2 (by decide) (by decide)
                                  have htau : ∀ j, j < m → (py_up s1 55 ((13 + (4 * p)) + 3) ((nI v))) 50 (40 * a + i + j) = R.2.2 (40 * a + i + j) := fun j hj => by rw [hsw.at 50 (by decide) (by decide), show 40 * a + i + j = 40 * a + (i + j) by omega]; exact hMa.2.2 (i + j) (by omega)
                                  refine go_cVi (pc := 211) dX8_fits_211 (ev_goesSo hT3 (py_one_w3 hm hp (by omega)) (p := p) (by rw [py_one_o (by omega)]; exact hp) (by omega) hm16 (by rw [py_one_o (by omega)]; omega)) lX8_206 YX8_goesSo VX8_goesSo rfl rfl rfl (by decide) rfl (Nat.le_of_ble_eq_true rfl) (fun s3 hs3 => ?_)
                                  refine go_top (y := py_b ((fun v => py_fit (H (13 + 4 * p)) (H (14 + 4 * p)) (H (15 + 4 * p)) (H (4 + 2 * v)) (H (5 + 2 * v)) (H 2) (fun k => R.2.2 (40 * a + i + k)) m) v = true)) (py_b_c (by rw [py_fit_cong htau, py_one_o (j := 13 + 4 * p) (by omega), py_one_o (j := 14 + 4 * p) (by omega), py_one_o (j := 15 + 4 * p) (by omega), py_one_s, py_one_o (j := 4 + 2 * v) (by omega), py_one_o (j := 5 + 2 * v) (by omega), py_one_o (j := 2) (by omega)])) ?_
                                  have hs4 := hsw.tr hs3 (by decide) (by decide)
                                  refine go_if_eqB (tgt := 224) (pc := 214) dX8_fits_214 (by decide) (fun c_214 => ?_) (fun c_214 => ?_)
                                  · refine go_iconst (v := nI 0) (pc := 224) dX8_fits_224 (by decide) ?_
                                    refine go_ior (pc := 225) dX8_fits_225 ?_
                                    refine go_istore (pc := 226) dX8_fits_226 (by decide) rfl ?_
                                    refine go_iincN (c := 1) (pc := 228) dX8_fits_228 rfl (by decide) (by decide) rfl ?_
                                    refine go_goto (tgt := 160) (pc := 231) dX8_fits_231 (by decide) ?_
                                    have e8 := ih (by omega) (by omega) s3 hs4
                                    rw [← py_bs_f (f := (fun v => py_fit (H (13 + 4 * p)) (H (14 + 4 * p)) (H (15 + 4 * p)) (H (4 + 2 * v)) (H (5 + 2 * v)) (H 2) (fun k => R.2.2 (40 * a + i + k)) m)) (p := v) (by simpa using c_214)] at e8
                                    rw [py_or0]
                                    exact e8
                                  · refine go_iconst (v := nI 1) (pc := 217) dX8_fits_217 (by decide) ?_
                                    refine go_iload (pc := 218) dX8_fits_218 rfl ?_
                                    refine go_ishl (pc := 220) dX8_fits_220 ?_
                                    refine go_goto (tgt := 225) (pc := 221) dX8_fits_221 (by decide) ?_
                                    refine go_ior (pc := 225) dX8_fits_225 ?_
                                    refine go_istore (pc := 226) dX8_fits_226 (by decide) rfl ?_
                                    refine go_iincN (c := 1) (pc := 228) dX8_fits_228 rfl (by decide) (by decide) rfl ?_
                                    refine go_goto (tgt := 160) (pc := 231) dX8_fits_231 (by decide) ?_
                                    have e8 := ih (by omega) (by omega) s3 hs4
                                    rw [py_or_add (py_bs_lt _ v) (by omega), py_bs_t (f := (fun v => py_fit (H (13 + 4 * p)) (H (14 + 4 * p)) (H (15 + 4 * p)) (H (4 + 2 * v)) (H (5 + 2 * v)) (H 2) (fun k => R.2.2 (40 * a + i + k)) m)) (p := v) c_214]
                                    exact e8
                                · omega
                            exact loop 0 (Nat.zero_le _) (Nat.le_refl _) σ (py_fr.rf _ _ σ)
                          · omega
                        · omega
                    · omega
                  · omega
                · omega
              · subst hk9
                refine go_iload (pc := 70) dX8_fits_70 rfl ?_
                refine go_iconst (v := nI 2) (pc := 72) dX8_fits_72 (by decide) ?_
                refine go_icmp_geN (tgt := 80) (pc := 73) dX8_fits_73 (by omega) (by omega) (by decide) (fun c_73 => ?_) (fun c_73 => ?_)
                · refine go_iconst (v := nI 0) (pc := 80) dX8_fits_80 (by decide) ?_
                  refine go_istore (pc := 81) dX8_fits_81 (by decide) rfl ?_
                  refine go_iload (pc := 83) dX8_fits_83 rfl ?_
                  refine go_if_neN (tgt := 92) (pc := 85) dX8_fits_85 (by omega) (by decide) (fun c_85 => ?_) (fun c_85 => ?_)
                  · refine go_iload (pc := 92) dX8_fits_92 rfl ?_
                    refine go_iconst (v := nI 1) (pc := 94) dX8_fits_94 (by decide) ?_
                    refine go_icmp_neN (tgt := 103) (pc := 95) dX8_fits_95 (by omega) (by omega) (by decide) (fun c_95 => ?_) (fun c_95 => ?_)
                    · refine go_iload (pc := 103) dX8_fits_103 rfl ?_
                      refine go_iconst (v := nI 2) (pc := 105) dX8_fits_105 (by decide) ?_
                      refine go_icmp_neN (tgt := 120) (pc := 106) dX8_fits_106 (by omega) (by omega) (by decide) (fun c_106 => ?_) (fun c_106 => ?_)
                      · refine go_bipush (v := nI 29) (pc := 120) dX8_fits_120 (by decide) ?_
                        refine go_istore (pc := 122) dX8_fits_122 (by decide) rfl ?_
                        refine go_bipush (v := nI 13) (pc := 124) dX8_fits_124 (by decide) ?_
                        refine go_iconst (v := nI 4) (pc := 126) dX8_fits_126 (by decide) ?_
                        refine go_iload_n (pc := 127) dX8_fits_127 rfl ?_
                        refine go_imulN (pc := 128) dX8_fits_128  ?_
                        refine go_iaddN (pc := 129) dX8_fits_129  ?_
                        refine go_iload (pc := 130) dX8_fits_130 rfl ?_
                        refine go_if_neN (tgt := 139) (pc := 132) dX8_fits_132 (by omega) (by decide) (fun c_132 => ?_) (fun c_132 => ?_)
                        · refine go_iload (pc := 139) dX8_fits_139 rfl ?_
                          refine go_iconst (v := nI 1) (pc := 141) dX8_fits_141 (by decide) ?_
                          refine go_icmp_neN (tgt := 149) (pc := 142) dX8_fits_142 (by omega) (by omega) (by decide) (fun c_142 => ?_) (fun c_142 => ?_)
                          · refine go_iconst (v := nI 3) (pc := 149) dX8_fits_149 (by decide) ?_
                            refine go_iaddN (pc := 150) dX8_fits_150  ?_
                            refine go_istore (pc := 151) dX8_fits_151 (by decide) rfl ?_
                            refine go_iconst (v := nI 0) (pc := 153) dX8_fits_153 (by decide) ?_
                            refine go_istore (pc := 154) dX8_fits_154 (by decide) rfl ?_
                            refine go_iload (pc := 156) dX8_fits_156 rfl ?_
                            refine go_istore (pc := 158) dX8_fits_158 (by decide) rfl ?_
                            have loop : ∀ v, v ≤ 30 → 0 ≤ v → ∀ s, py_fr [55] [] σ s → py_Go X RX8 cX8_fits 11 4 160 [some (.ref 47), some (.int (nI p)), some (.int (nI a)), some (.int (nI i)), some (.int (nI m)), some (.int (nI 3)), some (.int (nI 0)), some (.int (nI 29)), some (.int (nI ((13 + (4 * p)) + 3))), some (.int (nI (py_bs (fun v => py_fit (H (13 + 4 * p)) (H (14 + 4 * p)) (H (15 + 4 * p) - v) (H (4 + 2 * H (16 + 4 * p))) (H (5 + 2 * H (16 + 4 * p))) (H 2) (fun k => R.2.2 (40 * a + i + k)) m) v))), some (.int (nI v))] [] s (py_vs (some (.int (an_fits R H (nI p) (nI a) (nI i) (nI m) (nI 3)))) (fun s => py_IM s R (nq_fits R q H (nI p) (nI a) (nI i) (nI m) (nI 3)) B N ft H n As I0 I1 t tr ∧ py_fr py_SM [] σ s)) := by
                              refine py_loop _ (30) (fun v hv ih hv1 s hs => ?_)
                              have h5s : py_hm (s 53) 0 H := by rw [hs.at 53 (by decide) (by decide)]; exact h5
                              have hbl := py_bs_lt (fun v => py_fit (H (13 + 4 * p)) (H (14 + 4 * p)) (H (15 + 4 * p) - v) (H (4 + 2 * H (16 + 4 * p))) (H (5 + 2 * H (16 + 4 * p))) (H 2) (fun k => R.2.2 (40 * a + i + k)) m) v
                              have hb30 : 2 ^ v ≤ 2 ^ 30 := Nat.pow_le_pow_right (by decide) (by omega)
                              refine go_iload (pc := 160) dX8_fits_160 rfl ?_
                              refine go_iload (pc := 162) dX8_fits_162 rfl ?_
                              refine go_icmp_gtN (tgt := 234) (pc := 164) dX8_fits_164 (by omega) (by omega) (by decide) (fun c_164 => ?_) (fun c_164 => ?_)
                              · refine go_aload_n (pc := 234) dX8_fits_234 rfl ?_
                                refine go_iload (pc := 235) dX8_fits_235 rfl ?_
                                refine go_cVi (pc := 237) dX8_fits_237 ev_mwell lX8_72 YX8_well VX8_well rfl rfl rfl (by decide) rfl (Nat.le_of_ble_eq_true rfl) (fun sf ef => ?_)
                                subst ef
                                have hv9 : v = 30 := by omega
                                have hf : py_fr [55] [(47, 4)] σ (py_up s 47 4 (nI 0)) := (hs.wd (S := [55]) (T := [(47, 4)]) (by decide) (by decide)).ut (by decide) _
                                refine go_retI (pc := 240) dX8_fits_240 ?_ ⟨?_, hf.wd (by decide) (by decide)⟩
                                · rw [hv9]
                                  unfold an_fits
                                  rw [if_pos (by omega), haC, if_neg (by omega), if_pos (by omega), hpC, hiC, hmC]
                                  unfold py_ft4
                                  (repeat' split) <;> first | omega | rfl
                                · refine ⟨py_rk_fr hf (by decide) h1, ?_, py_tm_fr hf (by decide) h3, (by rw [hf 47 7 (by decide) (by decide)]; exact h4), (by rw [hf.at 53 (by decide) (by decide)]; exact h5), py_am_fr hf (by decide) h6, py_ik_fr hf (by decide) h7, py_ik_fr hf (by decide) h8, py_tn_fr hf (by decide) h9⟩
                                  rw [py_up_s]
                                  unfold nq_fits
                                  rw [if_pos (by omega), haC, if_neg (by omega), if_pos (by omega)]
                              · refine go_aload_n (pc := 167) dX8_fits_167 rfl ?_
                                refine go_cVv (pc := 168) dX8_fits_168 (ev_tries h5s) lX8_186 YX8_tries VX8_tries rfl rfl rfl (by decide) rfl (Nat.le_of_ble_eq_true rfl) (fun s1 hs1 => ?_)
                                obtain ⟨hT1, hf1⟩ := hs1
                                refine go_iload (pc := 171) dX8_fits_171 rfl ?_
                                refine go_iconst (v := nI 3) (pc := 173) dX8_fits_173 (by decide) ?_
                                refine go_icmp_neN (tgt := 190) (pc := 174) dX8_fits_174 (by omega) (by omega) (by decide) (fun c_174 => ?_) (fun c_174 => ?_)
                                · omega
                                · refine go_aload_n (pc := 177) dX8_fits_177 rfl ?_
                                  refine go_getR (pc := 178) dX8_fits_178 fX8_31 rfl rfl ?_
                                  refine go_iload_n (pc := 181) dX8_fits_181 rfl ?_
                                  refine go_iload (pc := 182) dX8_fits_182 rfl ?_
                                  refine go_cSv (pc := 184) dX8_fits_184 (ev_takesOff_55 hT1 (by omega) hq.2.2.2.2.1 (by omega)) lX8_158 YX8_takesOff SX8_takesOff rfl (by decide) rfl (Nat.le_of_ble_eq_true rfl) (fun s2 hs2 => ?_)
                                  obtain ⟨hT2, hf2⟩ := hs2
                                  have hT3 : py_hm (s2 55) 0 (py_one H (15 + 4 * p) (H (15 + 4 * p) - v)) := hT2
                                  have hs2 := hf1.tr hf2 (by decide) (by decide)
                                  refine go_goto (tgt := 199) (pc := 187) dX8_fits_187 (by decide) ?_
                                  refine go_iload (pc := 199) dX8_fits_199 rfl ?_
                                  refine go_aload_n (pc := 201) dX8_fits_201 rfl ?_
                                  refine go_iload_n (pc := 202) dX8_fits_202 rfl ?_
                                  refine go_bipush (v := nI 40) (pc := 203) dX8_fits_203 (by decide) ?_
                                  refine go_iload_n (pc := 205) dX8_fits_205 rfl ?_
                                  refine go_imulN (pc := 206) dX8_fits_206  ?_
                                  refine go_iload_n (pc := 207) dX8_fits_207 rfl ?_
                                  refine go_iaddN (pc := 208) dX8_fits_208  ?_
                                  refine go_iload (pc := 209) dX8_fits_209 rfl ?_
                                  have hsw := hs.tr hs2 (by decide) (by decide)
                                  have htau : ∀ j, j < m → s2 50 (40 * a + i + j) = R.2.2 (40 * a + i + j) := fun j hj => by rw [hsw.at 50 (by decide) (by decide), show 40 * a + i + j = 40 * a + (i + j) by omega]; exact hMa.2.2 (i + j) (by omega)
                                  refine go_cVi (pc := 211) dX8_fits_211 (ev_goesSo hT3 (py_one_w2 hm hp (by omega)) (p := p) (by rw [py_one_o (by omega)]; exact hp) (by omega) hm16 (by rw [py_one_o (by omega)]; omega)) lX8_206 YX8_goesSo VX8_goesSo rfl rfl rfl (by decide) rfl (Nat.le_of_ble_eq_true rfl) (fun s3 hs3 => ?_)
                                  refine go_top (y := py_b ((fun v => py_fit (H (13 + 4 * p)) (H (14 + 4 * p)) (H (15 + 4 * p) - v) (H (4 + 2 * H (16 + 4 * p))) (H (5 + 2 * H (16 + 4 * p))) (H 2) (fun k => R.2.2 (40 * a + i + k)) m) v = true)) (py_b_c (by rw [py_fit_cong htau, py_one_o (j := 13 + 4 * p) (by omega), py_one_o (j := 14 + 4 * p) (by omega), py_one_o (j := 16 + 4 * p) (by omega), py_one_s, py_one_o (j := 4 + 2 * H (16 + 4 * p)) (by omega), py_one_o (j := 5 + 2 * H (16 + 4 * p)) (by omega), py_one_o (j := 2) (by omega)])) ?_
                                  have hs4 := hsw.tr hs3 (by decide) (by decide)
                                  refine go_if_eqB (tgt := 224) (pc := 214) dX8_fits_214 (by decide) (fun c_214 => ?_) (fun c_214 => ?_)
                                  · refine go_iconst (v := nI 0) (pc := 224) dX8_fits_224 (by decide) ?_
                                    refine go_ior (pc := 225) dX8_fits_225 ?_
                                    refine go_istore (pc := 226) dX8_fits_226 (by decide) rfl ?_
                                    refine go_iincN (c := 1) (pc := 228) dX8_fits_228 rfl (by decide) (by decide) rfl ?_
                                    refine go_goto (tgt := 160) (pc := 231) dX8_fits_231 (by decide) ?_
                                    have e8 := ih (by omega) (by omega) s3 hs4
                                    rw [← py_bs_f (f := (fun v => py_fit (H (13 + 4 * p)) (H (14 + 4 * p)) (H (15 + 4 * p) - v) (H (4 + 2 * H (16 + 4 * p))) (H (5 + 2 * H (16 + 4 * p))) (H 2) (fun k => R.2.2 (40 * a + i + k)) m)) (p := v) (by simpa using c_214)] at e8
                                    rw [py_or0]
                                    exact e8
                                  · refine go_iconst (v := nI 1) (pc := 217) dX8_fits_217 (by decide) ?_
                                    refine go_iload (pc := 218) dX8_fits_218 rfl ?_
                                    refine go_ishl (pc := 220) dX8_fits_220 ?_
                                    refine go_goto (tgt := 225) (pc := 221) dX8_fits_221 (by decide) ?_
                                    refine go_ior (pc := 225) dX8_fits_225 ?_
                                    refine go_istore (pc := 226) dX8_fits_226 (by decide) rfl ?_
                                    refine go_iincN (c := 1) (pc := 228) dX8_fits_228 rfl (by decide) (by decide) rfl ?_
                                    refine go_goto (tgt := 160) (pc := 231) dX8_fits_231 (by decide) ?_
                                    have e8 := ih (by omega) (by omega) s3 hs4
                                    rw [py_or_add (py_bs_lt _ v) (by omega), py_bs_t (f := (fun v => py_fit (H (13 + 4 * p)) (H (14 + 4 * p)) (H (15 + 4 * p) - v) (H (4 + 2 * H (16 + 4 * p))) (H (5 + 2 * H (16 + 4 * p))) (H 2) (fun k => R.2.2 (40 * a + i + k)) m)) (p := v) c_214]
                                    exact e8
                            exact loop 0 (Nat.zero_le _) (Nat.le_refl _) σ (py_fr.rf _ _ σ)
                          · omega
                        · omega
                      · omega
                    · omega
                  · omega
                · omega
            · refine go_aload_n (pc := 64) dX8_fits_64 rfl ?_
              refine go_iconst (v := nI 2) (pc := 65) dX8_fits_65 (by decide) ?_
              refine go_cVi (pc := 66) dX8_fits_66 ev_mfound lX8_68 YX8_found VX8_found rfl rfl rfl (by decide) rfl (Nat.le_of_ble_eq_true rfl) (fun sf ef => ?_)
              subst ef
              refine go_retI (pc := 69) dX8_fits_69 (by unfold an_fits; (repeat' split) <;> first | rfl | omega) ⟨?_, ((py_fr.rf [] [(47, 4)] σ).ut (by decide) _).wd (by decide) (by decide)⟩
              refine ⟨py_rk_fr ((py_fr.rf [] [(47, 4)] σ).ut (by decide) _) (by decide) h1, ?_, py_tm_fr ((py_fr.rf [] [(47, 4)] σ).ut (by decide) _) (by decide) h3, (by rw [((py_fr.rf [] [(47, 4)] σ).ut (by decide) _) 47 7 (by decide) (by decide)]; exact h4), (by rw [((py_fr.rf [] [(47, 4)] σ).ut (by decide) _).at 53 (by decide) (by decide)]; exact h5), py_am_fr ((py_fr.rf [] [(47, 4)] σ).ut (by decide) _) (by decide) h6, py_ik_fr ((py_fr.rf [] [(47, 4)] σ).ut (by decide) _) (by decide) h7, py_ik_fr ((py_fr.rf [] [(47, 4)] σ).ut (by decide) _) (by decide) h8, py_tn_fr ((py_fr.rf [] [(47, 4)] σ).ut (by decide) _) (by decide) h9⟩
              rw [py_up_s]
              unfold nq_fits; (repeat' split) <;> first | rfl | omega
          · refine go_aload_n (pc := 47) dX8_fits_47 rfl ?_
            refine go_iconst (v := nI 1) (pc := 48) dX8_fits_48 (by decide) ?_
            refine go_cVi (pc := 49) dX8_fits_49 ev_mfound lX8_68 YX8_found VX8_found rfl rfl rfl (by decide) rfl (Nat.le_of_ble_eq_true rfl) (fun sf ef => ?_)
            subst ef
            refine go_retI (pc := 52) dX8_fits_52 (by unfold an_fits; (repeat' split) <;> first | rfl | omega) ⟨?_, ((py_fr.rf [] [(47, 4)] σ).ut (by decide) _).wd (by decide) (by decide)⟩
            refine ⟨py_rk_fr ((py_fr.rf [] [(47, 4)] σ).ut (by decide) _) (by decide) h1, ?_, py_tm_fr ((py_fr.rf [] [(47, 4)] σ).ut (by decide) _) (by decide) h3, (by rw [((py_fr.rf [] [(47, 4)] σ).ut (by decide) _) 47 7 (by decide) (by decide)]; exact h4), (by rw [((py_fr.rf [] [(47, 4)] σ).ut (by decide) _).at 53 (by decide) (by decide)]; exact h5), py_am_fr ((py_fr.rf [] [(47, 4)] σ).ut (by decide) _) (by decide) h6, py_ik_fr ((py_fr.rf [] [(47, 4)] σ).ut (by decide) _) (by decide) h7, py_ik_fr ((py_fr.rf [] [(47, 4)] σ).ut (by decide) _) (by decide) h8, py_tn_fr ((py_fr.rf [] [(47, 4)] σ).ut (by decide) _) (by decide) h9⟩
            rw [py_up_s]
            unfold nq_fits; (repeat' split) <;> first | rfl | omega
        · refine go_ldc (pc := 36) dX8_fits_36 kX8_67 ?_
          have e2 : nq_fits R q H ((nI p)) ((nI a)) ((xi)) ((nI m)) ((y)) = q := by unfold nq_fits; (repeat' split) <;> first | rfl | omega
          exact go_retI (pc := 38) dX8_fits_38 (by unfold an_fits; (repeat' split) <;> first | rfl | omega) ⟨by rw [e2]; exact hI, py_fr.rf _ _ σ⟩
