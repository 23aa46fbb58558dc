/-! contracts: the reference's rows -/
section PYM
variable {σ s : py_H} {S : List Nat} {T : List (Nat × Nat)}
theorem py_rk_fr {R : py_Rt} (hf : py_fr S T σ s) (h : 48 ∉ S ∧ 49 ∉ S ∧ 50 ∉ S ∧ ∀ q ∈ T, q.1 ≠ 48 ∧ q.1 ≠ 49 ∧ q.1 ≠ 50) (hr : py_rk σ R.1 R.2.1 R.2.2) : py_rk s R.1 R.2.1 R.2.2 := by
  have e2 := hf.at 48 h.1 (fun q hq => (h.2.2.2 q hq).1)
  have e3 := hf.at 49 h.2.1 (fun q hq => (h.2.2.2 q hq).2.1)
  have e4 := hf.at 50 h.2.2.1 (fun q hq => (h.2.2.2 q hq).2.2)
  unfold py_rk
  rw [e2, e3, e4]
  exact hr
theorem py_tm_fr {B : Nat → Nat} {N : Nat} (hf : py_fr S T σ s) (h : (47 ∉ S ∧ (47, 6) ∉ T) ∧ 52 ∉ S ∧ ∀ q ∈ T, q.1 ≠ 52) (hr : py_tm σ B N) : py_tm s B N := by
  have e2 := hf.at 52 h.2.1 h.2.2
  unfold py_tm
  rw [e2, hf 47 6 h.1.1 h.1.2]
  exact hr
theorem py_am_fr {n : Nat} {As : Nat → Nat → Nat} (hf : py_fr S T σ s) (h : (47 ∉ S ∧ (47, 17) ∉ T) ∧ 56 ∉ S ∧ ∀ q ∈ T, q.1 ≠ 56) (hr : σ 47 17 = nI n ∧ ∀ i, i < n → py_hm (σ 56) (33 * i) (As i)) : s 47 17 = nI n ∧ ∀ i, i < n → py_hm (s 56) (33 * i) (As i) := by
  have e2 := hf.at 56 h.2.1 h.2.2
  rw [e2, hf 47 17 h.1.1 h.1.2]
  exact hr
theorem py_ik_fr {k : Nat} {I : Option (Nat → Nat)} (hf : py_fr S T σ s) (h : 57 ∉ S ∧ 58 ∉ S ∧ ∀ q ∈ T, q.1 ≠ 57 ∧ q.1 ≠ 58) (hr : py_ik σ k I) : py_ik s k I := by
  have e2 := hf.at 57 h.1 (fun q hq => (h.2.2 q hq).1)
  have e3 := hf.at 58 h.2.1 (fun q hq => (h.2.2 q hq).2)
  unfold py_ik
  rw [e2, e3]
  exact hr
theorem py_tn_fr {t : Nat} {tr : Nat → Int32} (hf : py_fr S T σ s) (h : (47 ∉ S ∧ (47, 23) ∉ T) ∧ 61 ∉ S ∧ ∀ q ∈ T, q.1 ≠ 61) (hr : σ 47 23 = nI t ∧ ∀ i, i < t → σ 61 i = tr i) : s 47 23 = nI t ∧ ∀ i, i < t → s 61 i = tr i := by
  have e2 := hf.at 61 h.2.1 h.2.2
  rw [e2, hf 47 23 h.1.1 h.1.2]
  exact hr
end PYM
theorem py_rk_row {σ s : py_H} {R : py_Rt} {r l n : Nat} (hr : r < 8) (hl : l < 3) (hn : n ≤ 40) (h : py_rk σ R.1 R.2.1 R.2.2) (e3 : s 48 = upd (σ 48) r (nI l)) (e4 : s 49 = upd (σ 49) r (nI n)) (e2 : s 50 = py_zs (σ 50) (40 * r) 40) : py_rk s (va_up R.1 r l) (va_up R.2.1 r n) (py_zs R.2.2 (40 * r) 40) := by
  intro k hk
  have z := h k hk
  rw [e2, e3, e4]
  by_cases hkr : k = r
  · subst hkr
    have u1 : va_up R.1 k l k = l := by unfold va_up; rw [if_pos rfl]
    have u2 : va_up R.2.1 k n k = n := by unfold va_up; rw [if_pos rfl]
    rw [u1, u2, pk_us, pk_us, if_neg (by omega)]
    refine ⟨by omega, rfl, fun _ => ⟨hn, rfl, fun i hi => ?_⟩⟩
    unfold py_zs
    rw [if_pos (by omega), if_pos (by omega)]
  · have u1 : va_up R.1 r l k = R.1 k := by unfold va_up; rw [if_neg hkr]
    have u2 : va_up R.2.1 r n k = R.2.1 k := by unfold va_up; rw [if_neg hkr]
    rw [u1, u2, pk_un hkr, pk_un hkr]
    refine ⟨z.1, z.2.1, fun hl3 => ?_⟩
    have y := z.2.2 hl3
    refine ⟨y.1, y.2.1, fun i hi => ?_⟩
    unfold py_zs
    rw [if_neg (by omega), if_neg (by omega)]
    exact y.2.2 i hi
theorem py_rk_set {σ s : py_H} {R : py_Rt} {r i : Nat} {v : Int32} (hi : i < 40) (h : py_rk σ R.1 R.2.1 R.2.2) (e3 : s 48 = σ 48) (e4 : s 49 = σ 49) (e2 : s 50 = upd (σ 50) (40 * r + i) v) : py_rk s R.1 R.2.1 (upd R.2.2 (40 * r + i) v) := by
  intro k hk
  have z := h k hk
  rw [e2, e3, e4]
  refine ⟨z.1, z.2.1, fun hl3 => ?_⟩
  have y := z.2.2 hl3
  refine ⟨y.1, y.2.1, fun j hj => ?_⟩
  by_cases hq : 40 * k + j = 40 * r + i
  · rw [hq, pk_us, pk_us]
  · rw [pk_un hq, pk_un hq]
    exact y.2.2 j hj
theorem py_rk_copy {σ s : py_H} {R : py_Rt} {a i b j n : Nat} (ha : a < 8) (h : py_rk σ R.1 R.2.1 R.2.2) (ha3 : R.1 a < 3) (hi : i + n ≤ R.2.1 a) (e3 : s 48 = σ 48) (e4 : s 49 = σ 49) (e2 : s 50 = va_cpy (σ 50) (σ 50) (40 * a + i) (40 * b + j) n) : py_rk s R.1 R.2.1 (va_cpy R.2.2 R.2.2 (40 * a + i) (40 * b + j) n) := by
  intro k hk
  have z := h k hk
  have za := (h a ha).2.2 ha3
  rw [e2, e3, e4]
  refine ⟨z.1, z.2.1, fun hl3 => ?_⟩
  have y := z.2.2 hl3
  refine ⟨y.1, y.2.1, fun q hq => ?_⟩
  by_cases hin : 40 * b + j ≤ 40 * k + q ∧ 40 * k + q < 40 * b + j + n
  · rw [pk_cpy_in hin.1 hin.2, pk_cpy_in hin.1 hin.2]
    have e := za.2.2 (i + (40 * k + q - (40 * b + j))) (by omega)
    rw [show 40 * a + i + (40 * k + q - (40 * b + j)) = 40 * a + (i + (40 * k + q - (40 * b + j))) by omega]
    exact e
  · rw [pk_cpy_out (by omega), pk_cpy_out (by omega)]
    exact y.2.2 q hq
theorem py_rk_drop {σ s : py_H} {R : py_Rt} {r : Nat} (h : py_rk σ R.1 R.2.1 R.2.2) (e3 : s 48 = upd (σ 48) r (-1000000)) (e4 : s 49 = σ 49) (e2 : s 50 = σ 50) : py_rk s (va_up R.1 r 3) R.2.1 R.2.2 := by
  intro k hk
  have z := h k hk
  rw [e2, e3, e4]
  by_cases hkr : k = r
  · subst hkr
    have u1 : va_up R.1 k 3 k = 3 := by unfold va_up; rw [if_pos rfl]
    rw [u1, pk_us, if_pos rfl]
    exact ⟨Nat.le_refl _, rfl, fun q => absurd q (by decide)⟩
  · have u1 : va_up R.1 r 3 k = R.1 k := by unfold va_up; rw [if_neg hkr]
    rw [u1, pk_un hkr]
    exact z
theorem py_row_i2 {s : py_H} {k : Nat} {f : Nat → Int32} (h : f = s k) : py_row s k f = s := by rw [h, py_row_id]
theorem py_cpy_cpy (f g : Nat → Int32) (a b n : Nat) : va_cpy (va_cpy f g a 0 n) f 0 b n = va_cpy f f a b n := by
  funext j
  by_cases h : b ≤ j ∧ j < b + n
  · rw [pk_cpy_in h.1 h.2, pk_cpy_in (by omega) (by omega), pk_cpy_in h.1 h.2, show 0 + (j - b) - 0 = j - b by omega]
  · rw [pk_cpy_out (by omega), pk_cpy_out (by omega)]
set_option maxHeartbeats 4000000 in
set_option maxRecDepth 100000 in
theorem ev_isPart {X : py_X} {σ : py_H} {r m : Nat} {i n : Int32} (hr : r < 8) (hm : σ 49 r = nI m) (h40 : m ≤ 40) : py_Ev X 0 yX8_isPart cX8_isPart 4 (some .boolean) [.ref 47, .int (nI r), .int (i), .int (n)] σ (py_ret (.int (py_b (py_hp i n m))) σ) := by
  refine py_ofZ (own := RX8) YX8_isPart.2.2.2.2 rfl rfl (Nat.le_of_ble_eq_true rfl) py_b_ok ?_
  show py_Go X RX8 cX8_isPart 4 0 0 [some (.ref 47), some (.int (nI r)), some (.int (i)), some (.int (n))] [] σ (py_ret (.int (py_b (py_hp i n m))) σ)
  refine go_iload_n (pc := 0) dX8_isPart_0 rfl ?_
  refine go_if_ltJ (tgt := 34) (pc := 1) dX8_isPart_1 (by decide) (fun c_1 => ?_) (fun c_1 => ?_)
  · refine go_iconst (v := nI 0) (pc := 34) dX8_isPart_34 (by decide) ?_
    exact go_retI (pc := 35) dX8_isPart_35 (py_b_f (by have e9 := fb_subI (x := nI m) (y := i); rw [nI_toInt (show m < 2 ^ 31 by omega)] at e9; omega)).symm rfl
  · refine go_iload_n (pc := 4) dX8_isPart_4 rfl ?_
    refine go_if_ltJ (tgt := 34) (pc := 5) dX8_isPart_5 (by decide) (fun c_5 => ?_) (fun c_5 => ?_)
    · refine go_iconst (v := nI 0) (pc := 34) dX8_isPart_34 (by decide) ?_
      exact go_retI (pc := 35) dX8_isPart_35 (py_b_f (by have e9 := fb_subI (x := nI m) (y := i); rw [nI_toInt (show m < 2 ^ 31 by omega)] at e9; omega)).symm rfl
    · refine go_iload_n (pc := 8) dX8_isPart_8 rfl ?_
      refine go_aload_n (pc := 9) dX8_isPart_9 rfl ?_
      refine go_getR (pc := 10) dX8_isPart_10 fX8_13 rfl rfl ?_
      refine go_iload_n (pc := 13) dX8_isPart_13 rfl ?_
      refine go_aldN (x := (nI m)) (pc := 14) dX8_isPart_14 rfl (by show r < 8; omega) hm ?_
      refine go_icmp_gtJN (tgt := 34) (pc := 15) dX8_isPart_15 (by omega) (by decide) (fun c_15 => ?_) (fun c_15 => ?_)
      · refine go_iconst (v := nI 0) (pc := 34) dX8_isPart_34 (by decide) ?_
        exact go_retI (pc := 35) dX8_isPart_35 (py_b_f (by have e9 := fb_subI (x := nI m) (y := i); rw [nI_toInt (show m < 2 ^ 31 by omega)] at e9; omega)).symm rfl
      · refine go_iload_n (pc := 18) dX8_isPart_18 rfl ?_
        refine go_aload_n (pc := 19) dX8_isPart_19 rfl ?_
        refine go_getR (pc := 20) dX8_isPart_20 fX8_13 rfl rfl ?_
        refine go_iload_n (pc := 23) dX8_isPart_23 rfl ?_
        refine go_aldN (x := (nI m)) (pc := 24) dX8_isPart_24 rfl (by show r < 8; omega) hm ?_
        refine go_iload_n (pc := 25) dX8_isPart_25 rfl ?_
        refine go_isub (pc := 26) dX8_isPart_26  ?_
        refine go_icmp_gtJI (tgt := 34) (pc := 27) dX8_isPart_27  (by decide) (fun c_27 => ?_) (fun c_27 => ?_)
        · refine go_iconst (v := nI 0) (pc := 34) dX8_isPart_34 (by decide) ?_
          exact go_retI (pc := 35) dX8_isPart_35 (py_b_f (by have e9 := fb_subI (x := nI m) (y := i); rw [nI_toInt (show m < 2 ^ 31 by omega)] at e9; omega)).symm rfl
        · refine go_iconst (v := nI 1) (pc := 30) dX8_isPart_30 (by decide) ?_
          refine go_goto (tgt := 35) (pc := 31) dX8_isPart_31 (by decide) ?_
          exact go_retI (pc := 35) dX8_isPart_35 (py_b_t (by have e9 := fb_subI (x := nI m) (y := i); rw [nI_toInt (show m < 2 ^ 31 by omega)] at e9; omega)).symm rfl
set_option maxHeartbeats 4000000 in
set_option maxRecDepth 100000 in
theorem mo_row {X : py_X} {σ : py_H} {R : py_Rt} {q : Int32} {B : Nat → Nat} {N : Nat} {ft : Int32} {H : Nat → Nat} {n : Nat} {As : Nat → Nat → Nat} {I0 I1 : Option (Nat → Nat)} {t : Nat} {tr : Nat → Int32} (hI : py_IM σ R q B N ft H n As I0 I1 t tr) (hW : py_IW H n As I0 I1 t) {x y z : Int32} : py_Ev X 2 yX8_row cX8_row 5 (some .int) [.ref 47, .int (x), .int (y), .int (z)] σ (py_vs (some (.int (an_row x y z))) (fun s => py_IM s (nr_row R x y z) (nq_row q x y z) B N ft H n As I0 I1 t tr ∧ py_fr py_SM [] σ s)) := by
  obtain ⟨h1, h2, h3, h4, h5, h6, h7, h8, h9⟩ := id hI
  obtain ⟨hw, hA, hJ0, hJ1, ht16⟩ := id hW
  obtain ⟨w0, w1, w2, w3, w12, w03, w00, wW, wP, wR⟩ := id hw
  have hm := py_wm_of hw
  refine py_ofI (own := RX8) YX8_row.2.2.2.2 rfl rfl (Nat.le_of_ble_eq_true rfl)  ?_
  show py_Go X RX8 cX8_row 5 2 0 [some (.ref 47), some (.int (x)), some (.int (y)), some (.int (z)), none] [] σ (py_vs (some (.int (an_row x y z))) (fun s => py_IM s (nr_row R x y z) (nq_row q x y z) B N ft H n As I0 I1 t tr ∧ py_fr py_SM [] σ s))
  have loop : ∀ r l m, r < 8 → l < 3 → m ≤ 40 → x = nI r → y = nI l → z = nI m → (nI r).toInt = (r : Int) → (nI l).toInt = (l : Int) → (nI m).toInt = (m : Int) → (nI r).toNatClampNeg = r → (nI l).toNatClampNeg = l → (nI m).toNatClampNeg = m → ∀ i, i ≤ 40 → py_Go X RX8 cX8_row 5 2 52 [some (.ref 47), some (.int (nI r)), some (.int (nI l)), some (.int (nI m)), some (.int (nI i))] [] (py_row (py_up (py_up σ 48 r (nI l)) 49 r (nI m)) 50 (py_zs (σ 50) (40 * r) (i))) (py_vs (some (.int (an_row x y z))) (fun s => py_IM s (nr_row R x y z) (nq_row q x y z) B N ft H n As I0 I1 t tr ∧ py_fr py_SM [] σ s)) := by
    intro r l m hr hl3 hm4 hx hy hz hrI hlI hmI hrC hlC hmC
    subst hx hy hz
    refine py_loop _ 40 (fun i hi ih => ?_)
    refine go_iload (pc := 52) dX8_row_52 rfl ?_
    refine go_bipush (v := nI 40) (pc := 54) dX8_row_54 (by decide) ?_
    refine go_icmp_geN (tgt := 78) (pc := 56) dX8_row_56 (by omega) (by omega) (by decide) (fun c_56 => ?_) (fun c_56 => ?_)
    · refine go_aload_n (pc := 78) dX8_row_78 rfl ?_
      refine go_iload_n (pc := 79) dX8_row_79 rfl ?_
      refine go_cVi (pc := 80) dX8_row_80 ev_mwell lX8_72 YX8_well VX8_well rfl rfl rfl (by decide) rfl (Nat.le_of_ble_eq_true rfl) (fun sf ef => ?_)
      have hi40 : i = 40 := by omega
      subst hi40
      subst ef
      have en : nr_row R (nI r) (nI l) (nI m) = (va_up R.1 r l, va_up R.2.1 r m, py_zs R.2.2 (40 * r) 40) := by unfold nr_row; rw [if_pos (by omega), hrC, hlC, hmC]
      have hf : py_fr [48, 49, 50] [(47, 4)] σ (py_up (py_row (py_up (py_up σ 48 r (nI l)) 49 r (nI m)) 50 (py_zs (σ 50) (40 * r) (40))) 47 4 (nI 0)) := ((((py_fr.rf [48, 49, 50] [(47, 4)] σ).up (by decide) _).up (by decide) _).row (by decide) _).ut (by decide) _
      refine go_retI (pc := 83) dX8_row_83 (by unfold an_row; (repeat' split) <;> first | rfl | omega) ⟨?_, hf.wd (by decide) (by decide)⟩
      rw [en]
      refine ⟨py_rk_row hr hl3 hm4 h1 ?_ ?_ ?_, ?_, py_tm_fr hf (by decide) h3, (by rw [hf 47 7 (by decide) (by decide)]; exact h4), (by rw [hf.at 53 (by decide) (by decide)]; exact h5), py_am_fr hf (by decide) h6, py_ik_fr hf (by decide) h7, py_ik_fr hf (by decide) h8, py_tn_fr hf (by decide) h9⟩
      · rw [py_up_k _ _ _ (by decide), py_row_ne _ _ (by decide), py_up_k _ _ _ (by decide)]; exact py_row_self _ _ _
      · rw [py_up_k _ _ _ (by decide), py_row_ne _ _ (by decide)]
        refine (py_row_self _ _ _).trans ?_
        rw [py_up_k _ _ _ (by decide)]
      · rw [py_up_k _ _ _ (by decide), py_row_self]
      · rw [py_up_s]; unfold nq_row; rw [if_pos (by omega), if_neg (by omega)]
    · refine go_aload_n (pc := 59) dX8_row_59 rfl ?_
      refine go_getR (pc := 60) dX8_row_60 fX8_16 rfl rfl ?_
      refine go_bipush (v := nI 40) (pc := 63) dX8_row_63 (by decide) ?_
      refine go_iload_n (pc := 65) dX8_row_65 rfl ?_
      refine go_imulN (pc := 66) dX8_row_66  ?_
      refine go_iload (pc := 67) dX8_row_67 rfl ?_
      refine go_iaddN (pc := 69) dX8_row_69  ?_
      refine go_iconst (v := nI 0) (pc := 70) dX8_row_70 (by decide) ?_
      refine go_astN (pc := 71) dX8_row_71 rfl (by show (40 * r) + i < 320; omega) ?_
      refine go_iincN (c := 1) (pc := 72) dX8_row_72 rfl (by decide) (by decide) rfl ?_
      refine go_goto (tgt := 52) (pc := 75) dX8_row_75 (by decide) ?_
      rw [py_up_row, py_zs_s]
      exact ih (by omega)
  refine go_iload_n (pc := 0) dX8_row_0 rfl ?_
  refine go_cS (pc := 1) dX8_row_1 ev_misRow lX8_63 YX8_isRow SX8_isRow rfl (by decide) rfl (Nat.le_of_ble_eq_true rfl) ?_
  refine go_if_eqB (tgt := 22) (pc := 4) dX8_row_4 (by decide) (fun c_4 => ?_) (fun c_4 => ?_)
  · refine go_ldc (pc := 22) dX8_row_22 kX8_67 ?_
    have e1 : nr_row R ((x)) ((y)) ((z)) = R := by unfold nr_row; rw [if_neg (by omega)]
    have e2 : nq_row q ((x)) ((y)) ((z)) = q := by unfold nq_row; (repeat' split) <;> first | rfl | omega
    exact go_retI (pc := 24) dX8_row_24 (by unfold an_row; (repeat' split) <;> first | rfl | omega) ⟨by rw [e1, e2]; exact hI, py_fr.rf _ _ σ⟩
  · obtain ⟨r, rfl, hr, hrI, hrC⟩ := py_pi_of (x := x) c_4
    refine go_iload_n (pc := 7) dX8_row_7 rfl ?_
    refine go_iconst (v := nI 0) (pc := 8) dX8_row_8 (by decide) ?_
    refine go_iconst (v := nI 2) (pc := 9) dX8_row_9 (by decide) ?_
    refine go_cS (pc := 10) dX8_row_10 ev_inN lX8_59 YX8_in SX8_in rfl (by decide) rfl (Nat.le_of_ble_eq_true rfl) ?_
    refine go_if_eqB (tgt := 22) (pc := 13) dX8_row_13 (by decide) (fun c_13 => ?_) (fun c_13 => ?_)
    · refine go_ldc (pc := 22) dX8_row_22 kX8_67 ?_
      have e1 : nr_row R ((nI r)) ((y)) ((z)) = R := by unfold nr_row; rw [if_neg (by omega)]
      have e2 : nq_row q ((nI r)) ((y)) ((z)) = q := by unfold nq_row; (repeat' split) <;> first | rfl | omega
      exact go_retI (pc := 24) dX8_row_24 (by unfold an_row; (repeat' split) <;> first | rfl | omega) ⟨by rw [e1, e2]; exact hI, py_fr.rf _ _ σ⟩
    · obtain ⟨l, rfl, hl0, hl, hlI, hlC⟩ := py_rg_of (x := y) (a := 0) (b := 2) c_13
      refine go_iload_n (pc := 16) dX8_row_16 rfl ?_
      refine go_bipush (v := nI 40) (pc := 17) dX8_row_17 (by decide) ?_
      refine go_icmp_leJN (tgt := 25) (pc := 19) dX8_row_19 (by omega) (by decide) (fun c_19 => ?_) (fun c_19 => ?_)
      · refine go_iload_n (pc := 25) dX8_row_25 rfl ?_
        refine go_if_geJ (tgt := 35) (pc := 26) dX8_row_26 (by decide) (fun c_26 => ?_) (fun c_26 => ?_)
        · obtain ⟨m, rfl, hm0, hm4, hmI, hmC⟩ := py_rg_of (x := z) (a := 0) (b := 40) ⟨by omega, by omega⟩
          refine go_aload_n (pc := 35) dX8_row_35 rfl ?_
          refine go_getR (pc := 36) dX8_row_36 fX8_7 rfl rfl ?_
          refine go_iload_n (pc := 39) dX8_row_39 rfl ?_
          refine go_iload_n (pc := 40) dX8_row_40 rfl ?_
          refine go_astN (pc := 41) dX8_row_41 rfl (by show r < 8; omega) ?_
          refine go_aload_n (pc := 42) dX8_row_42 rfl ?_
          refine go_getR (pc := 43) dX8_row_43 fX8_13 rfl rfl ?_
          refine go_iload_n (pc := 46) dX8_row_46 rfl ?_
          refine go_iload_n (pc := 47) dX8_row_47 rfl ?_
          refine go_astN (pc := 48) dX8_row_48 rfl (by show r < 8; omega) ?_
          refine go_iconst (v := nI 0) (pc := 49) dX8_row_49 (by decide) ?_
          refine go_istore (pc := 50) dX8_row_50 (by decide) rfl ?_
          have e8 := loop r l m hr (by omega) hm4 rfl rfl rfl hrI hlI hmI hrC hlC hmC 0 (by omega)
          rw [py_zs_0, show σ 50 = (py_up (py_up σ 48 r (nI l)) 49 r (nI m)) 50 by rw [py_up_k _ _ _ (by decide), py_up_k _ _ _ (by decide)], py_row_id] at e8
          exact e8
        · refine go_aload_n (pc := 29) dX8_row_29 rfl ?_
          refine go_iconst (v := nI 4) (pc := 30) dX8_row_30 (by decide) ?_
          refine go_cVi (pc := 31) dX8_row_31 ev_mfound lX8_68 YX8_found VX8_found rfl rfl rfl (by decide) rfl (Nat.le_of_ble_eq_true rfl) (fun sf ef => ?_)
          have e1 : nr_row R ((nI r)) ((nI l)) ((z)) = R := by unfold nr_row; rw [if_neg (by omega)]
          subst ef
          refine go_retI (pc := 34) dX8_row_34 (by unfold an_row; (repeat' split) <;> first | rfl | omega) ⟨?_, ((py_fr.rf [] [(47, 4)] σ).ut (by decide) _).wd (by decide) (by decide)⟩
          rw [e1]
          refine ⟨py_rk_fr ((py_fr.rf [] [(47, 4)] σ).ut (by decide) _) (by decide) h1, ?_, py_tm_fr ((py_fr.rf [] [(47, 4)] σ).ut (by decide) _) (by decide) h3, (by rw [((py_fr.rf [] [(47, 4)] σ).ut (by decide) _) 47 7 (by decide) (by decide)]; exact h4), (by rw [((py_fr.rf [] [(47, 4)] σ).ut (by decide) _).at 53 (by decide) (by decide)]; exact h5), py_am_fr ((py_fr.rf [] [(47, 4)] σ).ut (by decide) _) (by decide) h6, py_ik_fr ((py_fr.rf [] [(47, 4)] σ).ut (by decide) _) (by decide) h7, py_ik_fr ((py_fr.rf [] [(47, 4)] σ).ut (by decide) _) (by decide) h8, py_tn_fr ((py_fr.rf [] [(47, 4)] σ).ut (by decide) _) (by decide) h9⟩
          rw [py_up_s]
          unfold nq_row; (repeat' split) <;> first | rfl | omega
      · refine go_ldc (pc := 22) dX8_row_22 kX8_67 ?_
        have e1 : nr_row R ((nI r)) ((nI l)) ((z)) = R := by unfold nr_row; rw [if_neg (by omega)]
        have e2 : nq_row q ((nI r)) ((nI l)) ((z)) = q := by unfold nq_row; (repeat' split) <;> first | rfl | omega
        exact go_retI (pc := 24) dX8_row_24 (by unfold an_row; (repeat' split) <;> first | rfl | omega) ⟨by rw [e1, e2]; exact hI, py_fr.rf _ _ σ⟩
set_option maxHeartbeats 4000000 in
set_option maxRecDepth 100000 in
theorem mo_set {X : py_X} {σ : py_H} {R : py_Rt} {q : Int32} {B : Nat → Nat} {N : Nat} {ft : Int32} {H : Nat → Nat} {n : Nat} {As : Nat → Nat → Nat} {I0 I1 : Option (Nat → Nat)} {t : Nat} {tr : Nat → Int32} (hI : py_IM σ R q B N ft H n As I0 I1 t tr) (hW : py_IW H n As I0 I1 t) {x y z : Int32} : py_Ev X 2 yX8_set cX8_set 4 (some .int) [.ref 47, .int (x), .int (y), .int (z)] σ (py_vs (some (.int (an_set R x y z))) (fun s => py_IM s (nr_set R x y z) (nq_set R q x y) B N ft H n As I0 I1 t tr ∧ py_fr py_SM [] σ s)) := by
  obtain ⟨h1, h2, h3, h4, h5, h6, h7, h8, h9⟩ := id hI
  obtain ⟨hw, hA, hJ0, hJ1, ht16⟩ := id hW
  obtain ⟨w0, w1, w2, w3, w12, w03, w00, wW, wP, wR⟩ := id hw
  have hm := py_wm_of hw
  refine py_ofI (own := RX8) YX8_set.2.2.2.2 rfl rfl (Nat.le_of_ble_eq_true rfl)  ?_
  show py_Go X RX8 cX8_set 4 2 0 [some (.ref 47), some (.int (x)), some (.int (y)), some (.int (z))] [] σ (py_vs (some (.int (an_set R x y z))) (fun s => py_IM s (nr_set R x y z) (nq_set R q x y) B N ft H n As I0 I1 t tr ∧ py_fr py_SM [] σ s))
  refine go_iload_n (pc := 0) dX8_set_0 rfl ?_
  refine go_cS (pc := 1) dX8_set_1 ev_misRow lX8_63 YX8_isRow SX8_isRow rfl (by decide) rfl (Nat.le_of_ble_eq_true rfl) ?_
  refine go_if_neB (tgt := 10) (pc := 4) dX8_set_4 (by decide) (fun c_4 => ?_) (fun c_4 => ?_)
  · obtain ⟨r, rfl, hr, hrI, hrC⟩ := py_pi_of (x := x) c_4
    have hR := h1 r hr
    have hu1 : R.1 (nI r).toNatClampNeg = R.1 r := by rw [hrC]
    have hu2 : R.2.1 (nI r).toNatClampNeg = R.2.1 r := by rw [hrC]
    refine go_aload_n (pc := 10) dX8_set_10 rfl ?_
    refine go_iload_n (pc := 11) dX8_set_11 rfl ?_
    refine go_cV (pc := 12) dX8_set_12 (ev_misMissing hr hR.2.1 hR.1) lX8_75 YX8_isMissing VX8_isMissing rfl rfl rfl (by decide) rfl (Nat.le_of_ble_eq_true rfl) ?_
    refine go_if_eqB (tgt := 24) (pc := 15) dX8_set_15 (by decide) (fun c_15 => ?_) (fun c_15 => ?_)
    · have hl3 : R.1 r < 3 := by omega
      have hM := hR.2.2 hl3
      have hlr : σ 48 r = nI (R.1 r) := by rw [hR.2.1, if_neg (by omega)]
      refine go_iload_n (pc := 24) dX8_set_24 rfl ?_
      refine go_iconst (v := nI 0) (pc := 25) dX8_set_25 (by decide) ?_
      refine go_aload_n (pc := 26) dX8_set_26 rfl ?_
      refine go_getR (pc := 27) dX8_set_27 fX8_13 rfl rfl ?_
      refine go_iload_n (pc := 30) dX8_set_30 rfl ?_
      refine go_aldN (x := (nI (R.2.1 r))) (pc := 31) dX8_set_31 rfl (by show r < 8; omega) hM.2.1 ?_
      refine go_iconst (v := nI 1) (pc := 32) dX8_set_32 (by decide) ?_
      refine go_isub (pc := 33) dX8_set_33  ?_
      refine go_cS (pc := 34) dX8_set_34 ev_in lX8_59 YX8_in SX8_in rfl (by decide) rfl (Nat.le_of_ble_eq_true rfl) ?_
      refine go_if_neB (tgt := 46) (pc := 37) dX8_set_37 (by decide) (fun c_37 => ?_) (fun c_37 => ?_)
      · obtain ⟨i, rfl, hi, hiI, hiC⟩ := py_pi_of (x := y) ((py_pi_w (by omega)).mp c_37)
        refine go_aload_n (pc := 46) dX8_set_46 rfl ?_
        refine go_getR (pc := 47) dX8_set_47 fX8_16 rfl rfl ?_
        refine go_bipush (v := nI 40) (pc := 50) dX8_set_50 (by decide) ?_
        refine go_iload_n (pc := 52) dX8_set_52 rfl ?_
        refine go_imulN (pc := 53) dX8_set_53  ?_
        refine go_iload_n (pc := 54) dX8_set_54 rfl ?_
        refine go_iaddN (pc := 55) dX8_set_55  ?_
        refine go_aload_n (pc := 56) dX8_set_56 rfl ?_
        refine go_getR (pc := 57) dX8_set_57 fX8_7 rfl rfl ?_
        refine go_iload_n (pc := 60) dX8_set_60 rfl ?_
        refine go_aldN (x := (nI (R.1 r))) (pc := 61) dX8_set_61 rfl (by show r < 8; omega) hlr ?_
        refine go_iload_n (pc := 62) dX8_set_62 rfl ?_
        refine go_cS (pc := 63) dX8_set_63 (ev_mcut (by omega)) lX8_78 YX8_cut SX8_cut rfl (by decide) rfl (Nat.le_of_ble_eq_true rfl) ?_
        refine go_astN (pc := 66) dX8_set_66 rfl (by show (40 * r) + i < 320; omega) ?_
        refine go_aload_n (pc := 67) dX8_set_67 rfl ?_
        refine go_aload_n (pc := 68) dX8_set_68 rfl ?_
        refine go_getR (pc := 69) dX8_set_69 fX8_16 rfl rfl ?_
        refine go_bipush (v := nI 40) (pc := 72) dX8_set_72 (by decide) ?_
        refine go_iload_n (pc := 74) dX8_set_74 rfl ?_
        refine go_imulN (pc := 75) dX8_set_75  ?_
        refine go_iload_n (pc := 76) dX8_set_76 rfl ?_
        refine go_iaddN (pc := 77) dX8_set_77  ?_
        refine go_aldN (x := (py_cut (R.1 r) z)) (pc := 78) dX8_set_78 rfl (by show (40 * r) + i < 320; omega) (py_up_s _ _ _ _) ?_
        refine go_cVi (pc := 79) dX8_set_79 ev_mwell lX8_72 YX8_well VX8_well rfl rfl rfl (by decide) rfl (Nat.le_of_ble_eq_true rfl) (fun sf ef => ?_)
        subst ef
        have en : nr_set R (nI r) (nI i) z = (R.1, R.2.1, upd R.2.2 (40 * r + i) (py_cut (R.1 r) z)) := by unfold nr_set; rw [if_pos (by omega), hrC, hiC]
        have hf : py_fr [50] [(47, 4)] σ (py_up (py_up σ 50 (40 * r + i) (py_cut (R.1 r) z)) 47 4 (nI 0)) := ((py_fr.rf [50] [(47, 4)] σ).up (by decide) _).ut (by decide) _
        refine go_retI (pc := 82) dX8_set_82 (by unfold an_set; rw [if_pos (by omega), if_neg (by omega), if_pos (by omega), hrC]) ⟨?_, hf.wd (by decide) (by decide)⟩
        rw [en]
        refine ⟨py_rk_set (show i < 40 by omega) h1 ?_ ?_ ?_, ?_, py_tm_fr hf (by decide) h3, (by rw [hf 47 7 (by decide) (by decide)]; exact h4), (by rw [hf.at 53 (by decide) (by decide)]; exact h5), py_am_fr hf (by decide) h6, py_ik_fr hf (by decide) h7, py_ik_fr hf (by decide) h8, py_tn_fr hf (by decide) h9⟩
        · rw [py_up_k _ _ _ (by decide), py_up_k _ _ _ (by decide)]
        · rw [py_up_k _ _ _ (by decide), py_up_k _ _ _ (by decide)]
        · rw [py_up_k _ _ _ (by decide)]; exact py_row_self _ _ _
        · rw [py_up_s]; unfold nq_set; rw [if_pos (by omega), if_neg (by omega), if_pos (by omega)]
      · rw [py_pi_w (by omega)] at c_37
        refine go_aload_n (pc := 40) dX8_set_40 rfl ?_
        refine go_iconst (v := nI 2) (pc := 41) dX8_set_41 (by decide) ?_
        refine go_cVi (pc := 42) dX8_set_42 ev_mfound lX8_68 YX8_found VX8_found rfl rfl rfl (by decide) rfl (Nat.le_of_ble_eq_true rfl) (fun sf ef => ?_)
        have e1 : nr_set R ((nI r)) ((y)) z = R := by unfold nr_set; rw [if_neg (by omega)]
        subst ef
        refine go_retI (pc := 45) dX8_set_45 (by unfold an_set; (repeat' split) <;> first | rfl | omega) ⟨?_, ((py_fr.rf [] [(47, 4)] σ).ut (by decide) _).wd (by decide) (by decide)⟩
        rw [e1]
        refine ⟨py_rk_fr ((py_fr.rf [] [(47, 4)] σ).ut (by decide) _) (by decide) h1, ?_, py_tm_fr ((py_fr.rf [] [(47, 4)] σ).ut (by decide) _) (by decide) h3, (by rw [((py_fr.rf [] [(47, 4)] σ).ut (by decide) _) 47 7 (by decide) (by decide)]; exact h4), (by rw [((py_fr.rf [] [(47, 4)] σ).ut (by decide) _).at 53 (by decide) (by decide)]; exact h5), py_am_fr ((py_fr.rf [] [(47, 4)] σ).ut (by decide) _) (by decide) h6, py_ik_fr ((py_fr.rf [] [(47, 4)] σ).ut (by decide) _) (by decide) h7, py_ik_fr ((py_fr.rf [] [(47, 4)] σ).ut (by decide) _) (by decide) h8, py_tn_fr ((py_fr.rf [] [(47, 4)] σ).ut (by decide) _) (by decide) h9⟩
        rw [py_up_s]
        unfold nq_set; (repeat' split) <;> first | rfl | omega
    · refine go_aload_n (pc := 18) dX8_set_18 rfl ?_
      refine go_iconst (v := nI 1) (pc := 19) dX8_set_19 (by decide) ?_
      refine go_cVi (pc := 20) dX8_set_20 ev_mfound lX8_68 YX8_found VX8_found rfl rfl rfl (by decide) rfl (Nat.le_of_ble_eq_true rfl) (fun sf ef => ?_)
      have e1 : nr_set R ((nI r)) ((y)) z = R := by unfold nr_set; rw [if_neg (by omega)]
      subst ef
      refine go_retI (pc := 23) dX8_set_23 (by unfold an_set; (repeat' split) <;> first | rfl | omega) ⟨?_, ((py_fr.rf [] [(47, 4)] σ).ut (by decide) _).wd (by decide) (by decide)⟩
      rw [e1]
      refine ⟨py_rk_fr ((py_fr.rf [] [(47, 4)] σ).ut (by decide) _) (by decide) h1, ?_, py_tm_fr ((py_fr.rf [] [(47, 4)] σ).ut (by decide) _) (by decide) h3, (by rw [((py_fr.rf [] [(47, 4)] σ).ut (by decide) _) 47 7 (by decide) (by decide)]; exact h4), (by rw [((py_fr.rf [] [(47, 4)] σ).ut (by decide) _).at 53 (by decide) (by decide)]; exact h5), py_am_fr ((py_fr.rf [] [(47, 4)] σ).ut (by decide) _) (by decide) h6, py_ik_fr ((py_fr.rf [] [(47, 4)] σ).ut (by decide) _) (by decide) h7, py_ik_fr ((py_fr.rf [] [(47, 4)] σ).ut (by decide) _) (by decide) h8, py_tn_fr ((py_fr.rf [] [(47, 4)] σ).ut (by decide) _) (by decide) h9⟩
      rw [py_up_s]
      unfold nq_set; (repeat' split) <;> first | rfl | omega
  · refine go_ldc (pc := 7) dX8_set_7 kX8_67 ?_
    have e1 : nr_set R ((x)) ((y)) z = R := by unfold nr_set; rw [if_neg (by omega)]
    have e2 : nq_set R q ((x)) ((y)) = q := by unfold nq_set; (repeat' split) <;> first | rfl | omega
    exact go_retI (pc := 9) dX8_set_9 (by unfold an_set; (repeat' split) <;> first | rfl | omega) ⟨by rw [e1, e2]; exact hI, py_fr.rf _ _ σ⟩
set_option maxHeartbeats 4000000 in
set_option maxRecDepth 100000 in
theorem mo_drop {X : py_X} {σ : py_H} {R : py_Rt} {q : Int32} {B : Nat → Nat} {N : Nat} {ft : Int32} {H : Nat → Nat} {n : Nat} {As : Nat → Nat → Nat} {I0 I1 : Option (Nat → Nat)} {t : Nat} {tr : Nat → Int32} (hI : py_IM σ R q B N ft H n As I0 I1 t tr) (hW : py_IW H n As I0 I1 t) {x : Int32} : py_Ev X 2 yX8_drop cX8_drop 2 (some .int) [.ref 47, .int (x)] σ (py_vs (some (.int (an_drop R x))) (fun s => py_IM s (nr_drop R x) (nq_drop R q x) B N ft H n As I0 I1 t tr ∧ py_fr py_SM [] σ s)) := by
  obtain ⟨h1, h2, h3, h4, h5, h6, h7, h8, h9⟩ := id hI
  obtain ⟨hw, hA, hJ0, hJ1, ht16⟩ := id hW
  obtain ⟨w0, w1, w2, w3, w12, w03, w00, wW, wP, wR⟩ := id hw
  have hm := py_wm_of hw
  refine py_ofI (own := RX8) YX8_drop.2.2.2.2 rfl rfl (Nat.le_of_ble_eq_true rfl)  ?_
  show py_Go X RX8 cX8_drop 2 2 0 [some (.ref 47), some (.int (x))] [] σ (py_vs (some (.int (an_drop R x))) (fun s => py_IM s (nr_drop R x) (nq_drop R q x) B N ft H n As I0 I1 t tr ∧ py_fr py_SM [] σ s))
  refine go_iload_n (pc := 0) dX8_drop_0 rfl ?_
  refine go_cS (pc := 1) dX8_drop_1 ev_misRow lX8_63 YX8_isRow SX8_isRow rfl (by decide) rfl (Nat.le_of_ble_eq_true rfl) ?_
  refine go_if_neB (tgt := 10) (pc := 4) dX8_drop_4 (by decide) (fun c_4 => ?_) (fun c_4 => ?_)
  · obtain ⟨r, rfl, hr, hrI, hrC⟩ := py_pi_of (x := x) c_4
    have hR := h1 r hr
    have hu1 : R.1 (nI r).toNatClampNeg = R.1 r := by rw [hrC]
    have hu2 : R.2.1 (nI r).toNatClampNeg = R.2.1 r := by rw [hrC]
    refine go_aload_n (pc := 10) dX8_drop_10 rfl ?_
    refine go_iload_n (pc := 11) dX8_drop_11 rfl ?_
    refine go_cV (pc := 12) dX8_drop_12 (ev_misMissing hr hR.2.1 hR.1) lX8_75 YX8_isMissing VX8_isMissing rfl rfl rfl (by decide) rfl (Nat.le_of_ble_eq_true rfl) ?_
    refine go_if_eqB (tgt := 24) (pc := 15) dX8_drop_15 (by decide) (fun c_15 => ?_) (fun c_15 => ?_)
    · have hl3 : R.1 r < 3 := by omega
      have hM := hR.2.2 hl3
      refine go_aload_n (pc := 24) dX8_drop_24 rfl ?_
      refine go_getR (pc := 25) dX8_drop_25 fX8_7 rfl rfl ?_
      refine go_iload_n (pc := 28) dX8_drop_28 rfl ?_
      refine go_ldc (pc := 29) dX8_drop_29 kX8_53 ?_
      refine go_astN (pc := 31) dX8_drop_31 rfl (by show r < 8; omega) ?_
      refine go_aload_n (pc := 32) dX8_drop_32 rfl ?_
      refine go_aload_n (pc := 33) dX8_drop_33 rfl ?_
      refine go_getR (pc := 34) dX8_drop_34 fX8_13 rfl rfl ?_
      refine go_iload_n (pc := 37) dX8_drop_37 rfl ?_
      refine go_aldN (x := (nI (R.2.1 r))) (pc := 38) dX8_drop_38 rfl (by show r < 8; omega) (by rw [py_up_k _ _ _ (by decide)]; exact hM.2.1) ?_
      refine go_cVi (pc := 39) dX8_drop_39 ev_mwell lX8_72 YX8_well VX8_well rfl rfl rfl (by decide) rfl (Nat.le_of_ble_eq_true rfl) (fun sf ef => ?_)
      subst ef
      have en : nr_drop R (nI r) = (va_up R.1 r 3, R.2.1, R.2.2) := by unfold nr_drop; rw [if_pos (by omega), hrC]
      have hf : py_fr [48] [(47, 4)] σ (py_up (py_up σ 48 r (-1000000)) 47 4 (nI 0)) := ((py_fr.rf [48] [(47, 4)] σ).up (by decide) _).ut (by decide) _
      refine go_retI (pc := 42) dX8_drop_42 (by unfold an_drop; rw [if_pos (by omega), if_neg (by omega), hrC]) ⟨?_, hf.wd (by decide) (by decide)⟩
      rw [en]
      refine ⟨py_rk_drop h1 ?_ ?_ ?_, ?_, py_tm_fr hf (by decide) h3, (by rw [hf 47 7 (by decide) (by decide)]; exact h4), (by rw [hf.at 53 (by decide) (by decide)]; exact h5), py_am_fr hf (by decide) h6, py_ik_fr hf (by decide) h7, py_ik_fr hf (by decide) h8, py_tn_fr hf (by decide) h9⟩
      · rw [py_up_k _ _ _ (by decide)]; exact py_row_self _ _ _
      · rw [py_up_k _ _ _ (by decide), py_up_k _ _ _ (by decide)]
      · rw [py_up_k _ _ _ (by decide), py_up_k _ _ _ (by decide)]
      · rw [py_up_s]; unfold nq_drop; rw [if_pos (by omega), if_neg (by omega)]
    · refine go_aload_n (pc := 18) dX8_drop_18 rfl ?_
      refine go_iconst (v := nI 1) (pc := 19) dX8_drop_19 (by decide) ?_
      refine go_cVi (pc := 20) dX8_drop_20 ev_mfound lX8_68 YX8_found VX8_found rfl rfl rfl (by decide) rfl (Nat.le_of_ble_eq_true rfl) (fun sf ef => ?_)
      have e1 : nr_drop R ((nI r)) = R := by unfold nr_drop; rw [if_neg (by omega)]
      subst ef
      refine go_retI (pc := 23) dX8_drop_23 (by unfold an_drop; (repeat' split) <;> first | rfl | omega) ⟨?_, ((py_fr.rf [] [(47, 4)] σ).ut (by decide) _).wd (by decide) (by decide)⟩
      rw [e1]
      refine ⟨py_rk_fr ((py_fr.rf [] [(47, 4)] σ).ut (by decide) _) (by decide) h1, ?_, py_tm_fr ((py_fr.rf [] [(47, 4)] σ).ut (by decide) _) (by decide) h3, (by rw [((py_fr.rf [] [(47, 4)] σ).ut (by decide) _) 47 7 (by decide) (by decide)]; exact h4), (by rw [((py_fr.rf [] [(47, 4)] σ).ut (by decide) _).at 53 (by decide) (by decide)]; exact h5), py_am_fr ((py_fr.rf [] [(47, 4)] σ).ut (by decide) _) (by decide) h6, py_ik_fr ((py_fr.rf [] [(47, 4)] σ).ut (by decide) _) (by decide) h7, py_ik_fr ((py_fr.rf [] [(47, 4)] σ).ut (by decide) _) (by decide) h8, py_tn_fr ((py_fr.rf [] [(47, 4)] σ).ut (by decide) _) (by decide) h9⟩
      rw [py_up_s]
      unfold nq_drop; (repeat' split) <;> first | rfl | omega
  · refine go_ldc (pc := 7) dX8_drop_7 kX8_67 ?_
    have e1 : nr_drop R ((x)) = R := by unfold nr_drop; rw [if_neg (by omega)]
    have e2 : nq_drop R q ((x)) = q := by unfold nq_drop; (repeat' split) <;> first | rfl | omega
    exact go_retI (pc := 9) dX8_drop_9 (by unfold an_drop; (repeat' split) <;> first | rfl | omega) ⟨by rw [e1, e2]; exact hI, py_fr.rf _ _ σ⟩
set_option maxHeartbeats 4000000 in
set_option maxRecDepth 100000 in
theorem mo_copy {X : py_X} {σ : py_H} {R : py_Rt} {q : Int32} {B : Nat → Nat} {N : Nat} {ft : Int32} {H : Nat → Nat} {n : Nat} {As : Nat → Nat → Nat} {I0 I1 : Option (Nat → Nat)} {t : Nat} {tr : Nat → Int32} (hI : py_IM σ R q B N ft H n As I0 I1 t tr) (hW : py_IW H n As I0 I1 t) {xa xi xb xj xn : Int32} : py_Ev X 2 yX8_copy cX8_copy 7 (some .int) [.ref 47, .int (xa), .int (xi), .int (xb), .int (xj), .int (xn)] σ (py_vs (some (.int (an_copy R xa xi xb xj xn))) (fun s => py_IM s (nr_copy R xa xi xb xj xn) (nq_copy R q xa xi xb xj xn) B N ft H n As I0 I1 t tr ∧ py_fr py_SM [] σ s)) := by
  obtain ⟨h1, h2, h3, h4, h5, h6, h7, h8, h9⟩ := id hI
  obtain ⟨hw, hA, hJ0, hJ1, ht16⟩ := id hW
  obtain ⟨w0, w1, w2, w3, w12, w03, w00, wW, wP, wR⟩ := id hw
  have hm := py_wm_of hw
  refine py_ofI (own := RX8) YX8_copy.2.2.2.2 rfl rfl (Nat.le_of_ble_eq_true rfl)  ?_
  show py_Go X RX8 cX8_copy 7 2 0 [some (.ref 47), some (.int (xa)), some (.int (xi)), some (.int (xb)), some (.int (xj)), some (.int (xn)), none] [] σ (py_vs (some (.int (an_copy R xa xi xb xj xn))) (fun s => py_IM s (nr_copy R xa xi xb xj xn) (nq_copy R q xa xi xb xj xn) B N ft H n As I0 I1 t tr ∧ py_fr py_SM [] σ s))
  have loop2 : ∀ a b i j m, (a < 8 ∧ b < 8 ∧ R.1 a < 3 ∧ R.1 b < 3 ∧ R.1 a = R.1 b ∧ i + m ≤ R.2.1 a ∧ j + m ≤ R.2.1 b ∧ R.2.1 a ≤ 40 ∧ R.2.1 b ≤ 40 ∧ xa = nI a ∧ xb = nI b ∧ xi = nI i ∧ xj = nI j ∧ xn = nI m) → ∀ k, k ≤ m → py_Go X RX8 cX8_copy 7 2 129 [some (.ref 47), some (.int (nI a)), some (.int (nI i)), some (.int (nI b)), some (.int (nI j)), some (.int (nI m)), some (.int (nI k))] [] (py_row (py_row σ 51 (va_cpy (σ 50) (σ 51) (40 * a + i) 0 (m))) 50 (va_cpy (va_cpy (σ 50) (σ 51) (40 * a + i) 0 m) (σ 50) 0 (40 * b + j) (k))) (py_vs (some (.int (an_copy R xa xi xb xj xn))) (fun s => py_IM s (nr_copy R xa xi xb xj xn) (nq_copy R q xa xi xb xj xn) B N ft H n As I0 I1 t tr ∧ py_fr py_SM [] σ s)) := by
    intro a b i j m hF
    obtain ⟨ha, hb, hla, hlb, hel, hia, hjb, ha40, hb40, hxa, hxb, hxi, hxj, hxn⟩ := hF
    subst hxa hxb hxi hxj hxn
    have haI : (nI a).toInt = (a : Int) := nI_toInt (by omega)
    have hbI : (nI b).toInt = (b : Int) := nI_toInt (by omega)
    have hiI : (nI i).toInt = (i : Int) := nI_toInt (by omega)
    have hjI : (nI j).toInt = (j : Int) := nI_toInt (by omega)
    have hmI : (nI m).toInt = (m : Int) := nI_toInt (by omega)
    have haC : (nI a).toNatClampNeg = a := nI_clamp (by omega)
    have hbC : (nI b).toNatClampNeg = b := nI_clamp (by omega)
    have hiC : (nI i).toNatClampNeg = i := nI_clamp (by omega)
    have hjC : (nI j).toNatClampNeg = j := nI_clamp (by omega)
    have hmC : (nI m).toNatClampNeg = m := nI_clamp (by omega)
    have hua1 : R.1 (nI a).toNatClampNeg = R.1 a := by rw [haC]
    have hub1 : R.1 (nI b).toNatClampNeg = R.1 b := by rw [hbC]
    have hua2 : R.2.1 (nI a).toNatClampNeg = R.2.1 a := by rw [haC]
    have hub2 : R.2.1 (nI b).toNatClampNeg = R.2.1 b := by rw [hbC]
    refine py_loop _ m (fun k hk ih => ?_)
    refine go_iload (pc := 129) dX8_copy_129 rfl ?_
    refine go_iload (pc := 131) dX8_copy_131 rfl ?_
    refine go_icmp_geN (tgt := 164) (pc := 133) dX8_copy_133 (by omega) (by omega) (by decide) (fun c_133 => ?_) (fun c_133 => ?_)
    · refine go_aload_n (pc := 164) dX8_copy_164 rfl ?_
      refine go_iload (pc := 165) dX8_copy_165 rfl ?_
      refine go_cVi (pc := 167) dX8_copy_167 ev_mwell lX8_72 YX8_well VX8_well rfl rfl rfl (by decide) rfl (Nat.le_of_ble_eq_true rfl) (fun sf ef => ?_)
      have hkm : k = m := by omega
      subst hkm
      subst ef
      have en : nr_copy R (nI a) (nI i) (nI b) (nI j) (nI k) = (R.1, R.2.1, va_cpy R.2.2 R.2.2 (40 * a + i) (40 * b + j) k) := by unfold nr_copy; rw [if_pos (by unfold py_cpok; omega), haC, hiC, hbC, hjC, hmC]
      have hf : py_fr [50, 51] [(47, 4)] σ (py_up (py_row (py_row σ 51 (va_cpy (σ 50) (σ 51) (40 * a + i) 0 (k))) 50 (va_cpy (va_cpy (σ 50) (σ 51) (40 * a + i) 0 k) (σ 50) 0 (40 * b + j) (k))) 47 4 (nI 0)) := (((py_fr.rf [50, 51] [(47, 4)] σ).row (by decide) _).row (by decide) _).ut (by decide) _
      refine go_retI (pc := 170) dX8_copy_170 (by unfold an_copy; rw [if_pos (by omega), if_neg (by omega), if_pos (by omega), if_pos (by omega)]) ⟨?_, hf.wd (by decide) (by decide)⟩
      rw [en]
      refine ⟨py_rk_copy ha h1 (by omega) (show i + k ≤ R.2.1 a by omega) ?_ ?_ ?_, ?_, py_tm_fr hf (by decide) h3, (by rw [hf 47 7 (by decide) (by decide)]; exact h4), (by rw [hf.at 53 (by decide) (by decide)]; exact h5), py_am_fr hf (by decide) h6, py_ik_fr hf (by decide) h7, py_ik_fr hf (by decide) h8, py_tn_fr hf (by decide) h9⟩
      · rw [py_up_k _ _ _ (by decide), py_row_ne _ _ (by decide), py_row_ne _ _ (by decide)]
      · rw [py_up_k _ _ _ (by decide), py_row_ne _ _ (by decide), py_row_ne _ _ (by decide)]
      · rw [py_up_k _ _ _ (by decide), py_row_self, py_cpy_cpy]
      · rw [py_up_s]; unfold nq_copy; rw [if_pos (by omega), if_neg (by omega), if_pos (by omega), if_pos (by omega)]
    · refine go_aload_n (pc := 136) dX8_copy_136 rfl ?_
      refine go_getR (pc := 137) dX8_copy_137 fX8_16 rfl rfl ?_
      refine go_bipush (v := nI 40) (pc := 140) dX8_copy_140 (by decide) ?_
      refine go_iload_n (pc := 142) dX8_copy_142 rfl ?_
      refine go_imulN (pc := 143) dX8_copy_143  ?_
      refine go_iload (pc := 144) dX8_copy_144 rfl ?_
      refine go_iaddN (pc := 146) dX8_copy_146  ?_
      refine go_iload (pc := 147) dX8_copy_147 rfl ?_
      refine go_iaddN (pc := 149) dX8_copy_149  ?_
      refine go_aload_n (pc := 150) dX8_copy_150 rfl ?_
      refine go_getR (pc := 151) dX8_copy_151 fX8_19 rfl rfl ?_
      refine go_iload (pc := 154) dX8_copy_154 rfl ?_
      refine go_aldN (x := (va_cpy (σ 50) (σ 51) (40 * a + i) 0 m (k))) (pc := 156) dX8_copy_156 rfl (by show k < 40; omega) (by rw [py_row_ne _ _ (by decide), py_row_self]) ?_
      refine go_astN (pc := 157) dX8_copy_157 rfl (by show ((40 * b) + j) + k < 320; omega) ?_
      refine go_iincN (c := 1) (pc := 158) dX8_copy_158 rfl (by decide) (by decide) rfl ?_
      refine go_goto (tgt := 129) (pc := 161) dX8_copy_161 (by decide) ?_
      rw [py_up_row]
      have e7 := py_cpy_s (va_cpy (σ 50) (σ 51) (40 * a + i) 0 m) (σ 50) 0 (40 * b + j) k
      rw [Nat.zero_add] at e7
      rw [e7]
      exact ih (by omega)
  have loop1 : ∀ a b i j m, (a < 8 ∧ b < 8 ∧ R.1 a < 3 ∧ R.1 b < 3 ∧ R.1 a = R.1 b ∧ i + m ≤ R.2.1 a ∧ j + m ≤ R.2.1 b ∧ R.2.1 a ≤ 40 ∧ R.2.1 b ≤ 40 ∧ xa = nI a ∧ xb = nI b ∧ xi = nI i ∧ xj = nI j ∧ xn = nI m) → ∀ k, k ≤ m → py_Go X RX8 cX8_copy 7 2 92 [some (.ref 47), some (.int (nI a)), some (.int (nI i)), some (.int (nI b)), some (.int (nI j)), some (.int (nI m)), some (.int (nI k))] [] (py_row σ 51 (va_cpy (σ 50) (σ 51) (40 * a + i) 0 (k))) (py_vs (some (.int (an_copy R xa xi xb xj xn))) (fun s => py_IM s (nr_copy R xa xi xb xj xn) (nq_copy R q xa xi xb xj xn) B N ft H n As I0 I1 t tr ∧ py_fr py_SM [] σ s)) := by
    intro a b i j m hF
    obtain ⟨ha, hb, hla, hlb, hel, hia, hjb, ha40, hb40, hxa, hxb, hxi, hxj, hxn⟩ := hF
    subst hxa hxb hxi hxj hxn
    have haI : (nI a).toInt = (a : Int) := nI_toInt (by omega)
    have hbI : (nI b).toInt = (b : Int) := nI_toInt (by omega)
    have hiI : (nI i).toInt = (i : Int) := nI_toInt (by omega)
    have hjI : (nI j).toInt = (j : Int) := nI_toInt (by omega)
    have hmI : (nI m).toInt = (m : Int) := nI_toInt (by omega)
    have haC : (nI a).toNatClampNeg = a := nI_clamp (by omega)
    have hbC : (nI b).toNatClampNeg = b := nI_clamp (by omega)
    have hiC : (nI i).toNatClampNeg = i := nI_clamp (by omega)
    have hjC : (nI j).toNatClampNeg = j := nI_clamp (by omega)
    have hmC : (nI m).toNatClampNeg = m := nI_clamp (by omega)
    have hua1 : R.1 (nI a).toNatClampNeg = R.1 a := by rw [haC]
    have hub1 : R.1 (nI b).toNatClampNeg = R.1 b := by rw [hbC]
    have hua2 : R.2.1 (nI a).toNatClampNeg = R.2.1 a := by rw [haC]
    have hub2 : R.2.1 (nI b).toNatClampNeg = R.2.1 b := by rw [hbC]
    refine py_loop _ m (fun k hk ih => ?_)
    refine go_iload (pc := 92) dX8_copy_92 rfl ?_
    refine go_iload (pc := 94) dX8_copy_94 rfl ?_
    refine go_icmp_geN (tgt := 126) (pc := 96) dX8_copy_96 (by omega) (by omega) (by decide) (fun c_96 => ?_) (fun c_96 => ?_)
    · refine go_iconst (v := nI 0) (pc := 126) dX8_copy_126 (by decide) ?_
      refine go_istore (pc := 127) dX8_copy_127 (by decide) rfl ?_
      have e8 := loop2 a b i j m ⟨ha, hb, hla, hlb, hel, hia, hjb, ha40, hb40, rfl, rfl, rfl, rfl, rfl⟩ 0 (by omega)
      rw [py_cpy_0, py_row_i2 (show σ 50 = (py_row σ 51 (va_cpy (σ 50) (σ 51) (40 * a + i) 0 (m))) 50 by rw [py_row_ne _ _ (by decide)])] at e8
      rw [show k = m by omega]
      exact e8
    · refine go_aload_n (pc := 99) dX8_copy_99 rfl ?_
      refine go_getR (pc := 100) dX8_copy_100 fX8_19 rfl rfl ?_
      refine go_iload (pc := 103) dX8_copy_103 rfl ?_
      refine go_aload_n (pc := 105) dX8_copy_105 rfl ?_
      refine go_getR (pc := 106) dX8_copy_106 fX8_16 rfl rfl ?_
      refine go_bipush (v := nI 40) (pc := 109) dX8_copy_109 (by decide) ?_
      refine go_iload_n (pc := 111) dX8_copy_111 rfl ?_
      refine go_imulN (pc := 112) dX8_copy_112  ?_
      refine go_iload_n (pc := 113) dX8_copy_113 rfl ?_
      refine go_iaddN (pc := 114) dX8_copy_114  ?_
      refine go_iload (pc := 115) dX8_copy_115 rfl ?_
      refine go_iaddN (pc := 117) dX8_copy_117  ?_
      refine go_aldN (x := (σ 50 (((40 * a) + i) + k))) (pc := 118) dX8_copy_118 rfl (by show ((40 * a) + i) + k < 320; omega) (by rw [py_row_ne _ _ (by decide)]) ?_
      refine go_astN (pc := 119) dX8_copy_119 rfl (by show k < 40; omega) ?_
      refine go_iincN (c := 1) (pc := 120) dX8_copy_120 rfl (by decide) (by decide) rfl ?_
      refine go_goto (tgt := 92) (pc := 123) dX8_copy_123 (by decide) ?_
      rw [py_up_row]
      have e7 := py_cpy_s (σ 50) (σ 51) (40 * a + i) 0 k
      rw [Nat.zero_add] at e7
      rw [e7]
      exact ih (by omega)
  refine go_iload_n (pc := 0) dX8_copy_0 rfl ?_
  refine go_cS (pc := 1) dX8_copy_1 ev_misRow lX8_63 YX8_isRow SX8_isRow rfl (by decide) rfl (Nat.le_of_ble_eq_true rfl) ?_
  refine go_if_eqB (tgt := 14) (pc := 4) dX8_copy_4 (by decide) (fun c_4 => ?_) (fun c_4 => ?_)
  · refine go_ldc (pc := 14) dX8_copy_14 kX8_67 ?_
    have e1 : nr_copy R ((xa)) ((xi)) ((xb)) ((xj)) ((xn)) = R := by unfold nr_copy; rw [if_neg (by omega)]
    have e2 : nq_copy R q ((xa)) ((xi)) ((xb)) ((xj)) ((xn)) = q := by unfold nq_copy; (repeat' split) <;> first | rfl | omega
    exact go_retI (pc := 16) dX8_copy_16 (by unfold an_copy; (repeat' split) <;> first | rfl | omega) ⟨by rw [e1, e2]; exact hI, py_fr.rf _ _ σ⟩
  · obtain ⟨a, rfl, ha, haI, haC⟩ := py_pi_of (x := xa) c_4
    have hRa := h1 a ha
    have hua1 : R.1 (nI a).toNatClampNeg = R.1 a := by rw [haC]
    have hua2 : R.2.1 (nI a).toNatClampNeg = R.2.1 a := by rw [haC]
    refine go_iload_n (pc := 7) dX8_copy_7 rfl ?_
    refine go_cS (pc := 8) dX8_copy_8 ev_misRow lX8_63 YX8_isRow SX8_isRow rfl (by decide) rfl (Nat.le_of_ble_eq_true rfl) ?_
    refine go_if_neB (tgt := 17) (pc := 11) dX8_copy_11 (by decide) (fun c_11 => ?_) (fun c_11 => ?_)
    · obtain ⟨b, rfl, hb, hbI, hbC⟩ := py_pi_of (x := xb) c_11
      have hRb := h1 b hb
      have hub1 : R.1 (nI b).toNatClampNeg = R.1 b := by rw [hbC]
      have hub2 : R.2.1 (nI b).toNatClampNeg = R.2.1 b := by rw [hbC]
      refine go_aload_n (pc := 17) dX8_copy_17 rfl ?_
      refine go_iload_n (pc := 18) dX8_copy_18 rfl ?_
      refine go_cV (pc := 19) dX8_copy_19 (ev_misMissing ha hRa.2.1 hRa.1) lX8_75 YX8_isMissing VX8_isMissing rfl rfl rfl (by decide) rfl (Nat.le_of_ble_eq_true rfl) ?_
      refine go_if_neB (tgt := 33) (pc := 22) dX8_copy_22 (by decide) (fun c_22 => ?_) (fun c_22 => ?_)
      · refine go_aload_n (pc := 33) dX8_copy_33 rfl ?_
        refine go_iconst (v := nI 1) (pc := 34) dX8_copy_34 (by decide) ?_
        refine go_cVi (pc := 35) dX8_copy_35 ev_mfound lX8_68 YX8_found VX8_found rfl rfl rfl (by decide) rfl (Nat.le_of_ble_eq_true rfl) (fun sf ef => ?_)
        have e1 : nr_copy R ((nI a)) ((xi)) ((nI b)) ((xj)) ((xn)) = R := by unfold nr_copy; rw [if_neg (by omega)]
        subst ef
        refine go_retI (pc := 38) dX8_copy_38 (by unfold an_copy; (repeat' split) <;> first | rfl | omega) ⟨?_, ((py_fr.rf [] [(47, 4)] σ).ut (by decide) _).wd (by decide) (by decide)⟩
        rw [e1]
        refine ⟨py_rk_fr ((py_fr.rf [] [(47, 4)] σ).ut (by decide) _) (by decide) h1, ?_, py_tm_fr ((py_fr.rf [] [(47, 4)] σ).ut (by decide) _) (by decide) h3, (by rw [((py_fr.rf [] [(47, 4)] σ).ut (by decide) _) 47 7 (by decide) (by decide)]; exact h4), (by rw [((py_fr.rf [] [(47, 4)] σ).ut (by decide) _).at 53 (by decide) (by decide)]; exact h5), py_am_fr ((py_fr.rf [] [(47, 4)] σ).ut (by decide) _) (by decide) h6, py_ik_fr ((py_fr.rf [] [(47, 4)] σ).ut (by decide) _) (by decide) h7, py_ik_fr ((py_fr.rf [] [(47, 4)] σ).ut (by decide) _) (by decide) h8, py_tn_fr ((py_fr.rf [] [(47, 4)] σ).ut (by decide) _) (by decide) h9⟩
        rw [py_up_s]
        unfold nq_copy; (repeat' split) <;> first | rfl | omega
      · refine go_aload_n (pc := 25) dX8_copy_25 rfl ?_
        refine go_iload_n (pc := 26) dX8_copy_26 rfl ?_
        refine go_cV (pc := 27) dX8_copy_27 (ev_misMissing hb hRb.2.1 hRb.1) lX8_75 YX8_isMissing VX8_isMissing rfl rfl rfl (by decide) rfl (Nat.le_of_ble_eq_true rfl) ?_
        refine go_if_eqB (tgt := 39) (pc := 30) dX8_copy_30 (by decide) (fun c_30 => ?_) (fun c_30 => ?_)
        · refine go_aload_n (pc := 39) dX8_copy_39 rfl ?_
          refine go_getR (pc := 40) dX8_copy_40 fX8_7 rfl rfl ?_
          refine go_iload_n (pc := 43) dX8_copy_43 rfl ?_
          refine go_aldN (x := (if R.1 a = 3 then (-1000000 : Int32) else nI (R.1 a))) (pc := 44) dX8_copy_44 rfl (by show a < 8; omega) hRa.2.1 ?_
          refine go_aload_n (pc := 45) dX8_copy_45 rfl ?_
          refine go_getR (pc := 46) dX8_copy_46 fX8_7 rfl rfl ?_
          refine go_iload_n (pc := 49) dX8_copy_49 rfl ?_
          refine go_aldN (x := (if R.1 b = 3 then (-1000000 : Int32) else nI (R.1 b))) (pc := 50) dX8_copy_50 rfl (by show b < 8; omega) hRb.2.1 ?_
          refine go_icmp_eq (tgt := 60) (pc := 51) dX8_copy_51 (by decide) (fun c_51 => ?_) (fun c_51 => ?_)
          · have hel := (py_lm_e hRa.1 hRb.1).mp c_51
            have hMa := hRa.2.2 (by omega)
            have hMb := hRb.2.2 (by omega)
            refine go_aload_n (pc := 60) dX8_copy_60 rfl ?_
            refine go_iload_n (pc := 61) dX8_copy_61 rfl ?_
            refine go_iload_n (pc := 62) dX8_copy_62 rfl ?_
            refine go_iload (pc := 63) dX8_copy_63 rfl ?_
            refine go_cV (pc := 65) dX8_copy_65 (ev_isPart ha hMa.2.1 hMa.1) lX8_82 YX8_isPart VX8_isPart rfl rfl rfl (by decide) rfl (Nat.le_of_ble_eq_true rfl) ?_
            refine go_if_eqB (tgt := 83) (pc := 68) dX8_copy_68 (by decide) (fun c_68 => ?_) (fun c_68 => ?_)
            · refine go_aload_n (pc := 83) dX8_copy_83 rfl ?_
              refine go_iconst (v := nI 2) (pc := 84) dX8_copy_84 (by decide) ?_
              refine go_cVi (pc := 85) dX8_copy_85 ev_mfound lX8_68 YX8_found VX8_found rfl rfl rfl (by decide) rfl (Nat.le_of_ble_eq_true rfl) (fun sf ef => ?_)
              have e1 : nr_copy R ((nI a)) ((xi)) ((nI b)) ((xj)) ((xn)) = R := by unfold nr_copy; rw [if_neg (by omega)]
              subst ef
              refine go_retI (pc := 88) dX8_copy_88 (by unfold an_copy; (repeat' split) <;> first | rfl | omega) ⟨?_, ((py_fr.rf [] [(47, 4)] σ).ut (by decide) _).wd (by decide) (by decide)⟩
              rw [e1]
              refine ⟨py_rk_fr ((py_fr.rf [] [(47, 4)] σ).ut (by decide) _) (by decide) h1, ?_, py_tm_fr ((py_fr.rf [] [(47, 4)] σ).ut (by decide) _) (by decide) h3, (by rw [((py_fr.rf [] [(47, 4)] σ).ut (by decide) _) 47 7 (by decide) (by decide)]; exact h4), (by rw [((py_fr.rf [] [(47, 4)] σ).ut (by decide) _).at 53 (by decide) (by decide)]; exact h5), py_am_fr ((py_fr.rf [] [(47, 4)] σ).ut (by decide) _) (by decide) h6, py_ik_fr ((py_fr.rf [] [(47, 4)] σ).ut (by decide) _) (by decide) h7, py_ik_fr ((py_fr.rf [] [(47, 4)] σ).ut (by decide) _) (by decide) h8, py_tn_fr ((py_fr.rf [] [(47, 4)] σ).ut (by decide) _) (by decide) h9⟩
              rw [py_up_s]
              unfold nq_copy; (repeat' split) <;> first | rfl | omega
            · refine go_aload_n (pc := 71) dX8_copy_71 rfl ?_
              refine go_iload_n (pc := 72) dX8_copy_72 rfl ?_
              refine go_iload (pc := 73) dX8_copy_73 rfl ?_
              refine go_iload (pc := 75) dX8_copy_75 rfl ?_
              refine go_cV (pc := 77) dX8_copy_77 (ev_isPart hb hMb.2.1 hMb.1) lX8_82 YX8_isPart VX8_isPart rfl rfl rfl (by decide) rfl (Nat.le_of_ble_eq_true rfl) ?_
              refine go_if_neB (tgt := 89) (pc := 80) dX8_copy_80 (by decide) (fun c_80 => ?_) (fun c_80 => ?_)
              · obtain ⟨i, rfl, hi0, hi, hiI, hiC⟩ := py_rg_of (x := xi) (a := 0) (b := 40) ⟨by omega, by omega⟩
                obtain ⟨j, rfl, hj0, hj, hjI, hjC⟩ := py_rg_of (x := xj) (a := 0) (b := 40) ⟨by omega, by omega⟩
                obtain ⟨m, rfl, hm0, hm4, hmI, hmC⟩ := py_rg_of (x := xn) (a := 0) (b := 40) ⟨by omega, by omega⟩
                refine go_iconst (v := nI 0) (pc := 89) dX8_copy_89 (by decide) ?_
                refine go_istore (pc := 90) dX8_copy_90 (by decide) rfl ?_
                have e8 := loop1 a b i j m ⟨ha, hb, by omega, by omega, hel, by omega, by omega, hMa.1, hMb.1, rfl, rfl, rfl, rfl, rfl⟩ 0 (by omega)
                rw [py_cpy_0, py_row_id] at e8
                exact e8
              · refine go_aload_n (pc := 83) dX8_copy_83 rfl ?_
                refine go_iconst (v := nI 2) (pc := 84) dX8_copy_84 (by decide) ?_
                refine go_cVi (pc := 85) dX8_copy_85 ev_mfound lX8_68 YX8_found VX8_found rfl rfl rfl (by decide) rfl (Nat.le_of_ble_eq_true rfl) (fun sf ef => ?_)
                have e1 : nr_copy R ((nI a)) ((xi)) ((nI b)) ((xj)) ((xn)) = R := by unfold nr_copy; rw [if_neg (by omega)]
                subst ef
                refine go_retI (pc := 88) dX8_copy_88 (by unfold an_copy; (repeat' split) <;> first | rfl | omega) ⟨?_, ((py_fr.rf [] [(47, 4)] σ).ut (by decide) _).wd (by decide) (by decide)⟩
                rw [e1]
                refine ⟨py_rk_fr ((py_fr.rf [] [(47, 4)] σ).ut (by decide) _) (by decide) h1, ?_, py_tm_fr ((py_fr.rf [] [(47, 4)] σ).ut (by decide) _) (by decide) h3, (by rw [((py_fr.rf [] [(47, 4)] σ).ut (by decide) _) 47 7 (by decide) (by decide)]; exact h4), (by rw [((py_fr.rf [] [(47, 4)] σ).ut (by decide) _).at 53 (by decide) (by decide)]; exact h5), py_am_fr ((py_fr.rf [] [(47, 4)] σ).ut (by decide) _) (by decide) h6, py_ik_fr ((py_fr.rf [] [(47, 4)] σ).ut (by decide) _) (by decide) h7, py_ik_fr ((py_fr.rf [] [(47, 4)] σ).ut (by decide) _) (by decide) h8, py_tn_fr ((py_fr.rf [] [(47, 4)] σ).ut (by decide) _) (by decide) h9⟩
                rw [py_up_s]
                unfold nq_copy; (repeat' split) <;> first | rfl | omega
          · have hel : ¬ R.1 a = R.1 b := fun z => c_51 ((py_lm_e hRa.1 hRb.1).mpr z)
            refine go_aload_n (pc := 54) dX8_copy_54 rfl ?_
            refine go_iconst (v := nI 5) (pc := 55) dX8_copy_55 (by decide) ?_
            refine go_cVi (pc := 56) dX8_copy_56 ev_mfound lX8_68 YX8_found VX8_found rfl rfl rfl (by decide) rfl (Nat.le_of_ble_eq_true rfl) (fun sf ef => ?_)
            have e1 : nr_copy R ((nI a)) ((xi)) ((nI b)) ((xj)) ((xn)) = R := by unfold nr_copy; rw [if_neg (by omega)]
            subst ef
            refine go_retI (pc := 59) dX8_copy_59 (by unfold an_copy; (repeat' split) <;> first | rfl | omega) ⟨?_, ((py_fr.rf [] [(47, 4)] σ).ut (by decide) _).wd (by decide) (by decide)⟩
            rw [e1]
            refine ⟨py_rk_fr ((py_fr.rf [] [(47, 4)] σ).ut (by decide) _) (by decide) h1, ?_, py_tm_fr ((py_fr.rf [] [(47, 4)] σ).ut (by decide) _) (by decide) h3, (by rw [((py_fr.rf [] [(47, 4)] σ).ut (by decide) _) 47 7 (by decide) (by decide)]; exact h4), (by rw [((py_fr.rf [] [(47, 4)] σ).ut (by decide) _).at 53 (by decide) (by decide)]; exact h5), py_am_fr ((py_fr.rf [] [(47, 4)] σ).ut (by decide) _) (by decide) h6, py_ik_fr ((py_fr.rf [] [(47, 4)] σ).ut (by decide) _) (by decide) h7, py_ik_fr ((py_fr.rf [] [(47, 4)] σ).ut (by decide) _) (by decide) h8, py_tn_fr ((py_fr.rf [] [(47, 4)] σ).ut (by decide) _) (by decide) h9⟩
            rw [py_up_s]
            unfold nq_copy; (repeat' split) <;> first | rfl | omega
        · refine go_aload_n (pc := 33) dX8_copy_33 rfl ?_
          refine go_iconst (v := nI 1) (pc := 34) dX8_copy_34 (by decide) ?_
          refine go_cVi (pc := 35) dX8_copy_35 ev_mfound lX8_68 YX8_found VX8_found rfl rfl rfl (by decide) rfl (Nat.le_of_ble_eq_true rfl) (fun sf ef => ?_)
          have e1 : nr_copy R ((nI a)) ((xi)) ((nI b)) ((xj)) ((xn)) = R := by unfold nr_copy; rw [if_neg (by omega)]
          subst ef
          refine go_retI (pc := 38) dX8_copy_38 (by unfold an_copy; (repeat' split) <;> first | rfl | omega) ⟨?_, ((py_fr.rf [] [(47, 4)] σ).ut (by decide) _).wd (by decide) (by decide)⟩
          rw [e1]
          refine ⟨py_rk_fr ((py_fr.rf [] [(47, 4)] σ).ut (by decide) _) (by decide) h1, ?_, py_tm_fr ((py_fr.rf [] [(47, 4)] σ).ut (by decide) _) (by decide) h3, (by rw [((py_fr.rf [] [(47, 4)] σ).ut (by decide) _) 47 7 (by decide) (by decide)]; exact h4), (by rw [((py_fr.rf [] [(47, 4)] σ).ut (by decide) _).at 53 (by decide) (by decide)]; exact h5), py_am_fr ((py_fr.rf [] [(47, 4)] σ).ut (by decide) _) (by decide) h6, py_ik_fr ((py_fr.rf [] [(47, 4)] σ).ut (by decide) _) (by decide) h7, py_ik_fr ((py_fr.rf [] [(47, 4)] σ).ut (by decide) _) (by decide) h8, py_tn_fr ((py_fr.rf [] [(47, 4)] σ).ut (by decide) _) (by decide) h9⟩
          rw [py_up_s]
          unfold nq_copy; (repeat' split) <;> first | rfl | omega
    · refine go_ldc (pc := 14) dX8_copy_14 kX8_67 ?_
      have e1 : nr_copy R ((nI a)) ((xi)) ((xb)) ((xj)) ((xn)) = R := by unfold nr_copy; rw [if_neg (by omega)]
      have e2 : nq_copy R q ((nI a)) ((xi)) ((xb)) ((xj)) ((xn)) = q := by unfold nq_copy; (repeat' split) <;> first | rfl | omega
      exact go_retI (pc := 16) dX8_copy_16 (by unfold an_copy; (repeat' split) <;> first | rfl | omega) ⟨by rw [e1, e2]; exact hI, py_fr.rf _ _ σ⟩
