/-! contracts: the reference's small methods -/
theorem py_hm_at {f : Nat → Int32} {G : Nat → Nat} {i j : Nat} (h : py_hm f 0 G) (e : i = j) (hj : j < 33) : f i = nI (G j) := by
  subst e
  have z := h i hj
  rw [Nat.zero_add] at z
  exact z
/-- what a house must keep to for its years to go -/
def py_wm (G : Nat → Nat) : Prop := G 12 ≤ 5 ∧ G 3 ≤ 4 ∧ G 2 ≤ 5000 ∧ (∀ w, w < G 3 → G (4 + 2 * w) ≤ 9 ∧ G (5 + 2 * w) ≤ 9) ∧ (∀ p, p < G 12 → G (13 + 4 * p) ≤ 5 ∧ 1 ≤ G (14 + 4 * p) ∧ G (14 + 4 * p) ≤ 9 ∧ G (15 + 4 * p) ≤ 60 ∧ G (16 + 4 * p) < G 3)
theorem py_wm_of {H : Nat → Nat} (hw : py_wf H) : py_wm H := by
  obtain ⟨w0, w1, w2, w3, w12, w03, w00, wW, wP, wR⟩ := hw
  exact ⟨w12, w3, by omega, wW, fun p hp => ⟨(wP p hp).2.1, (wP p hp).2.2.1, (wP p hp).2.2.2.1, (wP p hp).2.2.2.2.1, (wP p hp).2.2.2.2.2⟩⟩
theorem py_cpy_s (f g : Nat → Int32) (a b i : Nat) : upd (va_cpy f g a b i) (b + i) (f (a + i)) = va_cpy f g a b (i + 1) := by
  funext j
  by_cases h : j = b + i
  · subst h
    rw [pk_us, pk_cpy_in (by omega) (by omega), show a + (b + i - b) = a + i by omega]
  · rw [pk_un h]
    by_cases h2 : b ≤ j ∧ j < b + i
    · rw [pk_cpy_in h2.1 h2.2, pk_cpy_in h2.1 (by omega)]
    · rw [pk_cpy_out (by omega), pk_cpy_out (by omega)]
theorem py_cpy_0 (f g : Nat → Int32) (a b : Nat) : va_cpy f g a b 0 = g := by
  funext j
  rw [pk_cpy_out (by omega)]
theorem py_hm_cpy {f g : Nat → Int32} {G : Nat → Nat} {a b : Nat} (h : py_hm f a G) : py_hm (va_cpy f g a b 33) b G := fun j hj => by
  rw [pk_cpy_in (by omega) (by omega), show a + (b + j - b) = a + j by omega]
  exact h j hj
theorem py_cn_b {t i : Nat} : py_cn (py_bit t) i + t / 2 ^ i % 2 = py_cn (py_bit t) (i + 1) := by
  show _ = py_cn (py_bit t) i + (if py_bit t i then 1 else 0)
  unfold py_bit
  by_cases h : t / 2 ^ i % 2 = 1
  · rw [if_pos (decide_eq_true h), h]
  · rw [if_neg (by rw [decide_eq_true_eq]; exact h)]
    omega
theorem py_pc8 {t : Nat} (ht : t < 32) : py_cn (py_bit t) 8 = py_pc t := by
  have e : ∀ p, 5 ≤ p → py_bit t p = false := fun p hp => py_bit_hi (n := 5) ht hp
  rw [← py_cn_f (e 7 (by decide)), ← py_cn_f (e 6 (by decide)), ← py_cn_f (e 5 (by decide))]
  rfl
set_option maxHeartbeats 4000000 in
set_option maxRecDepth 100000 in
theorem ev_in {X : py_X} {σ : py_H} {x a b : Int32} : py_Ev X 0 yX8_in cX8_in 3 (some .boolean) [.int (x), .int (a), .int (b)] σ (py_ret (.int (py_b (a.toInt ≤ x.toInt ∧ x.toInt ≤ b.toInt))) σ) := by
  refine py_ofZ (own := RX8) YX8_in.2.2.2.2 rfl rfl (Nat.le_of_ble_eq_true rfl) py_b_ok ?_
  show py_Go X RX8 cX8_in 3 0 0 [some (.int (x)), some (.int (a)), some (.int (b))] [] σ (py_ret (.int (py_b (a.toInt ≤ x.toInt ∧ x.toInt ≤ b.toInt))) σ)
  refine go_iload_n (pc := 0) dX8_in_0 rfl ?_
  refine go_iload_n (pc := 1) dX8_in_1 rfl ?_
  refine go_icmp_ltJI (tgt := 14) (pc := 2) dX8_in_2  (by decide) (fun c_2 => ?_) (fun c_2 => ?_)
  · refine go_iconst (v := nI 0) (pc := 14) dX8_in_14 (by decide) ?_
    exact go_retI (pc := 15) dX8_in_15 (py_b_f (by omega)).symm rfl
  · refine go_iload_n (pc := 5) dX8_in_5 rfl ?_
    refine go_iload_n (pc := 6) dX8_in_6 rfl ?_
    refine go_icmp_gtJI (tgt := 14) (pc := 7) dX8_in_7  (by decide) (fun c_7 => ?_) (fun c_7 => ?_)
    · refine go_iconst (v := nI 0) (pc := 14) dX8_in_14 (by decide) ?_
      exact go_retI (pc := 15) dX8_in_15 (py_b_f (by omega)).symm rfl
    · refine go_iconst (v := nI 1) (pc := 10) dX8_in_10 (by decide) ?_
      refine go_goto (tgt := 15) (pc := 11) dX8_in_11 (by decide) ?_
      exact go_retI (pc := 15) dX8_in_15 (py_b_t (by omega)).symm rfl
theorem ev_inN {X : py_X} {σ : py_H} {x : Int32} {a b : Nat} (ha : a < 2 ^ 31 := by decide) (hb : b < 2 ^ 31 := by decide) : py_Ev X 0 yX8_in cX8_in 3 (some .boolean) [.int x, .int (nI a), .int (nI b)] σ (py_ret (.int (py_b ((a : Int) ≤ x.toInt ∧ x.toInt ≤ (b : Int)))) σ) := by
  have h := ev_in (X := X) (σ := σ) (x := x) (a := nI a) (b := nI b)
  rw [nI_toInt ha, nI_toInt hb] at h
  exact h
set_option maxHeartbeats 4000000 in
set_option maxRecDepth 100000 in
theorem ev_has {X : py_X} {σ : py_H} {t k : Nat} (ht : t < 2 ^ 31) (hk : k < 31) : py_Ev X 0 yX8_has cX8_has 2 (some .boolean) [.int (nI t), .int (nI k)] σ (py_ret (.int (py_b (py_bit t k = true))) σ) := by
  refine py_ofZ (own := RX8) YX8_has.2.2.2.2 rfl rfl (Nat.le_of_ble_eq_true rfl) py_b_ok ?_
  show py_Go X RX8 cX8_has 2 0 0 [some (.int (nI t)), some (.int (nI k))] [] σ (py_ret (.int (py_b (py_bit t k = true))) σ)
  refine go_iload_n (pc := 0) dX8_has_0 rfl ?_
  refine go_iload_n (pc := 1) dX8_has_1 rfl ?_
  refine go_ishr (pc := 2) dX8_has_2 ?_
  refine go_iconst (v := nI 1) (pc := 3) dX8_has_3 (by decide) ?_
  refine go_iand (pc := 4) dX8_has_4 ?_
  refine go_top (y := nI (t / 2 ^ k % 2)) (py_shr1 ht hk) ?_
  refine go_iconst (v := nI 1) (pc := 5) dX8_has_5 (by decide) ?_
  have hb2 : t / 2 ^ k % 2 < 2 := Nat.mod_lt _ (by decide)
  refine go_icmp_neN (tgt := 13) (pc := 6) dX8_has_6 (by omega) (by omega) (by decide) (fun c_6 => ?_) (fun c_6 => ?_)
  · refine go_iconst (v := nI 0) (pc := 13) dX8_has_13 (by decide) ?_
    exact go_retI (pc := 14) dX8_has_14 (py_b_f (fun z => c_6 (of_decide_eq_true z))).symm rfl
  · refine go_iconst (v := nI 1) (pc := 9) dX8_has_9 (by decide) ?_
    refine go_goto (tgt := 14) (pc := 10) dX8_has_10 (by decide) ?_
    exact go_retI (pc := 14) dX8_has_14 (py_b_t (decide_eq_true c_6)).symm rfl
set_option maxHeartbeats 4000000 in
set_option maxRecDepth 100000 in
theorem ev_ones {X : py_X} {σ : py_H} {t : Nat} (ht : t < 32) : py_Ev X 0 yX8_ones cX8_ones 3 (some .int) [.int (nI t)] σ (py_ret (.int (nI (py_pc t))) σ) := by
  refine py_ofI (own := RX8) YX8_ones.2.2.2.2 rfl rfl (Nat.le_of_ble_eq_true rfl)  ?_
  show py_Go X RX8 cX8_ones 3 0 0 [some (.int (nI t)), none, none] [] σ (py_ret (.int (nI (py_pc t))) σ)
  have loop : ∀ i, i ≤ 8 → py_Go X RX8 cX8_ones 3 0 4 [some (.int (nI t)), some (.int (nI (py_cn (py_bit t) i))), some (.int (nI i))] [] σ (py_ret (.int (nI (py_pc t))) σ) := by
    refine py_loop _ (8) (fun i hi ih  => ?_)
    refine go_iload_n (pc := 4) dX8_ones_4 rfl ?_
    refine go_bipush (v := nI 8) (pc := 5) dX8_ones_5 (by decide) ?_
    refine go_icmp_geN (tgt := 24) (pc := 7) dX8_ones_7 (by omega) (by omega) (by decide) (fun c_7 => ?_) (fun c_7 => ?_)
    · refine go_iload_n (pc := 24) dX8_ones_24 rfl ?_
      exact go_retI (pc := 25) dX8_ones_25 (by rw [show i = 8 by omega, py_pc8 ht]) rfl
    · refine go_iload_n (pc := 10) dX8_ones_10 rfl ?_
      refine go_iload_n (pc := 11) dX8_ones_11 rfl ?_
      refine go_iload_n (pc := 12) dX8_ones_12 rfl ?_
      refine go_ishr (pc := 13) dX8_ones_13 ?_
      refine go_iconst (v := nI 1) (pc := 14) dX8_ones_14 (by decide) ?_
      refine go_iand (pc := 15) dX8_ones_15 ?_
      refine go_top (y := nI (t / 2 ^ i % 2)) (py_shr1 (by omega) (by omega)) ?_
      refine go_iaddN (pc := 16) dX8_ones_16  ?_
      refine go_istore_n (pc := 17) dX8_ones_17 (by decide) rfl ?_
      refine go_iincN (c := 1) (pc := 18) dX8_ones_18 rfl (by decide) (by decide) rfl ?_
      refine go_goto (tgt := 4) (pc := 21) dX8_ones_21 (by decide) ?_
      have e8 := ih (by omega)
      rw [← py_cn_b] at e8
      exact e8
  refine go_iconst (v := nI 0) (pc := 0) dX8_ones_0 (by decide) ?_
  refine go_istore_n (pc := 1) dX8_ones_1 (by decide) rfl ?_
  refine go_iconst (v := nI 0) (pc := 2) dX8_ones_2 (by decide) ?_
  refine go_istore_n (pc := 3) dX8_ones_3 (by decide) rfl ?_
  exact loop 0 (by omega)
set_option maxHeartbeats 4000000 in
set_option maxRecDepth 100000 in
theorem ev_mfound {X : py_X} {σ : py_H} {x : Int32} : py_Ev X 0 yX8_found cX8_found 2 (some .int) [.ref 47, .int (x)] σ (py_ret (.int (-1000010 - x)) (py_up σ 47 4 x)) := by
  refine py_ofI (own := RX8) YX8_found.2.2.2.2 rfl rfl (Nat.le_of_ble_eq_true rfl)  ?_
  show py_Go X RX8 cX8_found 2 0 0 [some (.ref 47), some (.int (x))] [] σ (py_ret (.int (-1000010 - x)) (py_up σ 47 4 x))
  refine go_aload_n (pc := 0) dX8_found_0 rfl ?_
  refine go_iload_n (pc := 1) dX8_found_1 rfl ?_
  refine go_putI (pc := 2) dX8_found_2 fX8_54 rfl rfl ?_
  refine go_ldc (pc := 5) dX8_found_5 kX8_58 ?_
  refine go_iload_n (pc := 7) dX8_found_7 rfl ?_
  refine go_isub (pc := 8) dX8_found_8  ?_
  exact go_retI (pc := 9) dX8_found_9 rfl rfl
set_option maxHeartbeats 4000000 in
set_option maxRecDepth 100000 in
theorem ev_mwell {X : py_X} {σ : py_H} {x : Int32} : py_Ev X 0 yX8_well cX8_well 2 (some .int) [.ref 47, .int (x)] σ (py_ret (.int (x)) (py_up σ 47 4 (nI 0))) := by
  refine py_ofI (own := RX8) YX8_well.2.2.2.2 rfl rfl (Nat.le_of_ble_eq_true rfl)  ?_
  show py_Go X RX8 cX8_well 2 0 0 [some (.ref 47), some (.int (x))] [] σ (py_ret (.int (x)) (py_up σ 47 4 (nI 0)))
  refine go_aload_n (pc := 0) dX8_well_0 rfl ?_
  refine go_iconst (v := nI 0) (pc := 1) dX8_well_1 (by decide) ?_
  refine go_putI (pc := 2) dX8_well_2 fX8_54 rfl rfl ?_
  refine go_iload_n (pc := 5) dX8_well_5 rfl ?_
  exact go_retI (pc := 6) dX8_well_6 rfl rfl
set_option maxHeartbeats 4000000 in
set_option maxRecDepth 100000 in
theorem ev_misRow {X : py_X} {σ : py_H} {x : Int32} : py_Ev X 1 yX8_isRow cX8_isRow 1 (some .boolean) [.int (x)] σ (py_ret (.int (py_b (py_pi x 8))) σ) := by
  refine py_ofZ (own := RX8) YX8_isRow.2.2.2.2 rfl rfl (Nat.le_of_ble_eq_true rfl) py_b_ok ?_
  show py_Go X RX8 cX8_isRow 1 1 0 [some (.int (x))] [] σ (py_ret (.int (py_b (py_pi x 8))) σ)
  refine go_iload_n (pc := 0) dX8_isRow_0 rfl ?_
  refine go_iconst (v := nI 0) (pc := 1) dX8_isRow_1 (by decide) ?_
  refine go_bipush (v := nI 7) (pc := 2) dX8_isRow_2 (by decide) ?_
  refine go_cS (pc := 4) dX8_isRow_4 ev_inN lX8_59 YX8_in SX8_in rfl (by decide) rfl (Nat.le_of_ble_eq_true rfl) ?_
  exact go_retI (pc := 7) dX8_isRow_7 (py_b_c (by omega)) rfl
set_option maxHeartbeats 4000000 in
set_option maxRecDepth 100000 in
theorem ev_misFar {X : py_X} {σ : py_H} {x : Int32} : py_Ev X 1 yX8_isFar cX8_isFar 1 (some .boolean) [.int (x)] σ (py_ret (.int (py_b (py_fa x))) σ) := by
  refine py_ofZ (own := RX8) YX8_isFar.2.2.2.2 rfl rfl (Nat.le_of_ble_eq_true rfl) py_b_ok ?_
  show py_Go X RX8 cX8_isFar 1 1 0 [some (.int (x))] [] σ (py_ret (.int (py_b (py_fa x))) σ)
  refine go_iload_n (pc := 0) dX8_isFar_0 rfl ?_
  refine go_iconst (v := nI 0) (pc := 1) dX8_isFar_1 (by decide) ?_
  refine go_bipush (v := nI 60) (pc := 2) dX8_isFar_2 (by decide) ?_
  refine go_cS (pc := 4) dX8_isFar_4 ev_inN lX8_59 YX8_in SX8_in rfl (by decide) rfl (Nat.le_of_ble_eq_true rfl) ?_
  exact go_retI (pc := 7) dX8_isFar_7 (py_b_c (by omega)) rfl
theorem py_lm_m {l : Nat} (h3 : l ≤ 3) : (if l = 3 then (-1000000 : Int32) else nI l) = -1000000 ↔ l = 3 := by
  rcases (show l = 0 ∨ l = 1 ∨ l = 2 ∨ l = 3 by omega) with h | h | h | h <;> subst h <;> decide
theorem py_lm_e {a b : Nat} (ha : a ≤ 3) (hb : b ≤ 3) : (if a = 3 then (-1000000 : Int32) else nI a) = (if b = 3 then (-1000000 : Int32) else nI b) ↔ a = b := by
  rcases (show a = 0 ∨ a = 1 ∨ a = 2 ∨ a = 3 by omega) with h | h | h | h <;> rcases (show b = 0 ∨ b = 1 ∨ b = 2 ∨ b = 3 by omega) with g | g | g | g <;> subst h <;> subst g <;> decide
set_option maxHeartbeats 4000000 in
set_option maxRecDepth 100000 in
theorem ev_misMissing {X : py_X} {σ : py_H} {r l : Nat} (hr : r < 8) (hl : σ 48 r = (if l = 3 then (-1000000 : Int32) else nI l)) (h3 : l ≤ 3) : py_Ev X 0 yX8_isMissing cX8_isMissing 2 (some .boolean) [.ref 47, .int (nI r)] σ (py_ret (.int (py_b (l = 3))) σ) := by
  refine py_ofZ (own := RX8) YX8_isMissing.2.2.2.2 rfl rfl (Nat.le_of_ble_eq_true rfl) py_b_ok ?_
  show py_Go X RX8 cX8_isMissing 2 0 0 [some (.ref 47), some (.int (nI r))] [] σ (py_ret (.int (py_b (l = 3))) σ)
  refine go_aload_n (pc := 0) dX8_isMissing_0 rfl ?_
  refine go_getR (pc := 1) dX8_isMissing_1 fX8_7 rfl rfl ?_
  refine go_iload_n (pc := 4) dX8_isMissing_4 rfl ?_
  refine go_aldN (x := (if l = 3 then (-1000000 : Int32) else nI l)) (pc := 5) dX8_isMissing_5 rfl (by show r < 8; omega) hl ?_
  refine go_ldc (pc := 6) dX8_isMissing_6 kX8_53 ?_
  refine go_icmp_ne (tgt := 15) (pc := 8) dX8_isMissing_8 (by decide) (fun c_8 => ?_) (fun c_8 => ?_)
  · refine go_iconst (v := nI 0) (pc := 15) dX8_isMissing_15 (by decide) ?_
    exact go_retI (pc := 16) dX8_isMissing_16 (py_b_f (fun z => c_8 ((py_lm_m h3).mpr z))).symm rfl
  · refine go_iconst (v := nI 1) (pc := 11) dX8_isMissing_11 (by decide) ?_
    refine go_goto (tgt := 16) (pc := 12) dX8_isMissing_12 (by decide) ?_
    exact go_retI (pc := 16) dX8_isMissing_16 (py_b_t ((py_lm_m h3).mp c_8)).symm rfl
theorem py_cut8 (v : Int32) : (v <<< (nI 24 &&& 31)) >>> (nI 24 &&& 31) = v.toInt8.toInt32 := by
  have e : nI 24 &&& 31 = 24 := by decide
  rw [e]
  apply Int32.toBitVec.inj
  rw [Int32.toBitVec_shiftRight, Int32.toBitVec_shiftLeft]
  apply BitVec.eq_of_getLsbD_eq
  intro i hi
  simp [BitVec.getLsbD_sshiftRight, BitVec.getLsbD_shiftLeft, BitVec.getLsbD_signExtend, BitVec.msb_eq_getLsbD_last]
  by_cases h : i < 8
  · simp [h, hi, show 24 + i < 32 by omega, show ¬ 32 ≤ i by omega]
  · simp [h, hi, show ¬ 24 + i < 32 by omega, show ¬ 32 ≤ i by omega, BitVec.getElem_signExtend]
theorem py_cut16 (v : Int32) : (v <<< (nI 16 &&& 31)) >>> (nI 16 &&& 31) = v.toInt16.toInt32 := by
  have e : nI 16 &&& 31 = 16 := by decide
  rw [e]
  apply Int32.toBitVec.inj
  rw [Int32.toBitVec_shiftRight, Int32.toBitVec_shiftLeft]
  apply BitVec.eq_of_getLsbD_eq
  intro i hi
  simp [BitVec.getLsbD_sshiftRight, BitVec.getLsbD_shiftLeft, BitVec.getLsbD_signExtend, BitVec.msb_eq_getLsbD_last]
  by_cases h : i < 16
  · simp [h, hi, show 16 + i < 32 by omega, show ¬ 32 ≤ i by omega]
  · simp [h, hi, show ¬ 16 + i < 32 by omega, show ¬ 32 ≤ i by omega, BitVec.getElem_signExtend]
set_option maxHeartbeats 4000000 in
set_option maxRecDepth 100000 in
theorem ev_mcut {X : py_X} {σ : py_H} {l : Nat} {v : Int32} (hl : l ≤ 2) : py_Ev X 0 yX8_cut cX8_cut 2 (some .int) [.int (nI l), .int (v)] σ (py_ret (.int (py_cut l v)) σ) := by
  refine py_ofI (own := RX8) YX8_cut.2.2.2.2 rfl rfl (Nat.le_of_ble_eq_true rfl)  ?_
  show py_Go X RX8 cX8_cut 2 0 0 [some (.int (nI l)), some (.int (v))] [] σ (py_ret (.int (py_cut l v)) σ)
  refine go_iload_n (pc := 0) dX8_cut_0 rfl ?_
  refine go_if_neN (tgt := 14) (pc := 1) dX8_cut_1 (by omega) (by decide) (fun c_1 => ?_) (fun c_1 => ?_)
  · refine go_iload_n (pc := 14) dX8_cut_14 rfl ?_
    refine go_iconst (v := nI 1) (pc := 15) dX8_cut_15 (by decide) ?_
    refine go_icmp_neN (tgt := 29) (pc := 16) dX8_cut_16 (by omega) (by omega) (by decide) (fun c_16 => ?_) (fun c_16 => ?_)
    · refine go_iload_n (pc := 29) dX8_cut_29 rfl ?_
      exact go_retI (pc := 30) dX8_cut_30 (by unfold py_cut; rw [if_neg (by omega), if_neg (by omega)]) rfl
    · refine go_iload_n (pc := 19) dX8_cut_19 rfl ?_
      refine go_bipush (v := nI 16) (pc := 20) dX8_cut_20 (by decide) ?_
      refine go_ishl (pc := 22) dX8_cut_22 ?_
      refine go_bipush (v := nI 16) (pc := 23) dX8_cut_23 (by decide) ?_
      refine go_ishr (pc := 25) dX8_cut_25 ?_
      refine go_goto (tgt := 30) (pc := 26) dX8_cut_26 (by decide) ?_
      exact go_retI (pc := 30) dX8_cut_30 (by unfold py_cut; rw [if_neg (by omega), if_pos (by omega), py_cut16]) rfl
  · have hl0 : l = 0 := by omega
    refine go_iload_n (pc := 4) dX8_cut_4 rfl ?_
    refine go_bipush (v := nI 24) (pc := 5) dX8_cut_5 (by decide) ?_
    refine go_ishl (pc := 7) dX8_cut_7 ?_
    refine go_bipush (v := nI 24) (pc := 8) dX8_cut_8 (by decide) ?_
    refine go_ishr (pc := 10) dX8_cut_10 ?_
    refine go_goto (tgt := 30) (pc := 11) dX8_cut_11 (by decide) ?_
    exact go_retI (pc := 30) dX8_cut_30 (by unfold py_cut; rw [if_pos (by omega), py_cut8]) rfl
set_option maxHeartbeats 4000000 in
set_option maxRecDepth 100000 in
theorem ev_copies_53_55 {X : py_X} {σ : py_H} : py_Ev X 0 yX8_copies cX8_copies 5 none [.ref 53, .int (nI 0), .ref 55, .int (nI 0)] σ (py_vs none (fun s => s = (py_row σ 55 (va_cpy (σ 53) (σ 55) (0) (0) 33)))) := by
  refine py_ofV (own := RX8) YX8_copies.2.2.2.2 rfl rfl (Nat.le_of_ble_eq_true rfl)  ?_
  show py_Go X RX8 cX8_copies 5 0 0 [some (.ref 53), some (.int (nI 0)), some (.ref 55), some (.int (nI 0)), none] [] σ (py_vs none (fun s => s = (py_row σ 55 (va_cpy (σ 53) (σ 55) (0) (0) 33))))
  have loop : ∀ i, i ≤ 33 → py_Go X RX8 cX8_copies 5 0 3 [some (.ref 53), some (.int (nI 0)), some (.ref 55), some (.int (nI 0)), some (.int (nI i))] [] (py_row σ 55 (va_cpy (σ 53) (σ 55) (0) (0) (i))) (py_vs none (fun s => s = (py_row σ 55 (va_cpy (σ 53) (σ 55) (0) (0) 33)))) := by
    refine py_loop _ (33) (fun i hi ih  => ?_)
    refine go_iload (pc := 3) dX8_copies_3 rfl ?_
    refine go_bipush (v := nI 33) (pc := 5) dX8_copies_5 (by decide) ?_
    refine go_icmp_geN (tgt := 28) (pc := 7) dX8_copies_7 (by omega) (by omega) (by decide) (fun c_7 => ?_) (fun c_7 => ?_)
    · exact go_retV (pc := 28) dX8_copies_28 (by rw [show i = 33 by omega])
    · refine go_aload_n (pc := 10) dX8_copies_10 rfl ?_
      refine go_iload_n (pc := 11) dX8_copies_11 rfl ?_
      refine go_iload (pc := 12) dX8_copies_12 rfl ?_
      refine go_iaddN (pc := 14) dX8_copies_14  ?_
      refine go_aload_n (pc := 15) dX8_copies_15 rfl ?_
      refine go_iload_n (pc := 16) dX8_copies_16 rfl ?_
      refine go_iload (pc := 17) dX8_copies_17 rfl ?_
      refine go_iaddN (pc := 19) dX8_copies_19  ?_
      refine go_aldN (x := (σ 53 (0 + i))) (pc := 20) dX8_copies_20 rfl (by show 0 + i < 33; omega) (by rw [py_row_ne _ _ (by decide)]) ?_
      refine go_astN (pc := 21) dX8_copies_21 rfl (by show 0 + i < 33; omega) ?_
      refine go_iincN (c := 1) (pc := 22) dX8_copies_22 rfl (by decide) (by decide) rfl ?_
      refine go_goto (tgt := 3) (pc := 25) dX8_copies_25 (by decide) ?_
      rw [py_up_row, show 0 + i = (0) + i from rfl, py_cpy_s]
      exact ih (by omega)
  refine go_iconst (v := nI 0) (pc := 0) dX8_copies_0 (by decide) ?_
  refine go_istore (pc := 1) dX8_copies_1 (by decide) rfl ?_
  have e8 := loop 0 (by omega)
  rw [py_cpy_0, py_row_id] at e8
  exact e8
set_option maxHeartbeats 4000000 in
set_option maxRecDepth 100000 in
theorem ev_copies_54_53 {X : py_X} {σ : py_H} : py_Ev X 0 yX8_copies cX8_copies 5 none [.ref 54, .int (nI 0), .ref 53, .int (nI 0)] σ (py_vs none (fun s => s = (py_row σ 53 (va_cpy (σ 54) (σ 53) (0) (0) 33)))) := by
  refine py_ofV (own := RX8) YX8_copies.2.2.2.2 rfl rfl (Nat.le_of_ble_eq_true rfl)  ?_
  show py_Go X RX8 cX8_copies 5 0 0 [some (.ref 54), some (.int (nI 0)), some (.ref 53), some (.int (nI 0)), none] [] σ (py_vs none (fun s => s = (py_row σ 53 (va_cpy (σ 54) (σ 53) (0) (0) 33))))
  have loop : ∀ i, i ≤ 33 → py_Go X RX8 cX8_copies 5 0 3 [some (.ref 54), some (.int (nI 0)), some (.ref 53), some (.int (nI 0)), some (.int (nI i))] [] (py_row σ 53 (va_cpy (σ 54) (σ 53) (0) (0) (i))) (py_vs none (fun s => s = (py_row σ 53 (va_cpy (σ 54) (σ 53) (0) (0) 33)))) := by
    refine py_loop _ (33) (fun i hi ih  => ?_)
    refine go_iload (pc := 3) dX8_copies_3 rfl ?_
    refine go_bipush (v := nI 33) (pc := 5) dX8_copies_5 (by decide) ?_
    refine go_icmp_geN (tgt := 28) (pc := 7) dX8_copies_7 (by omega) (by omega) (by decide) (fun c_7 => ?_) (fun c_7 => ?_)
    · exact go_retV (pc := 28) dX8_copies_28 (by rw [show i = 33 by omega])
    · refine go_aload_n (pc := 10) dX8_copies_10 rfl ?_
      refine go_iload_n (pc := 11) dX8_copies_11 rfl ?_
      refine go_iload (pc := 12) dX8_copies_12 rfl ?_
      refine go_iaddN (pc := 14) dX8_copies_14  ?_
      refine go_aload_n (pc := 15) dX8_copies_15 rfl ?_
      refine go_iload_n (pc := 16) dX8_copies_16 rfl ?_
      refine go_iload (pc := 17) dX8_copies_17 rfl ?_
      refine go_iaddN (pc := 19) dX8_copies_19  ?_
      refine go_aldN (x := (σ 54 (0 + i))) (pc := 20) dX8_copies_20 rfl (by show 0 + i < 33; omega) (by rw [py_row_ne _ _ (by decide)]) ?_
      refine go_astN (pc := 21) dX8_copies_21 rfl (by show 0 + i < 33; omega) ?_
      refine go_iincN (c := 1) (pc := 22) dX8_copies_22 rfl (by decide) (by decide) rfl ?_
      refine go_goto (tgt := 3) (pc := 25) dX8_copies_25 (by decide) ?_
      rw [py_up_row, show 0 + i = (0) + i from rfl, py_cpy_s]
      exact ih (by omega)
  refine go_iconst (v := nI 0) (pc := 0) dX8_copies_0 (by decide) ?_
  refine go_istore (pc := 1) dX8_copies_1 (by decide) rfl ?_
  have e8 := loop 0 (by omega)
  rw [py_cpy_0, py_row_id] at e8
  exact e8
set_option maxHeartbeats 4000000 in
set_option maxRecDepth 100000 in
theorem ev_copies_53_56 {X : py_X} {σ : py_H} {a : Nat} (ha : a < 24) : py_Ev X 0 yX8_copies cX8_copies 5 none [.ref 53, .int (nI 0), .ref 56, .int (nI (33 * a))] σ (py_vs none (fun s => s = (py_row σ 56 (va_cpy (σ 53) (σ 56) (0) (33 * a) 33)))) := by
  refine py_ofV (own := RX8) YX8_copies.2.2.2.2 rfl rfl (Nat.le_of_ble_eq_true rfl)  ?_
  show py_Go X RX8 cX8_copies 5 0 0 [some (.ref 53), some (.int (nI 0)), some (.ref 56), some (.int (nI (33 * a))), none] [] σ (py_vs none (fun s => s = (py_row σ 56 (va_cpy (σ 53) (σ 56) (0) (33 * a) 33))))
  have loop : ∀ i, i ≤ 33 → py_Go X RX8 cX8_copies 5 0 3 [some (.ref 53), some (.int (nI 0)), some (.ref 56), some (.int (nI (33 * a))), some (.int (nI i))] [] (py_row σ 56 (va_cpy (σ 53) (σ 56) (0) (33 * a) (i))) (py_vs none (fun s => s = (py_row σ 56 (va_cpy (σ 53) (σ 56) (0) (33 * a) 33)))) := by
    refine py_loop _ (33) (fun i hi ih  => ?_)
    refine go_iload (pc := 3) dX8_copies_3 rfl ?_
    refine go_bipush (v := nI 33) (pc := 5) dX8_copies_5 (by decide) ?_
    refine go_icmp_geN (tgt := 28) (pc := 7) dX8_copies_7 (by omega) (by omega) (by decide) (fun c_7 => ?_) (fun c_7 => ?_)
    · exact go_retV (pc := 28) dX8_copies_28 (by rw [show i = 33 by omega])
    · refine go_aload_n (pc := 10) dX8_copies_10 rfl ?_
      refine go_iload_n (pc := 11) dX8_copies_11 rfl ?_
      refine go_iload (pc := 12) dX8_copies_12 rfl ?_
      refine go_iaddN (pc := 14) dX8_copies_14  ?_
      refine go_aload_n (pc := 15) dX8_copies_15 rfl ?_
      refine go_iload_n (pc := 16) dX8_copies_16 rfl ?_
      refine go_iload (pc := 17) dX8_copies_17 rfl ?_
      refine go_iaddN (pc := 19) dX8_copies_19  ?_
      refine go_aldN (x := (σ 53 (0 + i))) (pc := 20) dX8_copies_20 rfl (by show 0 + i < 33; omega) (by rw [py_row_ne _ _ (by decide)]) ?_
      refine go_astN (pc := 21) dX8_copies_21 rfl (by show (33 * a) + i < 792; omega) ?_
      refine go_iincN (c := 1) (pc := 22) dX8_copies_22 rfl (by decide) (by decide) rfl ?_
      refine go_goto (tgt := 3) (pc := 25) dX8_copies_25 (by decide) ?_
      rw [py_up_row, show 33 * a + i = (33 * a) + i from rfl, py_cpy_s]
      exact ih (by omega)
  refine go_iconst (v := nI 0) (pc := 0) dX8_copies_0 (by decide) ?_
  refine go_istore (pc := 1) dX8_copies_1 (by decide) rfl ?_
  have e8 := loop 0 (by omega)
  rw [py_cpy_0, py_row_id] at e8
  exact e8
set_option maxHeartbeats 4000000 in
set_option maxRecDepth 100000 in
theorem ev_copies_56_53 {X : py_X} {σ : py_H} {a : Nat} (ha : a < 24) : py_Ev X 0 yX8_copies cX8_copies 5 none [.ref 56, .int (nI (33 * a)), .ref 53, .int (nI 0)] σ (py_vs none (fun s => s = (py_row σ 53 (va_cpy (σ 56) (σ 53) (33 * a) (0) 33)))) := by
  refine py_ofV (own := RX8) YX8_copies.2.2.2.2 rfl rfl (Nat.le_of_ble_eq_true rfl)  ?_
  show py_Go X RX8 cX8_copies 5 0 0 [some (.ref 56), some (.int (nI (33 * a))), some (.ref 53), some (.int (nI 0)), none] [] σ (py_vs none (fun s => s = (py_row σ 53 (va_cpy (σ 56) (σ 53) (33 * a) (0) 33))))
  have loop : ∀ i, i ≤ 33 → py_Go X RX8 cX8_copies 5 0 3 [some (.ref 56), some (.int (nI (33 * a))), some (.ref 53), some (.int (nI 0)), some (.int (nI i))] [] (py_row σ 53 (va_cpy (σ 56) (σ 53) (33 * a) (0) (i))) (py_vs none (fun s => s = (py_row σ 53 (va_cpy (σ 56) (σ 53) (33 * a) (0) 33)))) := by
    refine py_loop _ (33) (fun i hi ih  => ?_)
    refine go_iload (pc := 3) dX8_copies_3 rfl ?_
    refine go_bipush (v := nI 33) (pc := 5) dX8_copies_5 (by decide) ?_
    refine go_icmp_geN (tgt := 28) (pc := 7) dX8_copies_7 (by omega) (by omega) (by decide) (fun c_7 => ?_) (fun c_7 => ?_)
    · exact go_retV (pc := 28) dX8_copies_28 (by rw [show i = 33 by omega])
    · refine go_aload_n (pc := 10) dX8_copies_10 rfl ?_
      refine go_iload_n (pc := 11) dX8_copies_11 rfl ?_
      refine go_iload (pc := 12) dX8_copies_12 rfl ?_
      refine go_iaddN (pc := 14) dX8_copies_14  ?_
      refine go_aload_n (pc := 15) dX8_copies_15 rfl ?_
      refine go_iload_n (pc := 16) dX8_copies_16 rfl ?_
      refine go_iload (pc := 17) dX8_copies_17 rfl ?_
      refine go_iaddN (pc := 19) dX8_copies_19  ?_
      refine go_aldN (x := (σ 56 ((33 * a) + i))) (pc := 20) dX8_copies_20 rfl (by show (33 * a) + i < 792; omega) (by rw [py_row_ne _ _ (by decide)]) ?_
      refine go_astN (pc := 21) dX8_copies_21 rfl (by show 0 + i < 33; omega) ?_
      refine go_iincN (c := 1) (pc := 22) dX8_copies_22 rfl (by decide) (by decide) rfl ?_
      refine go_goto (tgt := 3) (pc := 25) dX8_copies_25 (by decide) ?_
      rw [py_up_row, show 0 + i = (0) + i from rfl, py_cpy_s]
      exact ih (by omega)
  refine go_iconst (v := nI 0) (pc := 0) dX8_copies_0 (by decide) ?_
  refine go_istore (pc := 1) dX8_copies_1 (by decide) rfl ?_
  have e8 := loop 0 (by omega)
  rw [py_cpy_0, py_row_id] at e8
  exact e8
set_option maxHeartbeats 4000000 in
set_option maxRecDepth 100000 in
theorem ev_copies_53_57 {X : py_X} {σ : py_H} {a : Nat} (ha : a < 2) : py_Ev X 0 yX8_copies cX8_copies 5 none [.ref 53, .int (nI 0), .ref 57, .int (nI (33 * a))] σ (py_vs none (fun s => s = (py_row σ 57 (va_cpy (σ 53) (σ 57) (0) (33 * a) 33)))) := by
  refine py_ofV (own := RX8) YX8_copies.2.2.2.2 rfl rfl (Nat.le_of_ble_eq_true rfl)  ?_
  show py_Go X RX8 cX8_copies 5 0 0 [some (.ref 53), some (.int (nI 0)), some (.ref 57), some (.int (nI (33 * a))), none] [] σ (py_vs none (fun s => s = (py_row σ 57 (va_cpy (σ 53) (σ 57) (0) (33 * a) 33))))
  have loop : ∀ i, i ≤ 33 → py_Go X RX8 cX8_copies 5 0 3 [some (.ref 53), some (.int (nI 0)), some (.ref 57), some (.int (nI (33 * a))), some (.int (nI i))] [] (py_row σ 57 (va_cpy (σ 53) (σ 57) (0) (33 * a) (i))) (py_vs none (fun s => s = (py_row σ 57 (va_cpy (σ 53) (σ 57) (0) (33 * a) 33)))) := by
    refine py_loop _ (33) (fun i hi ih  => ?_)
    refine go_iload (pc := 3) dX8_copies_3 rfl ?_
    refine go_bipush (v := nI 33) (pc := 5) dX8_copies_5 (by decide) ?_
    refine go_icmp_geN (tgt := 28) (pc := 7) dX8_copies_7 (by omega) (by omega) (by decide) (fun c_7 => ?_) (fun c_7 => ?_)
    · exact go_retV (pc := 28) dX8_copies_28 (by rw [show i = 33 by omega])
    · refine go_aload_n (pc := 10) dX8_copies_10 rfl ?_
      refine go_iload_n (pc := 11) dX8_copies_11 rfl ?_
      refine go_iload (pc := 12) dX8_copies_12 rfl ?_
      refine go_iaddN (pc := 14) dX8_copies_14  ?_
      refine go_aload_n (pc := 15) dX8_copies_15 rfl ?_
      refine go_iload_n (pc := 16) dX8_copies_16 rfl ?_
      refine go_iload (pc := 17) dX8_copies_17 rfl ?_
      refine go_iaddN (pc := 19) dX8_copies_19  ?_
      refine go_aldN (x := (σ 53 (0 + i))) (pc := 20) dX8_copies_20 rfl (by show 0 + i < 33; omega) (by rw [py_row_ne _ _ (by decide)]) ?_
      refine go_astN (pc := 21) dX8_copies_21 rfl (by show (33 * a) + i < 66; omega) ?_
      refine go_iincN (c := 1) (pc := 22) dX8_copies_22 rfl (by decide) (by decide) rfl ?_
      refine go_goto (tgt := 3) (pc := 25) dX8_copies_25 (by decide) ?_
      rw [py_up_row, show 33 * a + i = (33 * a) + i from rfl, py_cpy_s]
      exact ih (by omega)
  refine go_iconst (v := nI 0) (pc := 0) dX8_copies_0 (by decide) ?_
  refine go_istore (pc := 1) dX8_copies_1 (by decide) rfl ?_
  have e8 := loop 0 (by omega)
  rw [py_cpy_0, py_row_id] at e8
  exact e8
set_option maxHeartbeats 4000000 in
set_option maxRecDepth 100000 in
theorem ev_copies_57_53 {X : py_X} {σ : py_H} {a : Nat} (ha : a < 2) : py_Ev X 0 yX8_copies cX8_copies 5 none [.ref 57, .int (nI (33 * a)), .ref 53, .int (nI 0)] σ (py_vs none (fun s => s = (py_row σ 53 (va_cpy (σ 57) (σ 53) (33 * a) (0) 33)))) := by
  refine py_ofV (own := RX8) YX8_copies.2.2.2.2 rfl rfl (Nat.le_of_ble_eq_true rfl)  ?_
  show py_Go X RX8 cX8_copies 5 0 0 [some (.ref 57), some (.int (nI (33 * a))), some (.ref 53), some (.int (nI 0)), none] [] σ (py_vs none (fun s => s = (py_row σ 53 (va_cpy (σ 57) (σ 53) (33 * a) (0) 33))))
  have loop : ∀ i, i ≤ 33 → py_Go X RX8 cX8_copies 5 0 3 [some (.ref 57), some (.int (nI (33 * a))), some (.ref 53), some (.int (nI 0)), some (.int (nI i))] [] (py_row σ 53 (va_cpy (σ 57) (σ 53) (33 * a) (0) (i))) (py_vs none (fun s => s = (py_row σ 53 (va_cpy (σ 57) (σ 53) (33 * a) (0) 33)))) := by
    refine py_loop _ (33) (fun i hi ih  => ?_)
    refine go_iload (pc := 3) dX8_copies_3 rfl ?_
    refine go_bipush (v := nI 33) (pc := 5) dX8_copies_5 (by decide) ?_
    refine go_icmp_geN (tgt := 28) (pc := 7) dX8_copies_7 (by omega) (by omega) (by decide) (fun c_7 => ?_) (fun c_7 => ?_)
    · exact go_retV (pc := 28) dX8_copies_28 (by rw [show i = 33 by omega])
    · refine go_aload_n (pc := 10) dX8_copies_10 rfl ?_
      refine go_iload_n (pc := 11) dX8_copies_11 rfl ?_
      refine go_iload (pc := 12) dX8_copies_12 rfl ?_
      refine go_iaddN (pc := 14) dX8_copies_14  ?_
      refine go_aload_n (pc := 15) dX8_copies_15 rfl ?_
      refine go_iload_n (pc := 16) dX8_copies_16 rfl ?_
      refine go_iload (pc := 17) dX8_copies_17 rfl ?_
      refine go_iaddN (pc := 19) dX8_copies_19  ?_
      refine go_aldN (x := (σ 57 ((33 * a) + i))) (pc := 20) dX8_copies_20 rfl (by show (33 * a) + i < 66; omega) (by rw [py_row_ne _ _ (by decide)]) ?_
      refine go_astN (pc := 21) dX8_copies_21 rfl (by show 0 + i < 33; omega) ?_
      refine go_iincN (c := 1) (pc := 22) dX8_copies_22 rfl (by decide) (by decide) rfl ?_
      refine go_goto (tgt := 3) (pc := 25) dX8_copies_25 (by decide) ?_
      rw [py_up_row, show 0 + i = (0) + i from rfl, py_cpy_s]
      exact ih (by omega)
  refine go_iconst (v := nI 0) (pc := 0) dX8_copies_0 (by decide) ?_
  refine go_istore (pc := 1) dX8_copies_1 (by decide) rfl ?_
  have e8 := loop 0 (by omega)
  rw [py_cpy_0, py_row_id] at e8
  exact e8
