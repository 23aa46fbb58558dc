/-! contracts: a house's writes, the outlook, acts -/
/-- the outlook's six numbers -/
def py_ol (s : py_H) (K S C L D Y : Nat) : Prop := s 38 0 = nI K ∧ s 38 1 = nI S ∧ s 38 2 = nI C ∧ s 38 3 = nI L ∧ s 38 4 = nI D ∧ s 38 5 = nI Y
/-- the bounds of what is foretold -/
def py_bd (S L D Y : Nat) : Prop := 1 ≤ S ∧ S ≤ 9 ∧ L ≤ 9 ∧ D ≤ 9 ∧ Y ≤ 2000
theorem py_div_le (a b : Nat) : a / b ≤ a := Nat.div_le_self a b
set_option maxHeartbeats 4000000 in
set_option maxRecDepth 100000 in
theorem ev_fadesAsOil {X : py_X} {σ : py_H} {K S C L D Y : Nat} (ho : py_ol σ K S C L D Y) (hb : py_bd S L D Y) : py_Ev X 0 yX3_fadesAsOil cX3_fadesAsOil 1 (some .int) [.ref 38] σ (py_ret (.int (nI (1 + L / S))) σ) := by
  obtain ⟨hb1, hb2, hb3, hb4, hb5⟩ := id hb
  have hd1 := py_div_le L S
  have hd2 := py_div_le D 2
  refine py_ofI (own := RX3) YX3_fadesAsOil.2.2.2.2 rfl rfl (Nat.le_of_ble_eq_true rfl)  ?_
  show py_Go X RX3 cX3_fadesAsOil 1 0 0 [some (.ref 38)] [] σ (py_ret (.int (nI (1 + L / S))) σ)
  refine go_aload_n (pc := 0) dX3_fadesAsOil_0 rfl ?_
  refine go_getI (x := (nI S)) (pc := 1) dX3_fadesAsOil_1 fX3_24 rfl rfl ho.2.1 ?_
  refine go_iconst (v := nI 1) (pc := 4) dX3_fadesAsOil_4 (by decide) ?_
  refine go_icmp_geN (tgt := 12) (pc := 5) dX3_fadesAsOil_5 (by omega) (by omega) (by decide) (fun c_5 => ?_) (fun c_5 => ?_)
  · refine go_iconst (v := nI 1) (pc := 12) dX3_fadesAsOil_12 (by decide) ?_
    refine go_aload_n (pc := 13) dX3_fadesAsOil_13 rfl ?_
    refine go_getI (x := (nI L)) (pc := 14) dX3_fadesAsOil_14 fX3_50 rfl rfl ho.2.2.2.1 ?_
    refine go_aload_n (pc := 17) dX3_fadesAsOil_17 rfl ?_
    refine go_getI (x := (nI S)) (pc := 18) dX3_fadesAsOil_18 fX3_24 rfl rfl ho.2.1 ?_
    refine go_idivN (pc := 21) dX3_fadesAsOil_21 (by omega) (by omega) (by omega) ?_
    refine go_iaddN (pc := 22) dX3_fadesAsOil_22  ?_
    exact go_retI (pc := 23) dX3_fadesAsOil_23 rfl rfl
  · omega
set_option maxHeartbeats 4000000 in
set_option maxRecDepth 100000 in
theorem ev_yearsThat {X : py_X} {σ : py_H} {K S C L D Y : Nat} (ho : py_ol σ K S C L D Y) (hb : py_bd S L D Y) {n : Nat} (hn : n ≤ 200) : py_Ev X 0 yX3_yearsThatSkillDivides cX3_yearsThatSkillDivides 2 (some .int) [.ref 38, .int (nI n)] σ (py_ret (.int (nI ((Y + n + S - 1) / S - (Y + S - 1) / S))) σ) := by
  obtain ⟨hb1, hb2, hb3, hb4, hb5⟩ := id hb
  have hd1 := py_div_le L S
  have hd2 := py_div_le D 2
  refine py_ofI (own := RX3) YX3_yearsThatSkillDivides.2.2.2.2 rfl rfl (Nat.le_of_ble_eq_true rfl)  ?_
  show py_Go X RX3 cX3_yearsThatSkillDivides 2 0 0 [some (.ref 38), some (.int (nI n))] [] σ (py_ret (.int (nI ((Y + n + S - 1) / S - (Y + S - 1) / S))) σ)
  refine go_aload_n (pc := 0) dX3_yearsThatSkillDivides_0 rfl ?_
  refine go_getI (x := (nI S)) (pc := 1) dX3_yearsThatSkillDivides_1 fX3_24 rfl rfl ho.2.1 ?_
  refine go_iconst (v := nI 1) (pc := 4) dX3_yearsThatSkillDivides_4 (by decide) ?_
  refine go_icmp_geN (tgt := 10) (pc := 5) dX3_yearsThatSkillDivides_5 (by omega) (by omega) (by decide) (fun c_5 => ?_) (fun c_5 => ?_)
  · refine go_aload_n (pc := 10) dX3_yearsThatSkillDivides_10 rfl ?_
    refine go_getI (x := (nI Y)) (pc := 11) dX3_yearsThatSkillDivides_11 fX3_35 rfl rfl ho.2.2.2.2.2 ?_
    refine go_iload_n (pc := 14) dX3_yearsThatSkillDivides_14 rfl ?_
    refine go_iaddN (pc := 15) dX3_yearsThatSkillDivides_15  ?_
    refine go_aload_n (pc := 16) dX3_yearsThatSkillDivides_16 rfl ?_
    refine go_getI (x := (nI S)) (pc := 17) dX3_yearsThatSkillDivides_17 fX3_24 rfl rfl ho.2.1 ?_
    refine go_iaddN (pc := 20) dX3_yearsThatSkillDivides_20  ?_
    refine go_iconst (v := nI 1) (pc := 21) dX3_yearsThatSkillDivides_21 (by decide) ?_
    refine go_isubN (pc := 22) dX3_yearsThatSkillDivides_22 (by omega) ?_
    refine go_aload_n (pc := 23) dX3_yearsThatSkillDivides_23 rfl ?_
    refine go_getI (x := (nI S)) (pc := 24) dX3_yearsThatSkillDivides_24 fX3_24 rfl rfl ho.2.1 ?_
    refine go_idivN (pc := 27) dX3_yearsThatSkillDivides_27 (by omega) (by omega) (by omega) ?_
    refine go_aload_n (pc := 28) dX3_yearsThatSkillDivides_28 rfl ?_
    refine go_getI (x := (nI Y)) (pc := 29) dX3_yearsThatSkillDivides_29 fX3_35 rfl rfl ho.2.2.2.2.2 ?_
    refine go_aload_n (pc := 32) dX3_yearsThatSkillDivides_32 rfl ?_
    refine go_getI (x := (nI S)) (pc := 33) dX3_yearsThatSkillDivides_33 fX3_24 rfl rfl ho.2.1 ?_
    refine go_iaddN (pc := 36) dX3_yearsThatSkillDivides_36  ?_
    refine go_iconst (v := nI 1) (pc := 37) dX3_yearsThatSkillDivides_37 (by decide) ?_
    refine go_isubN (pc := 38) dX3_yearsThatSkillDivides_38 (by omega) ?_
    refine go_aload_n (pc := 39) dX3_yearsThatSkillDivides_39 rfl ?_
    refine go_getI (x := (nI S)) (pc := 40) dX3_yearsThatSkillDivides_40 fX3_24 rfl rfl ho.2.1 ?_
    refine go_idivN (pc := 43) dX3_yearsThatSkillDivides_43 (by omega) (by omega) (by omega) ?_
    refine go_isubN (pc := 44) dX3_yearsThatSkillDivides_44 (py_ceil_mono hb1 n) ?_
    exact go_retI (pc := 45) dX3_yearsThatSkillDivides_45 rfl rfl
  · omega
set_option maxHeartbeats 4000000 in
set_option maxRecDepth 100000 in
theorem ev_fadesIn {X : py_X} {σ : py_H} {K S C L D Y : Nat} (ho : py_ol σ K S C L D Y) (hb : py_bd S L D Y) {n : Nat} (hn : n ≤ 200) (hk5 : K ≤ 5) : py_Ev X 1 yX3_fadesIn cX3_fadesIn 2 (some .int) [.ref 38, .int (nI n)] σ (py_ret (.int (nI (py_fs K S L D Y n))) σ) := by
  obtain ⟨hb1, hb2, hb3, hb4, hb5⟩ := id hb
  have hd1 := py_div_le L S
  have hd2 := py_div_le D 2
  refine py_ofI (own := RX3) YX3_fadesIn.2.2.2.2 rfl rfl (Nat.le_of_ble_eq_true rfl)  ?_
  show py_Go X RX3 cX3_fadesIn 2 1 0 [some (.ref 38), some (.int (nI n))] [] σ (py_ret (.int (nI (py_fs K S L D Y n))) σ)
  refine go_aload_n (pc := 0) dX3_fadesIn_0 rfl ?_
  refine go_getI (x := (nI K)) (pc := 1) dX3_fadesIn_1 fX3_15 rfl rfl ho.1 ?_
  rcases (show K = 1 ∨ K = 2 ∨ K = 3 ∨ K = 4 ∨ (K ≠ 1 ∧ K ≠ 2 ∧ K ≠ 3 ∧ K ≠ 4) by omega) with hk | hk | hk | hk | hk
  · subst hk
    refine go_swIn (off := 32) (pc := 4) (tgt := 36) dX3_fadesIn_4 (by decide) (by decide) (by decide) (by decide) ?_
    refine go_iload_n (pc := 36) dX3_fadesIn_36 rfl ?_
    refine go_aload_n (pc := 37) dX3_fadesIn_37 rfl ?_
    refine go_cV (pc := 38) dX3_fadesIn_38 (ev_fadesAsOil ho hb) lX3_69 YX3_fadesAsOil VX3_fadesAsOil rfl rfl rfl (by decide) rfl (Nat.le_of_ble_eq_true rfl) ?_
    refine go_imulN (pc := 41) dX3_fadesIn_41  ?_
    exact go_retI (pc := 42) dX3_fadesIn_42 (by unfold py_fs; rfl) rfl
  · subst hk
    refine go_swIn (off := 39) (pc := 4) (tgt := 43) dX3_fadesIn_4 (by decide) (by decide) (by decide) (by decide) ?_
    refine go_iload_n (pc := 43) dX3_fadesIn_43 rfl ?_
    refine go_iconst (v := nI 2) (pc := 44) dX3_fadesIn_44 (by decide) ?_
    refine go_imulN (pc := 45) dX3_fadesIn_45  ?_
    refine go_aload_n (pc := 46) dX3_fadesIn_46 rfl ?_
    refine go_cV (pc := 47) dX3_fadesIn_47 (ev_fadesAsOil ho hb) lX3_69 YX3_fadesAsOil VX3_fadesAsOil rfl rfl rfl (by decide) rfl (Nat.le_of_ble_eq_true rfl) ?_
    refine go_imulN (pc := 50) dX3_fadesIn_50  ?_
    exact go_retI (pc := 51) dX3_fadesIn_51 (by unfold py_fs; rfl) rfl
  · subst hk
    refine go_swIn (off := 48) (pc := 4) (tgt := 52) dX3_fadesIn_4 (by decide) (by decide) (by decide) (by decide) ?_
    refine go_aload_n (pc := 52) dX3_fadesIn_52 rfl ?_
    refine go_iload_n (pc := 53) dX3_fadesIn_53 rfl ?_
    refine go_cV (pc := 54) dX3_fadesIn_54 (ev_yearsThat ho hb hn) lX3_73 YX3_yearsThatSkillDivides VX3_yearsThatSkillDivides rfl rfl rfl (by decide) rfl (Nat.le_of_ble_eq_true rfl) ?_
    refine go_aload_n (pc := 57) dX3_fadesIn_57 rfl ?_
    refine go_cV (pc := 58) dX3_fadesIn_58 (ev_fadesAsOil ho hb) lX3_69 YX3_fadesAsOil VX3_fadesAsOil rfl rfl rfl (by decide) rfl (Nat.le_of_ble_eq_true rfl) ?_
    refine go_imulN (pc := 61) dX3_fadesIn_61  ?_
    exact go_retI (pc := 62) dX3_fadesIn_62 (by unfold py_fs; rfl) rfl
  · subst hk
    refine go_swIn (off := 59) (pc := 4) (tgt := 63) dX3_fadesIn_4 (by decide) (by decide) (by decide) (by decide) ?_
    refine go_iload_n (pc := 63) dX3_fadesIn_63 rfl ?_
    refine go_aload_n (pc := 64) dX3_fadesIn_64 rfl ?_
    refine go_getI (x := (nI D)) (pc := 65) dX3_fadesIn_65 fX3_56 rfl rfl ho.2.2.2.2.1 ?_
    refine go_iconst (v := nI 2) (pc := 68) dX3_fadesIn_68 (by decide) ?_
    refine go_idivN (pc := 69) dX3_fadesIn_69 (by omega) (by omega) (by omega) ?_
    refine go_imulN (pc := 70) dX3_fadesIn_70  ?_
    exact go_retI (pc := 71) dX3_fadesIn_71 (by unfold py_fs; rfl) rfl
  · refine go_swOut (pc := 4) (tgt := 72) dX3_fadesIn_4 (by rw [nI_toInt (by omega)]; omega) (by decide) ?_
    refine go_iconst (v := nI 0) (pc := 72) dX3_fadesIn_72 (by decide) ?_
    exact go_retI (pc := 73) dX3_fadesIn_73 (by unfold py_fs; rw [if_neg hk.1, if_neg hk.2.1, if_neg hk.2.2.1, if_neg hk.2.2.2]) rfl
theorem py_max0 {a b : Nat} (ha : a < 2 ^ 30) (hb : b < 2 ^ 30) : (if nI 0 < nI a - nI b then nI a - nI b else nI 0) = nI (a - b) := by
  by_cases h : b < a
  · rw [pk_sub (by omega), if_pos (nI_lt (by omega) (by omega))]
  · rw [if_neg, Nat.sub_eq_zero_of_le (by omega)]
    rw [Int32.lt_iff_toInt_lt, py_sub_toInt ha hb, nI_toInt (by decide)]
    omega
set_option maxHeartbeats 4000000 in
set_option maxRecDepth 100000 in
theorem ev_cellsBehind {X : py_X} {σ : py_H} {K S C L D Y : Nat} (ho : py_ol σ K S C L D Y) (hb : py_bd S L D Y) {n : Nat} (hn : n ≤ 200) (hk5 : K ≤ 5) (hc : C ≤ 60) : py_Ev X 2 yX3_cellsBehind cX3_cellsBehind 2 (some .int) [.ref 38, .int (nI n)] σ (py_ret (.int (nI (C - py_fs K S L D Y n))) σ) := by
  have hfs := py_fs_le (K := K) (Y := Y) hb.1 hb.2.2.1 hb.2.2.2.1 n
  refine py_ofI (own := RX3) YX3_cellsBehind.2.2.2.2 rfl rfl (Nat.le_of_ble_eq_true rfl)  ?_
  show py_Go X RX3 cX3_cellsBehind 2 2 0 [some (.ref 38), some (.int (nI n))] [] σ (py_ret (.int (nI (C - py_fs K S L D Y n))) σ)
  refine go_iconst (v := nI 0) (pc := 0) dX3_cellsBehind_0 (by decide) ?_
  refine go_aload_n (pc := 1) dX3_cellsBehind_1 rfl ?_
  refine go_getI (x := (nI C)) (pc := 2) dX3_cellsBehind_2 fX3_30 rfl rfl ho.2.2.1 ?_
  refine go_aload_n (pc := 5) dX3_cellsBehind_5 rfl ?_
  refine go_iload_n (pc := 6) dX3_cellsBehind_6 rfl ?_
  refine go_cV (pc := 7) dX3_cellsBehind_7 (ev_fadesIn ho hb hn hk5) lX3_59 YX3_fadesIn VX3_fadesIn rfl rfl rfl (by decide) rfl (Nat.le_of_ble_eq_true rfl) ?_
  refine go_isub (pc := 10) dX3_cellsBehind_10  ?_
  refine go_mmax (pc := 11) dX3_cellsBehind_11 lX3_63 Smax Imath Cmax (by decide) (Nat.le_of_ble_eq_true rfl) ?_
  refine go_top (y := (nI (C - py_fs K S L D Y n))) (py_max0 (by omega) (by omega)) ?_
  exact go_retI (pc := 14) dX3_cellsBehind_14 rfl rfl
theorem py_hd_fr {σ s : py_H} {h : Nat} {H : Nat → Nat} {S : List Nat} {T : List (Nat × Nat)} (hf : py_fr S T σ s) (hs : ∀ j, j < 7 → h + j ∉ S) (ht : ∀ j, j < 7 → ∀ q ∈ T, q.1 ≠ h + j) (hc : py_hd σ h H) : py_hd s h H := by
  have e : ∀ j, j < 7 → s (h + j) = σ (h + j) := fun j hj => hf.at (h + j) (hs j hj) (ht j hj)
  have e0 := e 0 (by decide)
  have e1 := e 1 (by decide)
  have e2 := e 2 (by decide)
  have e3 := e 3 (by decide)
  have e4 := e 4 (by decide)
  have e5 := e 5 (by decide)
  have e6 := e 6 (by decide)
  rw [Nat.add_zero] at e0
  unfold py_hd
  rw [e0, e1, e2, e3, e4, e5, e6]
  exact hc
theorem py_hc_fr {σ s : py_H} {h : Nat} {H : Nat → Nat} {S : List Nat} {T : List (Nat × Nat)} (hf : py_fr S T σ s) (hs : ∀ j, j < 7 → h + j ∉ S) (ht : ∀ j, j < 7 → ∀ q ∈ T, q.1 ≠ h + j) (hc : py_hc σ h H) : py_hc s h H := by
  refine ⟨?_, py_hd_fr hf hs ht hc.2⟩
  have e0 := hf.at (h + 0) (hs 0 (by decide)) (ht 0 (by decide))
  rw [Nat.add_zero] at e0
  rw [e0]
  exact hc.1
set_option maxHeartbeats 4000000 in
set_option maxRecDepth 100000 in
theorem ev_takeWall {X : py_X} {σ : py_H} {H : Nat → Nat} (hc : py_hd σ 7 H) (hw : py_wf H) {x : Nat} (hx : x < H 3) : py_Ev X 2 yX3_takeWall cX3_takeWall 3 none [.ref 38, .ref 7, .int (nI x)] σ (py_vs none (fun s => s = (py_up (py_up σ 38 3 (nI (H (4 + 2 * (x))))) 38 4 (nI (H (5 + 2 * (x))))))) := by
  obtain ⟨w0, w1, w2, w3, w12, w03, w00, wW, wP, wR⟩ := id hw
  refine py_ofV (own := RX3) YX3_takeWall.2.2.2.2 rfl rfl (Nat.le_of_ble_eq_true rfl)  ?_
  show py_Go X RX3 cX3_takeWall 3 2 0 [some (.ref 38), some (.ref 7), some (.int (nI x))] [] σ (py_vs none (fun s => s = (py_up (py_up σ 38 3 (nI (H (4 + 2 * (x))))) 38 4 (nI (H (5 + 2 * (x)))))))
  refine go_aload_n (pc := 0) dX3_takeWall_0 rfl ?_
  refine go_iload_n (pc := 1) dX3_takeWall_1 rfl ?_
  refine go_cV (pc := 2) dX3_takeWall_2 (ev_hasWall (n := H 3) (Or.inl rfl) hc.2.2.2.1 (by omega)) lX3_43 YX2_hasWall VX2_hasWall rfl rfl rfl (by decide) rfl (Nat.le_of_ble_eq_true rfl) ?_
  refine go_if_eqB (tgt := 28) (pc := 5) dX3_takeWall_5 (by decide) (fun c_5 => ?_) (fun c_5 => ?_)
  · exact absurd ((py_pi_n (by omega)).mpr hx) c_5
  · refine go_aload_n (pc := 8) dX3_takeWall_8 rfl ?_
    refine go_aload_n (pc := 9) dX3_takeWall_9 rfl ?_
    refine go_getR (pc := 10) dX3_takeWall_10 fX3_47 rfl rfl ?_
    refine go_iload_n (pc := 13) dX3_takeWall_13 rfl ?_
    refine go_aldN (x := (nI (H (4 + 2 * (x))))) (pc := 14) dX3_takeWall_14 rfl (by show x < 4; omega) (hc.2.2.2.2.2.1 (x) (by omega)).1 ?_
    refine go_putI (pc := 15) dX3_takeWall_15 fX3_50 rfl rfl ?_
    refine go_aload_n (pc := 18) dX3_takeWall_18 rfl ?_
    refine go_aload_n (pc := 19) dX3_takeWall_19 rfl ?_
    refine go_getR (pc := 20) dX3_takeWall_20 fX3_53 rfl rfl ?_
    refine go_iload_n (pc := 23) dX3_takeWall_23 rfl ?_
    refine go_aldN (x := (nI (H (5 + 2 * (x))))) (pc := 24) dX3_takeWall_24 rfl (by show x < 4; omega) (by rw [py_up_k _ _ _ (by decide)]; exact (hc.2.2.2.2.2.1 (x) (by omega)).2) ?_
    refine go_putI (pc := 25) dX3_takeWall_25 fX3_56 rfl rfl ?_
    exact go_retV (pc := 28) dX3_takeWall_28 rfl
theorem py_bd_of {H : Nat → Nat} (hw : py_wf H) {p : Nat} (hp : p < H 12) : py_bd (H (14 + 4 * p)) (H (4 + 2 * H (16 + 4 * p))) (H (5 + 2 * H (16 + 4 * p))) (H 2) := by
  obtain ⟨w0, w1, w2, w3, w12, w03, w00, wW, wP, wR⟩ := hw
  have h1 := wP p hp
  have h2 := wW _ h1.2.2.2.2.2
  exact ⟨h1.2.2.1, h1.2.2.2.1, h2.1, h2.2, by omega⟩
set_option maxHeartbeats 4000000 in
set_option maxRecDepth 100000 in
theorem ev_takeFrom {X : py_X} {σ : py_H} {H : Nat → Nat} (hc : py_hd σ 7 H) (hw : py_wf H) {x : Nat} (hx : x < H 12) : py_Ev X 3 yX3_takeFrom cX3_takeFrom 3 none [.ref 38, .ref 7, .int (nI x)] σ (py_vs none (fun s => py_ol s (H (13 + 4 * x)) (H (14 + 4 * x)) (H (15 + 4 * x)) (H (4 + 2 * H (16 + 4 * x))) (H (5 + 2 * H (16 + 4 * x))) (H 2) ∧ py_fr [38] [] σ s)) := by
  obtain ⟨w0, w1, w2, w3, w12, w03, w00, wW, wP, wR⟩ := id hw
  refine py_ofV (own := RX3) YX3_takeFrom.2.2.2.2 rfl rfl (Nat.le_of_ble_eq_true rfl)  ?_
  show py_Go X RX3 cX3_takeFrom 3 3 0 [some (.ref 38), some (.ref 7), some (.int (nI x))] [] σ (py_vs none (fun s => py_ol s (H (13 + 4 * x)) (H (14 + 4 * x)) (H (15 + 4 * x)) (H (4 + 2 * H (16 + 4 * x))) (H (5 + 2 * H (16 + 4 * x))) (H 2) ∧ py_fr [38] [] σ s))
  refine go_aload_n (pc := 0) dX3_takeFrom_0 rfl ?_
  refine go_aload_n (pc := 1) dX3_takeFrom_1 rfl ?_
  refine go_getR (pc := 2) dX3_takeFrom_2 fX3_9 rfl rfl ?_
  refine go_iload_n (pc := 5) dX3_takeFrom_5 rfl ?_
  refine go_aldN (x := (nI (H (13 + 4 * (x))))) (pc := 6) dX3_takeFrom_6 rfl (by show x < 5; omega) (hc.2.2.2.2.2.2 (x) (by omega)).1 ?_
  refine go_putI (pc := 7) dX3_takeFrom_7 fX3_15 rfl rfl ?_
  refine go_aload_n (pc := 10) dX3_takeFrom_10 rfl ?_
  refine go_aload_n (pc := 11) dX3_takeFrom_11 rfl ?_
  refine go_getR (pc := 12) dX3_takeFrom_12 fX3_21 rfl rfl ?_
  refine go_iload_n (pc := 15) dX3_takeFrom_15 rfl ?_
  refine go_aldN (x := (nI (H (14 + 4 * (x))))) (pc := 16) dX3_takeFrom_16 rfl (by show x < 5; omega) (by repeat rw [py_up_k _ _ _ (by decide)]; exact (hc.2.2.2.2.2.2 (x) (by omega)).2.1) ?_
  refine go_putI (pc := 17) dX3_takeFrom_17 fX3_24 rfl rfl ?_
  refine go_aload_n (pc := 20) dX3_takeFrom_20 rfl ?_
  refine go_aload_n (pc := 21) dX3_takeFrom_21 rfl ?_
  refine go_getR (pc := 22) dX3_takeFrom_22 fX3_27 rfl rfl ?_
  refine go_iload_n (pc := 25) dX3_takeFrom_25 rfl ?_
  refine go_aldN (x := (nI (H (15 + 4 * (x))))) (pc := 26) dX3_takeFrom_26 rfl (by show x < 5; omega) (by repeat rw [py_up_k _ _ _ (by decide)]; exact (hc.2.2.2.2.2.2 (x) (by omega)).2.2.1) ?_
  refine go_putI (pc := 27) dX3_takeFrom_27 fX3_30 rfl rfl ?_
  refine go_aload_n (pc := 30) dX3_takeFrom_30 rfl ?_
  refine go_aload_n (pc := 31) dX3_takeFrom_31 rfl ?_
  refine go_getI (x := (nI (H 2))) (pc := 32) dX3_takeFrom_32 fX3_32 rfl rfl (by repeat rw [py_up_k _ _ _ (by decide)]; exact hc.2.2.1) ?_
  refine go_putI (pc := 35) dX3_takeFrom_35 fX3_35 rfl rfl ?_
  refine go_aload_n (pc := 38) dX3_takeFrom_38 rfl ?_
  refine go_aload_n (pc := 39) dX3_takeFrom_39 rfl ?_
  refine go_aload_n (pc := 40) dX3_takeFrom_40 rfl ?_
  refine go_getR (pc := 41) dX3_takeFrom_41 fX3_36 rfl rfl ?_
  refine go_iload_n (pc := 44) dX3_takeFrom_44 rfl ?_
  refine go_aldN (x := (nI (H (16 + 4 * (x))))) (pc := 45) dX3_takeFrom_45 rfl (by show x < 5; omega) (by repeat rw [py_up_k _ _ _ (by decide)]; exact (hc.2.2.2.2.2.2 (x) (by omega)).2.2.2) ?_
  have hq := wP x hx
  have hc2 : py_hd (py_up (py_up (py_up (py_up σ 38 0 ((nI (H (13 + 4 * (x)))))) 38 1 ((nI (H (14 + 4 * (x)))))) 38 2 ((nI (H (15 + 4 * (x)))))) 38 5 ((nI (H 2)))) 7 H := by
    refine py_hd_fr (S := [38]) (T := []) ?_ (by decide) (by decide) hc
    exact ((((py_fr.rf [38] [] σ).up (by decide) _).up (by decide) _).up (by decide) _).up (by decide) _
  refine go_cVv (pc := 46) dX3_takeFrom_46 (ev_takeWall hc2 hw hq.2.2.2.2.2) lX3_39 YX3_takeWall VX3_takeWall rfl rfl rfl (by decide) rfl (Nat.le_of_ble_eq_true rfl) (fun s1 e1 => ?_)
  subst e1
  exact go_retV (pc := 49) dX3_takeFrom_49 (by refine ⟨⟨?_, ?_, ?_, ?_, ?_, ?_⟩, ?_⟩ <;> first | (simp only [py_up_ap]; simp; done) | (simp only [py_up_ap]; rfl) | exact ((((((py_fr.rf [38] [] σ).up (by decide) _).up (by decide) _).up (by decide) _).up (by decide) _).up (by decide) _).up (by decide) _)
