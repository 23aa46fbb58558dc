/-! contracts: kinds, asks, the trace -/
abbrev py_isa (K q : Nat) : Prop := q = 0 ∨ q = K ∨ (q = 1 ∧ K < 4) ∨ (q = 4 ∧ K = 5)
def py_bg (σ : py_H) (t b : Nat) : py_H := py_up (py_up σ 46 t (nI b)) 45 1 (nI (t + 1))
def py_trc : py_H → Nat → List Nat → py_H
  | σ, _, [] => σ
  | σ, t, b :: l => py_trc (py_bg σ t b) (t + 1) l
theorem py_bg_n (σ : py_H) (t b : Nat) : py_bg σ t b 45 1 = nI (t + 1) := py_up_s _ _ _ _
theorem py_trc_n : ∀ (l : List Nat) (σ : py_H) (t : Nat), σ 45 1 = nI t → py_trc σ t l 45 1 = nI (t + l.length)
  | [], σ, t, h => h
  | b :: l, σ, t, h => by
    have e := py_trc_n l (py_bg σ t b) (t + 1) (py_bg_n σ t b)
    rw [show t + (b :: l).length = t + 1 + l.length by simp; omega]
    exact e
theorem py_bg_fr (σ : py_H) (t b : Nat) : py_fr [46] [(45, 1)] σ (py_bg σ t b) := ((py_fr.rf [46] [(45, 1)] σ).up (by decide) _).ut (by decide) _
theorem py_trc_fr : ∀ (l : List Nat) (σ : py_H) (t : Nat), py_fr [46] [(45, 1)] σ (py_trc σ t l)
  | [], σ, t => py_fr.rf _ _ σ
  | b :: l, σ, t => (py_bg_fr σ t b).tr (py_trc_fr l (py_bg σ t b) (t + 1)) (by decide) (by decide)
theorem py_trc_app : ∀ (l m : List Nat) (σ : py_H) (t : Nat), py_trc (py_trc σ t l) (t + l.length) m = py_trc σ t (l ++ m)
  | [], m, σ, t => rfl
  | b :: l, m, σ, t => by
    have e := py_trc_app l m (py_bg σ t b) (t + 1)
    rw [show t + (b :: l).length = t + 1 + l.length by simp; omega]
    exact e
set_option maxHeartbeats 4000000 in
set_option maxRecDepth 100000 in
theorem ev_begin {X : py_X} {σ : py_H} {t b : Nat} (ht : σ 45 1 = nI t) (h16 : t < 16) : py_Ev X 0 yX1_begin cX1_begin 2 none [.ref 45, .int (nI b)] σ (py_vs none (fun s => s = (py_bg σ t b))) := by
  refine py_ofV (own := RX1) YX1_begin.2.2.2.2 rfl rfl (Nat.le_of_ble_eq_true rfl)  ?_
  show py_Go X RX1 cX1_begin 2 0 0 [some (.ref 45), some (.int (nI b))] [] σ (py_vs none (fun s => s = (py_bg σ t b)))
  refine go_aload_n (pc := 0) dX1_begin_0 rfl ?_
  refine go_getI (x := (nI t)) (pc := 1) dX1_begin_1 fX1_22 rfl rfl ht ?_
  refine go_bipush (v := nI 16) (pc := 4) dX1_begin_4 (by decide) ?_
  refine go_icmp_geN (tgt := 29) (pc := 6) dX1_begin_6 (by omega) (by omega) (by decide) (fun c_6 => ?_) (fun c_6 => ?_)
  · omega
  · refine go_aload_n (pc := 9) dX1_begin_9 rfl ?_
    refine go_getR (pc := 10) dX1_begin_10 fX1_11 rfl rfl ?_
    refine go_aload_n (pc := 13) dX1_begin_13 rfl ?_
    refine go_getI (x := (nI t)) (pc := 14) dX1_begin_14 fX1_22 rfl rfl ht ?_
    refine go_iload_n (pc := 17) dX1_begin_17 rfl ?_
    refine go_astN (pc := 18) dX1_begin_18 rfl (by show t < 16; omega) ?_
    refine go_aload_n (pc := 19) dX1_begin_19 rfl ?_
    refine go_dup (pc := 20) dX1_begin_20 rfl ?_
    refine go_getI (x := (nI t)) (pc := 21) dX1_begin_21 fX1_22 rfl rfl (by rw [py_up_k _ _ _ (by decide)]; exact ht) ?_
    refine go_iconst (v := nI 1) (pc := 24) dX1_begin_24 (by decide) ?_
    refine go_iaddN (pc := 25) dX1_begin_25  ?_
    refine go_putI (pc := 26) dX1_begin_26 fX1_22 rfl rfl ?_
    exact go_retV (pc := 29) dX1_begin_29 rfl
set_option maxHeartbeats 4000000 in
set_option maxRecDepth 100000 in
theorem ev_bodyFor63 {X : py_X} {σ : py_H} {K b : Nat} (h5 : K ≤ 5) (hb : py_T 63 K = nI b) : py_Ev X 1 yX1_bodyFor cX1_bodyFor 3 (some .int) [.ref 45, .int (nI K), .ref 63] σ (py_ret (.int (nI b)) σ) := by
  refine py_ofI (own := RX1) YX1_bodyFor.2.2.2.2 rfl rfl (Nat.le_of_ble_eq_true rfl)  ?_
  show py_Go X RX1 cX1_bodyFor 3 1 0 [some (.ref 45), some (.int (nI K)), some (.ref 63)] [] σ (py_ret (.int (nI b)) σ)
  refine go_iload_n (pc := 0) dX1_bodyFor_0 rfl ?_
  refine go_iconst (v := nI 0) (pc := 1) dX1_bodyFor_1 (by decide) ?_
  refine go_aload_n (pc := 2) dX1_bodyFor_2 rfl ?_
  refine go_tlen (by decide) (by decide) (pc := 3) dX1_bodyFor_3 ?_
  refine go_top (y := nI 6) (by decide) ?_
  refine go_iconst (v := nI 1) (pc := 4) dX1_bodyFor_4 (by decide) ?_
  refine go_isubN (pc := 5) dX1_bodyFor_5 (by omega) ?_
  refine go_cN (pc := 6) dX1_bodyFor_6 ev_isWithinN nX1_18 YX7_isWithin SX7_isWithin rfl (by decide) rfl (Nat.le_of_ble_eq_true rfl) ?_
  refine go_if_eqB (tgt := 18) (pc := 9) dX1_bodyFor_9 (by decide) (fun c_9 => ?_) (fun c_9 => ?_)
  · exact (c_9 ⟨by rw [nI_toInt (by omega)]; omega, by rw [nI_toInt (by omega)]; omega⟩).elim
  · refine go_aload_n (pc := 12) dX1_bodyFor_12 rfl ?_
    refine go_iload_n (pc := 13) dX1_bodyFor_13 rfl ?_
    refine go_tldN (x := (nI b)) (by decide) (by decide) (pc := 14) dX1_bodyFor_14 (by omega) hb ?_
    refine go_goto (tgt := 21) (pc := 15) dX1_bodyFor_15 (by decide) ?_
    exact go_retI (pc := 21) dX1_bodyFor_21 rfl rfl
set_option maxHeartbeats 4000000 in
set_option maxRecDepth 100000 in
theorem ev_bodyFor64 {X : py_X} {σ : py_H} {K b : Nat} (h5 : K ≤ 5) (hb : py_T 64 K = nI b) : py_Ev X 1 yX1_bodyFor cX1_bodyFor 3 (some .int) [.ref 45, .int (nI K), .ref 64] σ (py_ret (.int (nI b)) σ) := by
  refine py_ofI (own := RX1) YX1_bodyFor.2.2.2.2 rfl rfl (Nat.le_of_ble_eq_true rfl)  ?_
  show py_Go X RX1 cX1_bodyFor 3 1 0 [some (.ref 45), some (.int (nI K)), some (.ref 64)] [] σ (py_ret (.int (nI b)) σ)
  refine go_iload_n (pc := 0) dX1_bodyFor_0 rfl ?_
  refine go_iconst (v := nI 0) (pc := 1) dX1_bodyFor_1 (by decide) ?_
  refine go_aload_n (pc := 2) dX1_bodyFor_2 rfl ?_
  refine go_tlen (by decide) (by decide) (pc := 3) dX1_bodyFor_3 ?_
  refine go_top (y := nI 6) (by decide) ?_
  refine go_iconst (v := nI 1) (pc := 4) dX1_bodyFor_4 (by decide) ?_
  refine go_isubN (pc := 5) dX1_bodyFor_5 (by omega) ?_
  refine go_cN (pc := 6) dX1_bodyFor_6 ev_isWithinN nX1_18 YX7_isWithin SX7_isWithin rfl (by decide) rfl (Nat.le_of_ble_eq_true rfl) ?_
  refine go_if_eqB (tgt := 18) (pc := 9) dX1_bodyFor_9 (by decide) (fun c_9 => ?_) (fun c_9 => ?_)
  · exact (c_9 ⟨by rw [nI_toInt (by omega)]; omega, by rw [nI_toInt (by omega)]; omega⟩).elim
  · refine go_aload_n (pc := 12) dX1_bodyFor_12 rfl ?_
    refine go_iload_n (pc := 13) dX1_bodyFor_13 rfl ?_
    refine go_tldN (x := (nI b)) (by decide) (by decide) (pc := 14) dX1_bodyFor_14 (by omega) hb ?_
    refine go_goto (tgt := 21) (pc := 15) dX1_bodyFor_15 (by decide) ?_
    exact go_retI (pc := 21) dX1_bodyFor_21 rfl rfl
set_option maxHeartbeats 4000000 in
set_option maxRecDepth 100000 in
theorem ev_give_10 {X : py_X} {σ : py_H} {H : Nat → Nat} (hc : py_hd σ 7 H) (hw : py_wf H) {p t dp : Nat} (hp : p < H 12) (ht : σ 45 1 = nI t) (h10 : t + 1 ≤ 16) (hdp : dp + 1 ≤ 16) : py_Ev X 1 yX1_give cX1_give 7 (some .int) [.ref 45, .int (nI 10), .ref 7, .int (nI p), .int (nI dp)] σ (py_vs (some (.int (nI (H (14 + 4 * p))))) (fun s => s = py_trc σ t [10])) := by
  obtain ⟨w0, w1, w2, w3, w12, w03, w00, wW, wP, wR⟩ := id hw
  refine py_ofI (own := RX1) YX1_give.2.2.2.2 rfl rfl (Nat.le_of_ble_eq_true rfl)  ?_
  show py_Go X RX1 cX1_give 7 1 0 [some (.ref 45), some (.int (nI 10)), some (.ref 7), some (.int (nI p)), some (.int (nI dp)), none, none] [] σ (py_vs (some (.int (nI (H (14 + 4 * p))))) (fun s => s = py_trc σ t [10]))
  refine go_iload (pc := 0) dX1_give_0 rfl ?_
  refine go_bipush (v := nI 16) (pc := 2) dX1_give_2 (by decide) ?_
  refine go_icmp_leN (tgt := 9) (pc := 4) dX1_give_4 (by omega) (by omega) (by decide) (fun c_4 => ?_) (fun c_4 => ?_)
  · refine go_aload_n (pc := 9) dX1_give_9 rfl ?_
    refine go_iload_n (pc := 10) dX1_give_10 rfl ?_
    refine go_cVv (pc := 11) dX1_give_11 (ev_begin ht (by omega)) lX1_45 YX1_begin VX1_begin rfl rfl rfl (by decide) rfl (Nat.le_of_ble_eq_true rfl) (fun s1 e1 => ?_)
    subst e1
    have hf1 := py_trc_fr [10] σ t
    have hc1 := py_hd_fr hf1 (by decide) (by decide) hc
    refine go_aload_n (pc := 14) dX1_give_14 rfl ?_
    refine go_getR (pc := 15) dX1_give_15 fX1_26 rfl rfl ?_
    refine go_iload_n (pc := 18) dX1_give_18 rfl ?_
    refine go_aldN (x := (nI (H (13 + 4 * p)))) (pc := 19) dX1_give_19 rfl (by show p < 5; omega) (hc1.2.2.2.2.2.2 p hp).1 ?_
    refine go_istore (pc := 20) dX1_give_20 (by decide) rfl ?_
    refine go_iload (pc := 22) dX1_give_22 rfl ?_
    refine go_iconst (v := nI 1) (pc := 24) dX1_give_24 (by decide) ?_
    refine go_iaddN (pc := 25) dX1_give_25  ?_
    refine go_istore (pc := 26) dX1_give_26 (by decide) rfl ?_
    refine go_iload_n (pc := 28) dX1_give_28 rfl ?_
    refine go_swIn (off := 75) (pc := 29) (tgt := 104) dX1_give_29 (by decide) (by decide) (by decide) (by decide) ?_
    refine go_aload_n (pc := 104) dX1_give_104 rfl ?_
    refine go_getR (pc := 105) dX1_give_105 fX1_49 rfl rfl ?_
    refine go_iload_n (pc := 108) dX1_give_108 rfl ?_
    refine go_aldN (x := (nI (H (14 + 4 * p)))) (pc := 109) dX1_give_109 rfl (by show p < 5; omega) (hc1.2.2.2.2.2.2 p hp).2.1 ?_
    exact go_retI (pc := 110) dX1_give_110 rfl rfl
  · omega
set_option maxHeartbeats 4000000 in
set_option maxRecDepth 100000 in
theorem ev_give_20 {X : py_X} {σ : py_H} {H : Nat → Nat} (hc : py_hd σ 7 H) (hw : py_wf H) {p t dp : Nat} (hp : p < H 12) (ht : σ 45 1 = nI t) (h10 : t + 1 ≤ 16) (hdp : dp + 1 ≤ 16) : py_Ev X 1 yX1_give cX1_give 7 (some .int) [.ref 45, .int (nI 20), .ref 7, .int (nI p), .int (nI dp)] σ (py_vs (some (.int (nI p))) (fun s => s = py_trc σ t [20])) := by
  obtain ⟨w0, w1, w2, w3, w12, w03, w00, wW, wP, wR⟩ := id hw
  refine py_ofI (own := RX1) YX1_give.2.2.2.2 rfl rfl (Nat.le_of_ble_eq_true rfl)  ?_
  show py_Go X RX1 cX1_give 7 1 0 [some (.ref 45), some (.int (nI 20)), some (.ref 7), some (.int (nI p)), some (.int (nI dp)), none, none] [] σ (py_vs (some (.int (nI p))) (fun s => s = py_trc σ t [20]))
  refine go_iload (pc := 0) dX1_give_0 rfl ?_
  refine go_bipush (v := nI 16) (pc := 2) dX1_give_2 (by decide) ?_
  refine go_icmp_leN (tgt := 9) (pc := 4) dX1_give_4 (by omega) (by omega) (by decide) (fun c_4 => ?_) (fun c_4 => ?_)
  · refine go_aload_n (pc := 9) dX1_give_9 rfl ?_
    refine go_iload_n (pc := 10) dX1_give_10 rfl ?_
    refine go_cVv (pc := 11) dX1_give_11 (ev_begin ht (by omega)) lX1_45 YX1_begin VX1_begin rfl rfl rfl (by decide) rfl (Nat.le_of_ble_eq_true rfl) (fun s1 e1 => ?_)
    subst e1
    have hf1 := py_trc_fr [20] σ t
    have hc1 := py_hd_fr hf1 (by decide) (by decide) hc
    refine go_aload_n (pc := 14) dX1_give_14 rfl ?_
    refine go_getR (pc := 15) dX1_give_15 fX1_26 rfl rfl ?_
    refine go_iload_n (pc := 18) dX1_give_18 rfl ?_
    refine go_aldN (x := (nI (H (13 + 4 * p)))) (pc := 19) dX1_give_19 rfl (by show p < 5; omega) (hc1.2.2.2.2.2.2 p hp).1 ?_
    refine go_istore (pc := 20) dX1_give_20 (by decide) rfl ?_
    refine go_iload (pc := 22) dX1_give_22 rfl ?_
    refine go_iconst (v := nI 1) (pc := 24) dX1_give_24 (by decide) ?_
    refine go_iaddN (pc := 25) dX1_give_25  ?_
    refine go_istore (pc := 26) dX1_give_26 (by decide) rfl ?_
    refine go_iload_n (pc := 28) dX1_give_28 rfl ?_
    refine go_swIn (off := 151) (pc := 29) (tgt := 180) dX1_give_29 (by decide) (by decide) (by decide) (by decide) ?_
    refine go_iload_n (pc := 180) dX1_give_180 rfl ?_
    exact go_retI (pc := 181) dX1_give_181 rfl rfl
  · omega
set_option maxHeartbeats 4000000 in
set_option maxRecDepth 100000 in
theorem ev_give_21 {X : py_X} {σ : py_H} {H : Nat → Nat} (hc : py_hd σ 7 H) (hw : py_wf H) {p t dp : Nat} (hp : p < H 12) (ht : σ 45 1 = nI t) (h10 : t + 2 ≤ 16) (hdp : dp + 2 ≤ 16) : py_Ev X 2 yX1_give cX1_give 7 (some .int) [.ref 45, .int (nI 21), .ref 7, .int (nI p), .int (nI dp)] σ (py_vs (some (.int (nI (p + H (15 + 4 * p))))) (fun s => s = py_trc σ t [21, 20])) := by
  obtain ⟨w0, w1, w2, w3, w12, w03, w00, wW, wP, wR⟩ := id hw
  refine py_ofI (own := RX1) YX1_give.2.2.2.2 rfl rfl (Nat.le_of_ble_eq_true rfl)  ?_
  show py_Go X RX1 cX1_give 7 2 0 [some (.ref 45), some (.int (nI 21)), some (.ref 7), some (.int (nI p)), some (.int (nI dp)), none, none] [] σ (py_vs (some (.int (nI (p + H (15 + 4 * p))))) (fun s => s = py_trc σ t [21, 20]))
  refine go_iload (pc := 0) dX1_give_0 rfl ?_
  refine go_bipush (v := nI 16) (pc := 2) dX1_give_2 (by decide) ?_
  refine go_icmp_leN (tgt := 9) (pc := 4) dX1_give_4 (by omega) (by omega) (by decide) (fun c_4 => ?_) (fun c_4 => ?_)
  · refine go_aload_n (pc := 9) dX1_give_9 rfl ?_
    refine go_iload_n (pc := 10) dX1_give_10 rfl ?_
    refine go_cVv (pc := 11) dX1_give_11 (ev_begin ht (by omega)) lX1_45 YX1_begin VX1_begin rfl rfl rfl (by decide) rfl (Nat.le_of_ble_eq_true rfl) (fun s1 e1 => ?_)
    subst e1
    have hf1 := py_trc_fr [21] σ t
    have hc1 := py_hd_fr hf1 (by decide) (by decide) hc
    refine go_aload_n (pc := 14) dX1_give_14 rfl ?_
    refine go_getR (pc := 15) dX1_give_15 fX1_26 rfl rfl ?_
    refine go_iload_n (pc := 18) dX1_give_18 rfl ?_
    refine go_aldN (x := (nI (H (13 + 4 * p)))) (pc := 19) dX1_give_19 rfl (by show p < 5; omega) (hc1.2.2.2.2.2.2 p hp).1 ?_
    refine go_istore (pc := 20) dX1_give_20 (by decide) rfl ?_
    refine go_iload (pc := 22) dX1_give_22 rfl ?_
    refine go_iconst (v := nI 1) (pc := 24) dX1_give_24 (by decide) ?_
    refine go_iaddN (pc := 25) dX1_give_25  ?_
    refine go_istore (pc := 26) dX1_give_26 (by decide) rfl ?_
    refine go_iload_n (pc := 28) dX1_give_28 rfl ?_
    refine go_swIn (off := 153) (pc := 29) (tgt := 182) dX1_give_29 (by decide) (by decide) (by decide) (by decide) ?_
    refine go_aload_n (pc := 182) dX1_give_182 rfl ?_
    refine go_bipush (v := nI 20) (pc := 183) dX1_give_183 (by decide) ?_
    refine go_aload_n (pc := 185) dX1_give_185 rfl ?_
    refine go_iload_n (pc := 186) dX1_give_186 rfl ?_
    refine go_iload (pc := 187) dX1_give_187 rfl ?_
    refine go_cVi (pc := 189) dX1_give_189 (ev_give_20 hc1 hw hp (py_trc_n [21] σ t ht) (by simp; omega) (by omega)) lX1_38 YX1_give VX1_give rfl rfl rfl (by decide) rfl (Nat.le_of_ble_eq_true rfl) (fun s2 e2 => ?_)
    have e2b : s2 = py_trc σ t [21, 20] := e2.trans (py_trc_app [21] [20] σ t)
    subst e2b
    have hc2 := py_hd_fr (py_trc_fr [21, 20] σ t) (by decide) (by decide) hc
    refine go_aload_n (pc := 192) dX1_give_192 rfl ?_
    refine go_getR (pc := 193) dX1_give_193 fX1_52 rfl rfl ?_
    refine go_iload_n (pc := 196) dX1_give_196 rfl ?_
    refine go_aldN (x := (nI (H (15 + 4 * p)))) (pc := 197) dX1_give_197 rfl (by show p < 5; omega) (hc2.2.2.2.2.2.2 p hp).2.2.1 ?_
    refine go_iaddN (pc := 198) dX1_give_198  ?_
    exact go_retI (pc := 199) dX1_give_199 rfl rfl
  · omega
set_option maxHeartbeats 4000000 in
set_option maxRecDepth 100000 in
theorem ev_give_22 {X : py_X} {σ : py_H} {H : Nat → Nat} (hc : py_hd σ 7 H) (hw : py_wf H) {p t dp : Nat} (hp : p < H 12) (ht : σ 45 1 = nI t) (h10 : t + 3 ≤ 16) (hdp : dp + 3 ≤ 16) : py_Ev X 3 yX1_give cX1_give 7 (some .int) [.ref 45, .int (nI 22), .ref 7, .int (nI p), .int (nI dp)] σ (py_vs (some (.int (nI (p + H (15 + 4 * p)) - nI 1000))) (fun s => s = py_trc σ t [22, 21, 20])) := by
  obtain ⟨w0, w1, w2, w3, w12, w03, w00, wW, wP, wR⟩ := id hw
  refine py_ofI (own := RX1) YX1_give.2.2.2.2 rfl rfl (Nat.le_of_ble_eq_true rfl)  ?_
  show py_Go X RX1 cX1_give 7 3 0 [some (.ref 45), some (.int (nI 22)), some (.ref 7), some (.int (nI p)), some (.int (nI dp)), none, none] [] σ (py_vs (some (.int (nI (p + H (15 + 4 * p)) - nI 1000))) (fun s => s = py_trc σ t [22, 21, 20]))
  refine go_iload (pc := 0) dX1_give_0 rfl ?_
  refine go_bipush (v := nI 16) (pc := 2) dX1_give_2 (by decide) ?_
  refine go_icmp_leN (tgt := 9) (pc := 4) dX1_give_4 (by omega) (by omega) (by decide) (fun c_4 => ?_) (fun c_4 => ?_)
  · refine go_aload_n (pc := 9) dX1_give_9 rfl ?_
    refine go_iload_n (pc := 10) dX1_give_10 rfl ?_
    refine go_cVv (pc := 11) dX1_give_11 (ev_begin ht (by omega)) lX1_45 YX1_begin VX1_begin rfl rfl rfl (by decide) rfl (Nat.le_of_ble_eq_true rfl) (fun s1 e1 => ?_)
    subst e1
    have hf1 := py_trc_fr [22] σ t
    have hc1 := py_hd_fr hf1 (by decide) (by decide) hc
    refine go_aload_n (pc := 14) dX1_give_14 rfl ?_
    refine go_getR (pc := 15) dX1_give_15 fX1_26 rfl rfl ?_
    refine go_iload_n (pc := 18) dX1_give_18 rfl ?_
    refine go_aldN (x := (nI (H (13 + 4 * p)))) (pc := 19) dX1_give_19 rfl (by show p < 5; omega) (hc1.2.2.2.2.2.2 p hp).1 ?_
    refine go_istore (pc := 20) dX1_give_20 (by decide) rfl ?_
    refine go_iload (pc := 22) dX1_give_22 rfl ?_
    refine go_iconst (v := nI 1) (pc := 24) dX1_give_24 (by decide) ?_
    refine go_iaddN (pc := 25) dX1_give_25  ?_
    refine go_istore (pc := 26) dX1_give_26 (by decide) rfl ?_
    refine go_iload_n (pc := 28) dX1_give_28 rfl ?_
    refine go_swIn (off := 171) (pc := 29) (tgt := 200) dX1_give_29 (by decide) (by decide) (by decide) (by decide) ?_
    refine go_aload_n (pc := 200) dX1_give_200 rfl ?_
    refine go_bipush (v := nI 21) (pc := 201) dX1_give_201 (by decide) ?_
    refine go_aload_n (pc := 203) dX1_give_203 rfl ?_
    refine go_iload_n (pc := 204) dX1_give_204 rfl ?_
    refine go_iload (pc := 205) dX1_give_205 rfl ?_
    refine go_cVi (pc := 207) dX1_give_207 (ev_give_21 hc1 hw hp (py_trc_n [22] σ t ht) (by simp; omega) (by omega)) lX1_38 YX1_give VX1_give rfl rfl rfl (by decide) rfl (Nat.le_of_ble_eq_true rfl) (fun s2 e2 => ?_)
    have e2b : s2 = py_trc σ t [22, 21, 20] := e2.trans (py_trc_app [22] [21, 20] σ t)
    subst e2b
    have hc2 := py_hd_fr (py_trc_fr [22, 21, 20] σ t) (by decide) (by decide) hc
    refine go_sipush (v := nI 1000) (pc := 210) dX1_give_210 (by decide) ?_
    refine go_isub (pc := 213) dX1_give_213  ?_
    exact go_retI (pc := 214) dX1_give_214 rfl rfl
  · omega
set_option maxHeartbeats 4000000 in
set_option maxRecDepth 100000 in
theorem ev_give_24 {X : py_X} {σ : py_H} {H : Nat → Nat} (hc : py_hd σ 7 H) (hw : py_wf H) {p t dp : Nat} (hp : p < H 12) (ht : σ 45 1 = nI t) (h10 : t + 3 ≤ 16) (hdp : dp + 3 ≤ 16) : py_Ev X 3 yX1_give cX1_give 7 (some .int) [.ref 45, .int (nI 24), .ref 7, .int (nI p), .int (nI dp)] σ (py_vs (some (.int (nI (2 * (p + H (15 + 4 * p)))))) (fun s => s = py_trc σ t [24, 21, 20])) := by
  obtain ⟨w0, w1, w2, w3, w12, w03, w00, wW, wP, wR⟩ := id hw
  refine py_ofI (own := RX1) YX1_give.2.2.2.2 rfl rfl (Nat.le_of_ble_eq_true rfl)  ?_
  show py_Go X RX1 cX1_give 7 3 0 [some (.ref 45), some (.int (nI 24)), some (.ref 7), some (.int (nI p)), some (.int (nI dp)), none, none] [] σ (py_vs (some (.int (nI (2 * (p + H (15 + 4 * p)))))) (fun s => s = py_trc σ t [24, 21, 20]))
  refine go_iload (pc := 0) dX1_give_0 rfl ?_
  refine go_bipush (v := nI 16) (pc := 2) dX1_give_2 (by decide) ?_
  refine go_icmp_leN (tgt := 9) (pc := 4) dX1_give_4 (by omega) (by omega) (by decide) (fun c_4 => ?_) (fun c_4 => ?_)
  · refine go_aload_n (pc := 9) dX1_give_9 rfl ?_
    refine go_iload_n (pc := 10) dX1_give_10 rfl ?_
    refine go_cVv (pc := 11) dX1_give_11 (ev_begin ht (by omega)) lX1_45 YX1_begin VX1_begin rfl rfl rfl (by decide) rfl (Nat.le_of_ble_eq_true rfl) (fun s1 e1 => ?_)
    subst e1
    have hf1 := py_trc_fr [24] σ t
    have hc1 := py_hd_fr hf1 (by decide) (by decide) hc
    refine go_aload_n (pc := 14) dX1_give_14 rfl ?_
    refine go_getR (pc := 15) dX1_give_15 fX1_26 rfl rfl ?_
    refine go_iload_n (pc := 18) dX1_give_18 rfl ?_
    refine go_aldN (x := (nI (H (13 + 4 * p)))) (pc := 19) dX1_give_19 rfl (by show p < 5; omega) (hc1.2.2.2.2.2.2 p hp).1 ?_
    refine go_istore (pc := 20) dX1_give_20 (by decide) rfl ?_
    refine go_iload (pc := 22) dX1_give_22 rfl ?_
    refine go_iconst (v := nI 1) (pc := 24) dX1_give_24 (by decide) ?_
    refine go_iaddN (pc := 25) dX1_give_25  ?_
    refine go_istore (pc := 26) dX1_give_26 (by decide) rfl ?_
    refine go_iload_n (pc := 28) dX1_give_28 rfl ?_
    refine go_swIn (off := 215) (pc := 29) (tgt := 244) dX1_give_29 (by decide) (by decide) (by decide) (by decide) ?_
    refine go_iconst (v := nI 2) (pc := 244) dX1_give_244 (by decide) ?_
    refine go_aload_n (pc := 245) dX1_give_245 rfl ?_
    refine go_bipush (v := nI 21) (pc := 246) dX1_give_246 (by decide) ?_
    refine go_aload_n (pc := 248) dX1_give_248 rfl ?_
    refine go_iload_n (pc := 249) dX1_give_249 rfl ?_
    refine go_iload (pc := 250) dX1_give_250 rfl ?_
    refine go_cVi (pc := 252) dX1_give_252 (ev_give_21 hc1 hw hp (py_trc_n [24] σ t ht) (by simp; omega) (by omega)) lX1_38 YX1_give VX1_give rfl rfl rfl (by decide) rfl (Nat.le_of_ble_eq_true rfl) (fun s2 e2 => ?_)
    have e2b : s2 = py_trc σ t [24, 21, 20] := e2.trans (py_trc_app [24] [21, 20] σ t)
    subst e2b
    have hc2 := py_hd_fr (py_trc_fr [24, 21, 20] σ t) (by decide) (by decide) hc
    refine go_imulN (pc := 255) dX1_give_255  ?_
    exact go_retI (pc := 256) dX1_give_256 rfl rfl
  · omega
set_option maxHeartbeats 4000000 in
set_option maxRecDepth 100000 in
theorem ev_give_13 {X : py_X} {σ : py_H} {H : Nat → Nat} (hc : py_hd σ 7 H) (hw : py_wf H) {p t dp : Nat} (hp : p < H 12) (ht : σ 45 1 = nI t) (h10 : t + 2 ≤ 16) (hdp : dp + 2 ≤ 16) : py_Ev X 2 yX1_give cX1_give 7 (some .int) [.ref 45, .int (nI 13), .ref 7, .int (nI p), .int (nI dp)] σ (py_vs (some (.int (nI (H (14 + 4 * p)) - nI 100))) (fun s => s = py_trc σ t [13, 10])) := by
  obtain ⟨w0, w1, w2, w3, w12, w03, w00, wW, wP, wR⟩ := id hw
  refine py_ofI (own := RX1) YX1_give.2.2.2.2 rfl rfl (Nat.le_of_ble_eq_true rfl)  ?_
  show py_Go X RX1 cX1_give 7 2 0 [some (.ref 45), some (.int (nI 13)), some (.ref 7), some (.int (nI p)), some (.int (nI dp)), none, none] [] σ (py_vs (some (.int (nI (H (14 + 4 * p)) - nI 100))) (fun s => s = py_trc σ t [13, 10]))
  refine go_iload (pc := 0) dX1_give_0 rfl ?_
  refine go_bipush (v := nI 16) (pc := 2) dX1_give_2 (by decide) ?_
  refine go_icmp_leN (tgt := 9) (pc := 4) dX1_give_4 (by omega) (by omega) (by decide) (fun c_4 => ?_) (fun c_4 => ?_)
  · refine go_aload_n (pc := 9) dX1_give_9 rfl ?_
    refine go_iload_n (pc := 10) dX1_give_10 rfl ?_
    refine go_cVv (pc := 11) dX1_give_11 (ev_begin ht (by omega)) lX1_45 YX1_begin VX1_begin rfl rfl rfl (by decide) rfl (Nat.le_of_ble_eq_true rfl) (fun s1 e1 => ?_)
    subst e1
    have hf1 := py_trc_fr [13] σ t
    have hc1 := py_hd_fr hf1 (by decide) (by decide) hc
    refine go_aload_n (pc := 14) dX1_give_14 rfl ?_
    refine go_getR (pc := 15) dX1_give_15 fX1_26 rfl rfl ?_
    refine go_iload_n (pc := 18) dX1_give_18 rfl ?_
    refine go_aldN (x := (nI (H (13 + 4 * p)))) (pc := 19) dX1_give_19 rfl (by show p < 5; omega) (hc1.2.2.2.2.2.2 p hp).1 ?_
    refine go_istore (pc := 20) dX1_give_20 (by decide) rfl ?_
    refine go_iload (pc := 22) dX1_give_22 rfl ?_
    refine go_iconst (v := nI 1) (pc := 24) dX1_give_24 (by decide) ?_
    refine go_iaddN (pc := 25) dX1_give_25  ?_
    refine go_istore (pc := 26) dX1_give_26 (by decide) rfl ?_
    refine go_iload_n (pc := 28) dX1_give_28 rfl ?_
    refine go_swIn (off := 124) (pc := 29) (tgt := 153) dX1_give_29 (by decide) (by decide) (by decide) (by decide) ?_
    refine go_aload_n (pc := 153) dX1_give_153 rfl ?_
    refine go_bipush (v := nI 10) (pc := 154) dX1_give_154 (by decide) ?_
    refine go_aload_n (pc := 156) dX1_give_156 rfl ?_
    refine go_iload_n (pc := 157) dX1_give_157 rfl ?_
    refine go_iload (pc := 158) dX1_give_158 rfl ?_
    refine go_cVi (pc := 160) dX1_give_160 (ev_give_10 hc1 hw hp (py_trc_n [13] σ t ht) (by simp; omega) (by omega)) lX1_38 YX1_give VX1_give rfl rfl rfl (by decide) rfl (Nat.le_of_ble_eq_true rfl) (fun s2 e2 => ?_)
    have e2b : s2 = py_trc σ t [13, 10] := e2.trans (py_trc_app [13] [10] σ t)
    subst e2b
    have hc2 := py_hd_fr (py_trc_fr [13, 10] σ t) (by decide) (by decide) hc
    refine go_bipush (v := nI 100) (pc := 163) dX1_give_163 (by decide) ?_
    refine go_isub (pc := 165) dX1_give_165  ?_
    exact go_retI (pc := 166) dX1_give_166 rfl rfl
  · omega
set_option maxHeartbeats 4000000 in
set_option maxRecDepth 100000 in
theorem ev_give_14 {X : py_X} {σ : py_H} {H : Nat → Nat} (hc : py_hd σ 7 H) (hw : py_wf H) {p t dp : Nat} (hp : p < H 12) (ht : σ 45 1 = nI t) (h10 : t + 3 ≤ 16) (hdp : dp + 3 ≤ 16) : py_Ev X 3 yX1_give cX1_give 7 (some .int) [.ref 45, .int (nI 14), .ref 7, .int (nI p), .int (nI dp)] σ (py_vs (some (.int (nI 2 * (nI (H (14 + 4 * p)) - nI 100)))) (fun s => s = py_trc σ t [14, 13, 10])) := by
  obtain ⟨w0, w1, w2, w3, w12, w03, w00, wW, wP, wR⟩ := id hw
  refine py_ofI (own := RX1) YX1_give.2.2.2.2 rfl rfl (Nat.le_of_ble_eq_true rfl)  ?_
  show py_Go X RX1 cX1_give 7 3 0 [some (.ref 45), some (.int (nI 14)), some (.ref 7), some (.int (nI p)), some (.int (nI dp)), none, none] [] σ (py_vs (some (.int (nI 2 * (nI (H (14 + 4 * p)) - nI 100)))) (fun s => s = py_trc σ t [14, 13, 10]))
  refine go_iload (pc := 0) dX1_give_0 rfl ?_
  refine go_bipush (v := nI 16) (pc := 2) dX1_give_2 (by decide) ?_
  refine go_icmp_leN (tgt := 9) (pc := 4) dX1_give_4 (by omega) (by omega) (by decide) (fun c_4 => ?_) (fun c_4 => ?_)
  · refine go_aload_n (pc := 9) dX1_give_9 rfl ?_
    refine go_iload_n (pc := 10) dX1_give_10 rfl ?_
    refine go_cVv (pc := 11) dX1_give_11 (ev_begin ht (by omega)) lX1_45 YX1_begin VX1_begin rfl rfl rfl (by decide) rfl (Nat.le_of_ble_eq_true rfl) (fun s1 e1 => ?_)
    subst e1
    have hf1 := py_trc_fr [14] σ t
    have hc1 := py_hd_fr hf1 (by decide) (by decide) hc
    refine go_aload_n (pc := 14) dX1_give_14 rfl ?_
    refine go_getR (pc := 15) dX1_give_15 fX1_26 rfl rfl ?_
    refine go_iload_n (pc := 18) dX1_give_18 rfl ?_
    refine go_aldN (x := (nI (H (13 + 4 * p)))) (pc := 19) dX1_give_19 rfl (by show p < 5; omega) (hc1.2.2.2.2.2.2 p hp).1 ?_
    refine go_istore (pc := 20) dX1_give_20 (by decide) rfl ?_
    refine go_iload (pc := 22) dX1_give_22 rfl ?_
    refine go_iconst (v := nI 1) (pc := 24) dX1_give_24 (by decide) ?_
    refine go_iaddN (pc := 25) dX1_give_25  ?_
    refine go_istore (pc := 26) dX1_give_26 (by decide) rfl ?_
    refine go_iload_n (pc := 28) dX1_give_28 rfl ?_
    refine go_swIn (off := 138) (pc := 29) (tgt := 167) dX1_give_29 (by decide) (by decide) (by decide) (by decide) ?_
    refine go_iconst (v := nI 2) (pc := 167) dX1_give_167 (by decide) ?_
    refine go_aload_n (pc := 168) dX1_give_168 rfl ?_
    refine go_bipush (v := nI 13) (pc := 169) dX1_give_169 (by decide) ?_
    refine go_aload_n (pc := 171) dX1_give_171 rfl ?_
    refine go_iload_n (pc := 172) dX1_give_172 rfl ?_
    refine go_iload (pc := 173) dX1_give_173 rfl ?_
    refine go_cVi (pc := 175) dX1_give_175 (ev_give_13 hc1 hw hp (py_trc_n [14] σ t ht) (by simp; omega) (by omega)) lX1_38 YX1_give VX1_give rfl rfl rfl (by decide) rfl (Nat.le_of_ble_eq_true rfl) (fun s2 e2 => ?_)
    have e2b : s2 = py_trc σ t [14, 13, 10] := e2.trans (py_trc_app [14] [13, 10] σ t)
    subst e2b
    have hc2 := py_hd_fr (py_trc_fr [14, 13, 10] σ t) (by decide) (by decide) hc
    refine go_imul (pc := 178) dX1_give_178  ?_
    exact go_retI (pc := 179) dX1_give_179 rfl rfl
  · omega
set_option maxHeartbeats 4000000 in
set_option maxRecDepth 100000 in
theorem ev_give_11_1 {X : py_X} {σ : py_H} {H : Nat → Nat} (hc : py_hd σ 7 H) (hw : py_wf H) {p t dp : Nat} (hp : p < H 12) (ht : σ 45 1 = nI t) (h10 : t + 4 ≤ 16) (hdp : dp + 4 ≤ 16) (hk : H (13 + 4 * p) = 1) : py_Ev X 4 yX1_give cX1_give 7 (some .int) [.ref 45, .int (nI 11), .ref 7, .int (nI p), .int (nI dp)] σ (py_vs (some (.int (nI ((H (14 + 4 * p)) + (p + H (15 + 4 * p)))))) (fun s => s = py_trc σ t [11, 10, 21, 20])) := by
  obtain ⟨w0, w1, w2, w3, w12, w03, w00, wW, wP, wR⟩ := id hw
  refine py_ofI (own := RX1) YX1_give.2.2.2.2 rfl rfl (Nat.le_of_ble_eq_true rfl)  ?_
  show py_Go X RX1 cX1_give 7 4 0 [some (.ref 45), some (.int (nI 11)), some (.ref 7), some (.int (nI p)), some (.int (nI dp)), none, none] [] σ (py_vs (some (.int (nI ((H (14 + 4 * p)) + (p + H (15 + 4 * p)))))) (fun s => s = py_trc σ t [11, 10, 21, 20]))
  refine go_iload (pc := 0) dX1_give_0 rfl ?_
  refine go_bipush (v := nI 16) (pc := 2) dX1_give_2 (by decide) ?_
  refine go_icmp_leN (tgt := 9) (pc := 4) dX1_give_4 (by omega) (by omega) (by decide) (fun c_4 => ?_) (fun c_4 => ?_)
  · refine go_aload_n (pc := 9) dX1_give_9 rfl ?_
    refine go_iload_n (pc := 10) dX1_give_10 rfl ?_
    refine go_cVv (pc := 11) dX1_give_11 (ev_begin ht (by omega)) lX1_45 YX1_begin VX1_begin rfl rfl rfl (by decide) rfl (Nat.le_of_ble_eq_true rfl) (fun s1 e1 => ?_)
    subst e1
    have hf1 := py_trc_fr [11] σ t
    have hc1 := py_hd_fr hf1 (by decide) (by decide) hc
    refine go_aload_n (pc := 14) dX1_give_14 rfl ?_
    refine go_getR (pc := 15) dX1_give_15 fX1_26 rfl rfl ?_
    refine go_iload_n (pc := 18) dX1_give_18 rfl ?_
    refine go_aldN (x := (nI 1)) (pc := 19) dX1_give_19 rfl (by show p < 5; omega) ((hc1.2.2.2.2.2.2 p hp).1.trans (by rw [hk])) ?_
    refine go_istore (pc := 20) dX1_give_20 (by decide) rfl ?_
    refine go_iload (pc := 22) dX1_give_22 rfl ?_
    refine go_iconst (v := nI 1) (pc := 24) dX1_give_24 (by decide) ?_
    refine go_iaddN (pc := 25) dX1_give_25  ?_
    refine go_istore (pc := 26) dX1_give_26 (by decide) rfl ?_
    refine go_iload_n (pc := 28) dX1_give_28 rfl ?_
    refine go_swIn (off := 82) (pc := 29) (tgt := 111) dX1_give_29 (by decide) (by decide) (by decide) (by decide) ?_
    refine go_aload_n (pc := 111) dX1_give_111 rfl ?_
    refine go_bipush (v := nI 10) (pc := 112) dX1_give_112 (by decide) ?_
    refine go_aload_n (pc := 114) dX1_give_114 rfl ?_
    refine go_iload_n (pc := 115) dX1_give_115 rfl ?_
    refine go_iload (pc := 116) dX1_give_116 rfl ?_
    refine go_cVi (pc := 118) dX1_give_118 (ev_give_10 hc1 hw hp (py_trc_n [11] σ t ht) (by simp; omega) (by omega)) lX1_38 YX1_give VX1_give rfl rfl rfl (by decide) rfl (Nat.le_of_ble_eq_true rfl) (fun s2 e2 => ?_)
    have e2b : s2 = py_trc σ t [11, 10] := e2.trans (py_trc_app [11] [10] σ t)
    subst e2b
    have hc2 := py_hd_fr (py_trc_fr [11, 10] σ t) (by decide) (by decide) hc
    refine go_aload_n (pc := 121) dX1_give_121 rfl ?_
    refine go_aload_n (pc := 122) dX1_give_122 rfl ?_
    refine go_iload (pc := 123) dX1_give_123 rfl ?_
    refine go_tget (k := 64) (by decide) (by decide) (pc := 125) dX1_give_125 sX1_42 ?_
    refine go_cV (pc := 128) dX1_give_128 (ev_bodyFor64 (K := 1) (b := 21) (by decide) (by decide)) lX1_34 YX1_bodyFor VX1_bodyFor rfl rfl rfl (by decide) rfl (Nat.le_of_ble_eq_true rfl) ?_
    refine go_aload_n (pc := 131) dX1_give_131 rfl ?_
    refine go_iload_n (pc := 132) dX1_give_132 rfl ?_
    refine go_iload (pc := 133) dX1_give_133 rfl ?_
    refine go_cVi (pc := 135) dX1_give_135 (ev_give_21 hc2 hw hp (py_trc_n [11, 10] σ t ht) (by simp; omega) (by omega)) lX1_38 YX1_give VX1_give rfl rfl rfl (by decide) rfl (Nat.le_of_ble_eq_true rfl) (fun s3 e3 => ?_)
    have e3b : s3 = py_trc σ t [11, 10, 21, 20] := e3.trans (py_trc_app [11, 10] [21, 20] σ t)
    subst e3b
    have hc3 := py_hd_fr (py_trc_fr [11, 10, 21, 20] σ t) (by decide) (by decide) hc
    refine go_iaddN (pc := 138) dX1_give_138  ?_
    exact go_retI (pc := 139) dX1_give_139 rfl rfl
  · omega
set_option maxHeartbeats 4000000 in
set_option maxRecDepth 100000 in
theorem ev_give_11_2 {X : py_X} {σ : py_H} {H : Nat → Nat} (hc : py_hd σ 7 H) (hw : py_wf H) {p t dp : Nat} (hp : p < H 12) (ht : σ 45 1 = nI t) (h10 : t + 5 ≤ 16) (hdp : dp + 4 ≤ 16) (hk : H (13 + 4 * p) = 2) : py_Ev X 4 yX1_give cX1_give 7 (some .int) [.ref 45, .int (nI 11), .ref 7, .int (nI p), .int (nI dp)] σ (py_vs (some (.int (nI ((H (14 + 4 * p)) + (2 * (p + H (15 + 4 * p))))))) (fun s => s = py_trc σ t [11, 10, 24, 21, 20])) := by
  obtain ⟨w0, w1, w2, w3, w12, w03, w00, wW, wP, wR⟩ := id hw
  refine py_ofI (own := RX1) YX1_give.2.2.2.2 rfl rfl (Nat.le_of_ble_eq_true rfl)  ?_
  show py_Go X RX1 cX1_give 7 4 0 [some (.ref 45), some (.int (nI 11)), some (.ref 7), some (.int (nI p)), some (.int (nI dp)), none, none] [] σ (py_vs (some (.int (nI ((H (14 + 4 * p)) + (2 * (p + H (15 + 4 * p))))))) (fun s => s = py_trc σ t [11, 10, 24, 21, 20]))
  refine go_iload (pc := 0) dX1_give_0 rfl ?_
  refine go_bipush (v := nI 16) (pc := 2) dX1_give_2 (by decide) ?_
  refine go_icmp_leN (tgt := 9) (pc := 4) dX1_give_4 (by omega) (by omega) (by decide) (fun c_4 => ?_) (fun c_4 => ?_)
  · refine go_aload_n (pc := 9) dX1_give_9 rfl ?_
    refine go_iload_n (pc := 10) dX1_give_10 rfl ?_
    refine go_cVv (pc := 11) dX1_give_11 (ev_begin ht (by omega)) lX1_45 YX1_begin VX1_begin rfl rfl rfl (by decide) rfl (Nat.le_of_ble_eq_true rfl) (fun s1 e1 => ?_)
    subst e1
    have hf1 := py_trc_fr [11] σ t
    have hc1 := py_hd_fr hf1 (by decide) (by decide) hc
    refine go_aload_n (pc := 14) dX1_give_14 rfl ?_
    refine go_getR (pc := 15) dX1_give_15 fX1_26 rfl rfl ?_
    refine go_iload_n (pc := 18) dX1_give_18 rfl ?_
    refine go_aldN (x := (nI 2)) (pc := 19) dX1_give_19 rfl (by show p < 5; omega) ((hc1.2.2.2.2.2.2 p hp).1.trans (by rw [hk])) ?_
    refine go_istore (pc := 20) dX1_give_20 (by decide) rfl ?_
    refine go_iload (pc := 22) dX1_give_22 rfl ?_
    refine go_iconst (v := nI 1) (pc := 24) dX1_give_24 (by decide) ?_
    refine go_iaddN (pc := 25) dX1_give_25  ?_
    refine go_istore (pc := 26) dX1_give_26 (by decide) rfl ?_
    refine go_iload_n (pc := 28) dX1_give_28 rfl ?_
    refine go_swIn (off := 82) (pc := 29) (tgt := 111) dX1_give_29 (by decide) (by decide) (by decide) (by decide) ?_
    refine go_aload_n (pc := 111) dX1_give_111 rfl ?_
    refine go_bipush (v := nI 10) (pc := 112) dX1_give_112 (by decide) ?_
    refine go_aload_n (pc := 114) dX1_give_114 rfl ?_
    refine go_iload_n (pc := 115) dX1_give_115 rfl ?_
    refine go_iload (pc := 116) dX1_give_116 rfl ?_
    refine go_cVi (pc := 118) dX1_give_118 (ev_give_10 hc1 hw hp (py_trc_n [11] σ t ht) (by simp; omega) (by omega)) lX1_38 YX1_give VX1_give rfl rfl rfl (by decide) rfl (Nat.le_of_ble_eq_true rfl) (fun s2 e2 => ?_)
    have e2b : s2 = py_trc σ t [11, 10] := e2.trans (py_trc_app [11] [10] σ t)
    subst e2b
    have hc2 := py_hd_fr (py_trc_fr [11, 10] σ t) (by decide) (by decide) hc
    refine go_aload_n (pc := 121) dX1_give_121 rfl ?_
    refine go_aload_n (pc := 122) dX1_give_122 rfl ?_
    refine go_iload (pc := 123) dX1_give_123 rfl ?_
    refine go_tget (k := 64) (by decide) (by decide) (pc := 125) dX1_give_125 sX1_42 ?_
    refine go_cV (pc := 128) dX1_give_128 (ev_bodyFor64 (K := 2) (b := 24) (by decide) (by decide)) lX1_34 YX1_bodyFor VX1_bodyFor rfl rfl rfl (by decide) rfl (Nat.le_of_ble_eq_true rfl) ?_
    refine go_aload_n (pc := 131) dX1_give_131 rfl ?_
    refine go_iload_n (pc := 132) dX1_give_132 rfl ?_
    refine go_iload (pc := 133) dX1_give_133 rfl ?_
    refine go_cVi (pc := 135) dX1_give_135 (ev_give_24 hc2 hw hp (py_trc_n [11, 10] σ t ht) (by simp; omega) (by omega)) lX1_38 YX1_give VX1_give rfl rfl rfl (by decide) rfl (Nat.le_of_ble_eq_true rfl) (fun s3 e3 => ?_)
    have e3b : s3 = py_trc σ t [11, 10, 24, 21, 20] := e3.trans (py_trc_app [11, 10] [24, 21, 20] σ t)
    subst e3b
    have hc3 := py_hd_fr (py_trc_fr [11, 10, 24, 21, 20] σ t) (by decide) (by decide) hc
    refine go_iaddN (pc := 138) dX1_give_138  ?_
    exact go_retI (pc := 139) dX1_give_139 rfl rfl
  · omega
set_option maxHeartbeats 4000000 in
set_option maxRecDepth 100000 in
theorem ev_give_11_3 {X : py_X} {σ : py_H} {H : Nat → Nat} (hc : py_hd σ 7 H) (hw : py_wf H) {p t dp : Nat} (hp : p < H 12) (ht : σ 45 1 = nI t) (h10 : t + 5 ≤ 16) (hdp : dp + 4 ≤ 16) (hk : H (13 + 4 * p) = 3) : py_Ev X 4 yX1_give cX1_give 7 (some .int) [.ref 45, .int (nI 11), .ref 7, .int (nI p), .int (nI dp)] σ (py_vs (some (.int (nI (H (14 + 4 * p)) + (nI (p + H (15 + 4 * p)) - nI 1000)))) (fun s => s = py_trc σ t [11, 10, 22, 21, 20])) := by
  obtain ⟨w0, w1, w2, w3, w12, w03, w00, wW, wP, wR⟩ := id hw
  refine py_ofI (own := RX1) YX1_give.2.2.2.2 rfl rfl (Nat.le_of_ble_eq_true rfl)  ?_
  show py_Go X RX1 cX1_give 7 4 0 [some (.ref 45), some (.int (nI 11)), some (.ref 7), some (.int (nI p)), some (.int (nI dp)), none, none] [] σ (py_vs (some (.int (nI (H (14 + 4 * p)) + (nI (p + H (15 + 4 * p)) - nI 1000)))) (fun s => s = py_trc σ t [11, 10, 22, 21, 20]))
  refine go_iload (pc := 0) dX1_give_0 rfl ?_
  refine go_bipush (v := nI 16) (pc := 2) dX1_give_2 (by decide) ?_
  refine go_icmp_leN (tgt := 9) (pc := 4) dX1_give_4 (by omega) (by omega) (by decide) (fun c_4 => ?_) (fun c_4 => ?_)
  · refine go_aload_n (pc := 9) dX1_give_9 rfl ?_
    refine go_iload_n (pc := 10) dX1_give_10 rfl ?_
    refine go_cVv (pc := 11) dX1_give_11 (ev_begin ht (by omega)) lX1_45 YX1_begin VX1_begin rfl rfl rfl (by decide) rfl (Nat.le_of_ble_eq_true rfl) (fun s1 e1 => ?_)
    subst e1
    have hf1 := py_trc_fr [11] σ t
    have hc1 := py_hd_fr hf1 (by decide) (by decide) hc
    refine go_aload_n (pc := 14) dX1_give_14 rfl ?_
    refine go_getR (pc := 15) dX1_give_15 fX1_26 rfl rfl ?_
    refine go_iload_n (pc := 18) dX1_give_18 rfl ?_
    refine go_aldN (x := (nI 3)) (pc := 19) dX1_give_19 rfl (by show p < 5; omega) ((hc1.2.2.2.2.2.2 p hp).1.trans (by rw [hk])) ?_
    refine go_istore (pc := 20) dX1_give_20 (by decide) rfl ?_
    refine go_iload (pc := 22) dX1_give_22 rfl ?_
    refine go_iconst (v := nI 1) (pc := 24) dX1_give_24 (by decide) ?_
    refine go_iaddN (pc := 25) dX1_give_25  ?_
    refine go_istore (pc := 26) dX1_give_26 (by decide) rfl ?_
    refine go_iload_n (pc := 28) dX1_give_28 rfl ?_
    refine go_swIn (off := 82) (pc := 29) (tgt := 111) dX1_give_29 (by decide) (by decide) (by decide) (by decide) ?_
    refine go_aload_n (pc := 111) dX1_give_111 rfl ?_
    refine go_bipush (v := nI 10) (pc := 112) dX1_give_112 (by decide) ?_
    refine go_aload_n (pc := 114) dX1_give_114 rfl ?_
    refine go_iload_n (pc := 115) dX1_give_115 rfl ?_
    refine go_iload (pc := 116) dX1_give_116 rfl ?_
    refine go_cVi (pc := 118) dX1_give_118 (ev_give_10 hc1 hw hp (py_trc_n [11] σ t ht) (by simp; omega) (by omega)) lX1_38 YX1_give VX1_give rfl rfl rfl (by decide) rfl (Nat.le_of_ble_eq_true rfl) (fun s2 e2 => ?_)
    have e2b : s2 = py_trc σ t [11, 10] := e2.trans (py_trc_app [11] [10] σ t)
    subst e2b
    have hc2 := py_hd_fr (py_trc_fr [11, 10] σ t) (by decide) (by decide) hc
    refine go_aload_n (pc := 121) dX1_give_121 rfl ?_
    refine go_aload_n (pc := 122) dX1_give_122 rfl ?_
    refine go_iload (pc := 123) dX1_give_123 rfl ?_
    refine go_tget (k := 64) (by decide) (by decide) (pc := 125) dX1_give_125 sX1_42 ?_
    refine go_cV (pc := 128) dX1_give_128 (ev_bodyFor64 (K := 3) (b := 22) (by decide) (by decide)) lX1_34 YX1_bodyFor VX1_bodyFor rfl rfl rfl (by decide) rfl (Nat.le_of_ble_eq_true rfl) ?_
    refine go_aload_n (pc := 131) dX1_give_131 rfl ?_
    refine go_iload_n (pc := 132) dX1_give_132 rfl ?_
    refine go_iload (pc := 133) dX1_give_133 rfl ?_
    refine go_cVi (pc := 135) dX1_give_135 (ev_give_22 hc2 hw hp (py_trc_n [11, 10] σ t ht) (by simp; omega) (by omega)) lX1_38 YX1_give VX1_give rfl rfl rfl (by decide) rfl (Nat.le_of_ble_eq_true rfl) (fun s3 e3 => ?_)
    have e3b : s3 = py_trc σ t [11, 10, 22, 21, 20] := e3.trans (py_trc_app [11, 10] [22, 21, 20] σ t)
    subst e3b
    have hc3 := py_hd_fr (py_trc_fr [11, 10, 22, 21, 20] σ t) (by decide) (by decide) hc
    refine go_iadd (pc := 138) dX1_give_138  ?_
    exact go_retI (pc := 139) dX1_give_139 rfl rfl
  · omega
set_option maxHeartbeats 4000000 in
set_option maxRecDepth 100000 in
theorem ev_give_12_2 {X : py_X} {σ : py_H} {H : Nat → Nat} (hc : py_hd σ 7 H) (hw : py_wf H) {p t dp : Nat} (hp : p < H 12) (ht : σ 45 1 = nI t) (h10 : t + 6 ≤ 16) (hdp : dp + 5 ≤ 16) (hk : H (13 + 4 * p) = 2) : py_Ev X 5 yX1_give cX1_give 7 (some .int) [.ref 45, .int (nI 12), .ref 7, .int (nI p), .int (nI dp)] σ (py_vs (some (.int (nI 0 - nI ((H (14 + 4 * p)) + (2 * (p + H (15 + 4 * p))))))) (fun s => s = py_trc σ t [12, 11, 10, 24, 21, 20])) := by
  obtain ⟨w0, w1, w2, w3, w12, w03, w00, wW, wP, wR⟩ := id hw
  refine py_ofI (own := RX1) YX1_give.2.2.2.2 rfl rfl (Nat.le_of_ble_eq_true rfl)  ?_
  show py_Go X RX1 cX1_give 7 5 0 [some (.ref 45), some (.int (nI 12)), some (.ref 7), some (.int (nI p)), some (.int (nI dp)), none, none] [] σ (py_vs (some (.int (nI 0 - nI ((H (14 + 4 * p)) + (2 * (p + H (15 + 4 * p))))))) (fun s => s = py_trc σ t [12, 11, 10, 24, 21, 20]))
  refine go_iload (pc := 0) dX1_give_0 rfl ?_
  refine go_bipush (v := nI 16) (pc := 2) dX1_give_2 (by decide) ?_
  refine go_icmp_leN (tgt := 9) (pc := 4) dX1_give_4 (by omega) (by omega) (by decide) (fun c_4 => ?_) (fun c_4 => ?_)
  · refine go_aload_n (pc := 9) dX1_give_9 rfl ?_
    refine go_iload_n (pc := 10) dX1_give_10 rfl ?_
    refine go_cVv (pc := 11) dX1_give_11 (ev_begin ht (by omega)) lX1_45 YX1_begin VX1_begin rfl rfl rfl (by decide) rfl (Nat.le_of_ble_eq_true rfl) (fun s1 e1 => ?_)
    subst e1
    have hf1 := py_trc_fr [12] σ t
    have hc1 := py_hd_fr hf1 (by decide) (by decide) hc
    refine go_aload_n (pc := 14) dX1_give_14 rfl ?_
    refine go_getR (pc := 15) dX1_give_15 fX1_26 rfl rfl ?_
    refine go_iload_n (pc := 18) dX1_give_18 rfl ?_
    refine go_aldN (x := (nI 2)) (pc := 19) dX1_give_19 rfl (by show p < 5; omega) ((hc1.2.2.2.2.2.2 p hp).1.trans (by rw [hk])) ?_
    refine go_istore (pc := 20) dX1_give_20 (by decide) rfl ?_
    refine go_iload (pc := 22) dX1_give_22 rfl ?_
    refine go_iconst (v := nI 1) (pc := 24) dX1_give_24 (by decide) ?_
    refine go_iaddN (pc := 25) dX1_give_25  ?_
    refine go_istore (pc := 26) dX1_give_26 (by decide) rfl ?_
    refine go_iload_n (pc := 28) dX1_give_28 rfl ?_
    refine go_swIn (off := 111) (pc := 29) (tgt := 140) dX1_give_29 (by decide) (by decide) (by decide) (by decide) ?_
    refine go_iconst (v := nI 0) (pc := 140) dX1_give_140 (by decide) ?_
    refine go_aload_n (pc := 141) dX1_give_141 rfl ?_
    refine go_bipush (v := nI 11) (pc := 142) dX1_give_142 (by decide) ?_
    refine go_aload_n (pc := 144) dX1_give_144 rfl ?_
    refine go_iload_n (pc := 145) dX1_give_145 rfl ?_
    refine go_iload (pc := 146) dX1_give_146 rfl ?_
    refine go_cVi (pc := 148) dX1_give_148 (ev_give_11_2 hc1 hw hp (py_trc_n [12] σ t ht) (by simp; omega) (by omega) hk) lX1_38 YX1_give VX1_give rfl rfl rfl (by decide) rfl (Nat.le_of_ble_eq_true rfl) (fun s2 e2 => ?_)
    have e2b : s2 = py_trc σ t [12, 11, 10, 24, 21, 20] := e2.trans (py_trc_app [12] [11, 10, 24, 21, 20] σ t)
    subst e2b
    have hc2 := py_hd_fr (py_trc_fr [12, 11, 10, 24, 21, 20] σ t) (by decide) (by decide) hc
    refine go_isub (pc := 151) dX1_give_151  ?_
    exact go_retI (pc := 152) dX1_give_152 rfl rfl
  · omega
set_option maxHeartbeats 4000000 in
set_option maxRecDepth 100000 in
theorem ev_give_23_4 {X : py_X} {σ : py_H} {H : Nat → Nat} (hc : py_hd σ 7 H) (hw : py_wf H) {p t dp : Nat} (hp : p < H 12) (ht : σ 45 1 = nI t) (h10 : t + 4 ≤ 16) (hdp : dp + 4 ≤ 16) (hk : H (13 + 4 * p) = 4) : py_Ev X 4 yX1_give cX1_give 7 (some .int) [.ref 45, .int (nI 23), .ref 7, .int (nI p), .int (nI dp)] σ (py_vs (some (.int (nI p - (nI (H (14 + 4 * p)) - nI 100)))) (fun s => s = py_trc σ t [23, 20, 13, 10])) := by
  obtain ⟨w0, w1, w2, w3, w12, w03, w00, wW, wP, wR⟩ := id hw
  refine py_ofI (own := RX1) YX1_give.2.2.2.2 rfl rfl (Nat.le_of_ble_eq_true rfl)  ?_
  show py_Go X RX1 cX1_give 7 4 0 [some (.ref 45), some (.int (nI 23)), some (.ref 7), some (.int (nI p)), some (.int (nI dp)), none, none] [] σ (py_vs (some (.int (nI p - (nI (H (14 + 4 * p)) - nI 100)))) (fun s => s = py_trc σ t [23, 20, 13, 10]))
  refine go_iload (pc := 0) dX1_give_0 rfl ?_
  refine go_bipush (v := nI 16) (pc := 2) dX1_give_2 (by decide) ?_
  refine go_icmp_leN (tgt := 9) (pc := 4) dX1_give_4 (by omega) (by omega) (by decide) (fun c_4 => ?_) (fun c_4 => ?_)
  · refine go_aload_n (pc := 9) dX1_give_9 rfl ?_
    refine go_iload_n (pc := 10) dX1_give_10 rfl ?_
    refine go_cVv (pc := 11) dX1_give_11 (ev_begin ht (by omega)) lX1_45 YX1_begin VX1_begin rfl rfl rfl (by decide) rfl (Nat.le_of_ble_eq_true rfl) (fun s1 e1 => ?_)
    subst e1
    have hf1 := py_trc_fr [23] σ t
    have hc1 := py_hd_fr hf1 (by decide) (by decide) hc
    refine go_aload_n (pc := 14) dX1_give_14 rfl ?_
    refine go_getR (pc := 15) dX1_give_15 fX1_26 rfl rfl ?_
    refine go_iload_n (pc := 18) dX1_give_18 rfl ?_
    refine go_aldN (x := (nI 4)) (pc := 19) dX1_give_19 rfl (by show p < 5; omega) ((hc1.2.2.2.2.2.2 p hp).1.trans (by rw [hk])) ?_
    refine go_istore (pc := 20) dX1_give_20 (by decide) rfl ?_
    refine go_iload (pc := 22) dX1_give_22 rfl ?_
    refine go_iconst (v := nI 1) (pc := 24) dX1_give_24 (by decide) ?_
    refine go_iaddN (pc := 25) dX1_give_25  ?_
    refine go_istore (pc := 26) dX1_give_26 (by decide) rfl ?_
    refine go_iload_n (pc := 28) dX1_give_28 rfl ?_
    refine go_swIn (off := 186) (pc := 29) (tgt := 215) dX1_give_29 (by decide) (by decide) (by decide) (by decide) ?_
    refine go_aload_n (pc := 215) dX1_give_215 rfl ?_
    refine go_bipush (v := nI 20) (pc := 216) dX1_give_216 (by decide) ?_
    refine go_aload_n (pc := 218) dX1_give_218 rfl ?_
    refine go_iload_n (pc := 219) dX1_give_219 rfl ?_
    refine go_iload (pc := 220) dX1_give_220 rfl ?_
    refine go_cVi (pc := 222) dX1_give_222 (ev_give_20 hc1 hw hp (py_trc_n [23] σ t ht) (by simp; omega) (by omega)) lX1_38 YX1_give VX1_give rfl rfl rfl (by decide) rfl (Nat.le_of_ble_eq_true rfl) (fun s2 e2 => ?_)
    have e2b : s2 = py_trc σ t [23, 20] := e2.trans (py_trc_app [23] [20] σ t)
    subst e2b
    have hc2 := py_hd_fr (py_trc_fr [23, 20] σ t) (by decide) (by decide) hc
    refine go_aload_n (pc := 225) dX1_give_225 rfl ?_
    refine go_aload_n (pc := 226) dX1_give_226 rfl ?_
    refine go_iload (pc := 227) dX1_give_227 rfl ?_
    refine go_tget (k := 63) (by decide) (by decide) (pc := 229) dX1_give_229 sX1_31 ?_
    refine go_cV (pc := 232) dX1_give_232 (ev_bodyFor63 (K := 4) (b := 13) (by decide) (by decide)) lX1_34 YX1_bodyFor VX1_bodyFor rfl rfl rfl (by decide) rfl (Nat.le_of_ble_eq_true rfl) ?_
    refine go_aload_n (pc := 235) dX1_give_235 rfl ?_
    refine go_iload_n (pc := 236) dX1_give_236 rfl ?_
    refine go_iload (pc := 237) dX1_give_237 rfl ?_
    refine go_cVi (pc := 239) dX1_give_239 (ev_give_13 hc2 hw hp (py_trc_n [23, 20] σ t ht) (by simp; omega) (by omega)) lX1_38 YX1_give VX1_give rfl rfl rfl (by decide) rfl (Nat.le_of_ble_eq_true rfl) (fun s3 e3 => ?_)
    have e3b : s3 = py_trc σ t [23, 20, 13, 10] := e3.trans (py_trc_app [23, 20] [13, 10] σ t)
    subst e3b
    have hc3 := py_hd_fr (py_trc_fr [23, 20, 13, 10] σ t) (by decide) (by decide) hc
    refine go_isub (pc := 242) dX1_give_242  ?_
    exact go_retI (pc := 243) dX1_give_243 rfl rfl
  · omega
set_option maxHeartbeats 4000000 in
set_option maxRecDepth 100000 in
theorem ev_give_23_5 {X : py_X} {σ : py_H} {H : Nat → Nat} (hc : py_hd σ 7 H) (hw : py_wf H) {p t dp : Nat} (hp : p < H 12) (ht : σ 45 1 = nI t) (h10 : t + 5 ≤ 16) (hdp : dp + 4 ≤ 16) (hk : H (13 + 4 * p) = 5) : py_Ev X 4 yX1_give cX1_give 7 (some .int) [.ref 45, .int (nI 23), .ref 7, .int (nI p), .int (nI dp)] σ (py_vs (some (.int (nI p - (nI 2 * (nI (H (14 + 4 * p)) - nI 100))))) (fun s => s = py_trc σ t [23, 20, 14, 13, 10])) := by
  obtain ⟨w0, w1, w2, w3, w12, w03, w00, wW, wP, wR⟩ := id hw
  refine py_ofI (own := RX1) YX1_give.2.2.2.2 rfl rfl (Nat.le_of_ble_eq_true rfl)  ?_
  show py_Go X RX1 cX1_give 7 4 0 [some (.ref 45), some (.int (nI 23)), some (.ref 7), some (.int (nI p)), some (.int (nI dp)), none, none] [] σ (py_vs (some (.int (nI p - (nI 2 * (nI (H (14 + 4 * p)) - nI 100))))) (fun s => s = py_trc σ t [23, 20, 14, 13, 10]))
  refine go_iload (pc := 0) dX1_give_0 rfl ?_
  refine go_bipush (v := nI 16) (pc := 2) dX1_give_2 (by decide) ?_
  refine go_icmp_leN (tgt := 9) (pc := 4) dX1_give_4 (by omega) (by omega) (by decide) (fun c_4 => ?_) (fun c_4 => ?_)
  · refine go_aload_n (pc := 9) dX1_give_9 rfl ?_
    refine go_iload_n (pc := 10) dX1_give_10 rfl ?_
    refine go_cVv (pc := 11) dX1_give_11 (ev_begin ht (by omega)) lX1_45 YX1_begin VX1_begin rfl rfl rfl (by decide) rfl (Nat.le_of_ble_eq_true rfl) (fun s1 e1 => ?_)
    subst e1
    have hf1 := py_trc_fr [23] σ t
    have hc1 := py_hd_fr hf1 (by decide) (by decide) hc
    refine go_aload_n (pc := 14) dX1_give_14 rfl ?_
    refine go_getR (pc := 15) dX1_give_15 fX1_26 rfl rfl ?_
    refine go_iload_n (pc := 18) dX1_give_18 rfl ?_
    refine go_aldN (x := (nI 5)) (pc := 19) dX1_give_19 rfl (by show p < 5; omega) ((hc1.2.2.2.2.2.2 p hp).1.trans (by rw [hk])) ?_
    refine go_istore (pc := 20) dX1_give_20 (by decide) rfl ?_
    refine go_iload (pc := 22) dX1_give_22 rfl ?_
    refine go_iconst (v := nI 1) (pc := 24) dX1_give_24 (by decide) ?_
    refine go_iaddN (pc := 25) dX1_give_25  ?_
    refine go_istore (pc := 26) dX1_give_26 (by decide) rfl ?_
    refine go_iload_n (pc := 28) dX1_give_28 rfl ?_
    refine go_swIn (off := 186) (pc := 29) (tgt := 215) dX1_give_29 (by decide) (by decide) (by decide) (by decide) ?_
    refine go_aload_n (pc := 215) dX1_give_215 rfl ?_
    refine go_bipush (v := nI 20) (pc := 216) dX1_give_216 (by decide) ?_
    refine go_aload_n (pc := 218) dX1_give_218 rfl ?_
    refine go_iload_n (pc := 219) dX1_give_219 rfl ?_
    refine go_iload (pc := 220) dX1_give_220 rfl ?_
    refine go_cVi (pc := 222) dX1_give_222 (ev_give_20 hc1 hw hp (py_trc_n [23] σ t ht) (by simp; omega) (by omega)) lX1_38 YX1_give VX1_give rfl rfl rfl (by decide) rfl (Nat.le_of_ble_eq_true rfl) (fun s2 e2 => ?_)
    have e2b : s2 = py_trc σ t [23, 20] := e2.trans (py_trc_app [23] [20] σ t)
    subst e2b
    have hc2 := py_hd_fr (py_trc_fr [23, 20] σ t) (by decide) (by decide) hc
    refine go_aload_n (pc := 225) dX1_give_225 rfl ?_
    refine go_aload_n (pc := 226) dX1_give_226 rfl ?_
    refine go_iload (pc := 227) dX1_give_227 rfl ?_
    refine go_tget (k := 63) (by decide) (by decide) (pc := 229) dX1_give_229 sX1_31 ?_
    refine go_cV (pc := 232) dX1_give_232 (ev_bodyFor63 (K := 5) (b := 14) (by decide) (by decide)) lX1_34 YX1_bodyFor VX1_bodyFor rfl rfl rfl (by decide) rfl (Nat.le_of_ble_eq_true rfl) ?_
    refine go_aload_n (pc := 235) dX1_give_235 rfl ?_
    refine go_iload_n (pc := 236) dX1_give_236 rfl ?_
    refine go_iload (pc := 237) dX1_give_237 rfl ?_
    refine go_cVi (pc := 239) dX1_give_239 (ev_give_14 hc2 hw hp (py_trc_n [23, 20] σ t ht) (by simp; omega) (by omega)) lX1_38 YX1_give VX1_give rfl rfl rfl (by decide) rfl (Nat.le_of_ble_eq_true rfl) (fun s3 e3 => ?_)
    have e3b : s3 = py_trc σ t [23, 20, 14, 13, 10] := e3.trans (py_trc_app [23, 20] [14, 13, 10] σ t)
    subst e3b
    have hc3 := py_hd_fr (py_trc_fr [23, 20, 14, 13, 10] σ t) (by decide) (by decide) hc
    refine go_isub (pc := 242) dX1_give_242  ?_
    exact go_retI (pc := 243) dX1_give_243 rfl rfl
  · omega
def py_sz (H : Nat → Nat) (p : Nat) : Int32 × List Nat :=
  if H (13 + 4 * p) = 1 then (nI ((H (14 + 4 * p)) + (p + H (15 + 4 * p))), [11, 10, 21, 20]) else if H (13 + 4 * p) = 2 then (nI 0 - nI ((H (14 + 4 * p)) + (2 * (p + H (15 + 4 * p)))), [12, 11, 10, 24, 21, 20]) else if H (13 + 4 * p) = 3 then (nI (H (14 + 4 * p)) + (nI (p + H (15 + 4 * p)) - nI 1000), [11, 10, 22, 21, 20]) else if H (13 + 4 * p) = 4 then (nI (H (14 + 4 * p)) - nI 100, [13, 10]) else (nI 2 * (nI (H (14 + 4 * p)) - nI 100), [14, 13, 10])
def py_mr (H : Nat → Nat) (p : Nat) : Int32 × List Nat :=
  if H (13 + 4 * p) = 1 then (nI (p + H (15 + 4 * p)), [21, 20]) else if H (13 + 4 * p) = 2 then (nI (2 * (p + H (15 + 4 * p))), [24, 21, 20]) else if H (13 + 4 * p) = 3 then (nI (p + H (15 + 4 * p)) - nI 1000, [22, 21, 20]) else if H (13 + 4 * p) = 4 then (nI p - (nI (H (14 + 4 * p)) - nI 100), [23, 20, 13, 10]) else (nI p - (nI 2 * (nI (H (14 + 4 * p)) - nI 100)), [23, 20, 14, 13, 10])
set_option maxHeartbeats 4000000 in
set_option maxRecDepth 100000 in
theorem ev_sizeOf {X : py_X} {σ : py_H} {H : Nat → Nat} (hc : py_hd σ 7 H) (hw : py_wf H) {p : Nat} (hp : p < H 12) : py_Ev X 6 yX1_sizeOf cX1_sizeOf 3 (some .int) [.ref 45, .ref 7, .int (nI p)] σ (py_vs (some (.int ((py_sz H p).1))) (fun s => s = py_trc (py_up σ 45 1 (nI 0)) 0 (py_sz H p).2)) := by
  obtain ⟨w0, w1, w2, w3, w12, w03, w00, wW, wP, wR⟩ := id hw
  refine py_ofI (own := RX1) YX1_sizeOf.2.2.2.2 rfl rfl (Nat.le_of_ble_eq_true rfl)  ?_
  show py_Go X RX1 cX1_sizeOf 3 6 0 [some (.ref 45), some (.ref 7), some (.int (nI p))] [] σ (py_vs (some (.int ((py_sz H p).1))) (fun s => s = py_trc (py_up σ 45 1 (nI 0)) 0 (py_sz H p).2))
  rcases (show H (13 + 4 * p) = 1 ∨ H (13 + 4 * p) = 2 ∨ H (13 + 4 * p) = 3 ∨ H (13 + 4 * p) = 4 ∨ H (13 + 4 * p) = 5 by have := wP p hp; omega) with hk | hk | hk | hk | hk
  · have ev : py_sz H p = ((nI ((H (14 + 4 * p)) + (p + H (15 + 4 * p)))), [11, 10, 21, 20]) := by unfold py_sz; rw [hk]; rfl
    rw [ev]
    refine go_aload_n (pc := 0) dX1_sizeOf_0 rfl ?_
    refine go_iconst (v := nI 0) (pc := 1) dX1_sizeOf_1 (by decide) ?_
    refine go_putI (pc := 2) dX1_sizeOf_2 fX1_22 rfl rfl ?_
    refine go_aload_n (pc := 5) dX1_sizeOf_5 rfl ?_
    refine go_aload_n (pc := 6) dX1_sizeOf_6 rfl ?_
    refine go_aload_n (pc := 7) dX1_sizeOf_7 rfl ?_
    refine go_getR (pc := 8) dX1_sizeOf_8 fX1_26 rfl rfl ?_
    refine go_iload_n (pc := 11) dX1_sizeOf_11 rfl ?_
    refine go_aldN (x := (nI 1)) (pc := 12) dX1_sizeOf_12 rfl (by show p < 5; omega) (by (repeat rw [py_up_k _ _ _ (by decide)]); rw [(hc.2.2.2.2.2.2 p hp).1, hk]) ?_
    refine go_tget (k := 63) (by decide) (by decide) (pc := 13) dX1_sizeOf_13 sX1_31 ?_
    refine go_cV (pc := 16) dX1_sizeOf_16 (ev_bodyFor63 (K := 1) (b := 11) (by decide) (by decide)) lX1_34 YX1_bodyFor VX1_bodyFor rfl rfl rfl (by decide) rfl (Nat.le_of_ble_eq_true rfl) ?_
    refine go_aload_n (pc := 19) dX1_sizeOf_19 rfl ?_
    refine go_iload_n (pc := 20) dX1_sizeOf_20 rfl ?_
    refine go_iconst (v := nI 0) (pc := 21) dX1_sizeOf_21 (by decide) ?_
    have hc0 : py_hd (py_up σ 45 1 (nI 0)) 7 H := py_hd_fr ((py_fr.rf [] [(45, 1)] σ).ut (by decide) _) (by decide) (by decide) hc
    refine go_cVi (pc := 22) dX1_sizeOf_22 (ev_give_11_1 hc0 hw hp (t := 0) (dp := 0) (py_up_s _ _ _ _) (by decide) (by decide) hk) lX1_38 YX1_give VX1_give rfl rfl rfl (by decide) rfl (Nat.le_of_ble_eq_true rfl) (fun s1 e1 => ?_)
    exact go_retI (pc := 25) dX1_sizeOf_25 rfl e1
  · have ev : py_sz H p = ((nI 0 - nI ((H (14 + 4 * p)) + (2 * (p + H (15 + 4 * p))))), [12, 11, 10, 24, 21, 20]) := by unfold py_sz; rw [hk]; rfl
    rw [ev]
    refine go_aload_n (pc := 0) dX1_sizeOf_0 rfl ?_
    refine go_iconst (v := nI 0) (pc := 1) dX1_sizeOf_1 (by decide) ?_
    refine go_putI (pc := 2) dX1_sizeOf_2 fX1_22 rfl rfl ?_
    refine go_aload_n (pc := 5) dX1_sizeOf_5 rfl ?_
    refine go_aload_n (pc := 6) dX1_sizeOf_6 rfl ?_
    refine go_aload_n (pc := 7) dX1_sizeOf_7 rfl ?_
    refine go_getR (pc := 8) dX1_sizeOf_8 fX1_26 rfl rfl ?_
    refine go_iload_n (pc := 11) dX1_sizeOf_11 rfl ?_
    refine go_aldN (x := (nI 2)) (pc := 12) dX1_sizeOf_12 rfl (by show p < 5; omega) (by (repeat rw [py_up_k _ _ _ (by decide)]); rw [(hc.2.2.2.2.2.2 p hp).1, hk]) ?_
    refine go_tget (k := 63) (by decide) (by decide) (pc := 13) dX1_sizeOf_13 sX1_31 ?_
    refine go_cV (pc := 16) dX1_sizeOf_16 (ev_bodyFor63 (K := 2) (b := 12) (by decide) (by decide)) lX1_34 YX1_bodyFor VX1_bodyFor rfl rfl rfl (by decide) rfl (Nat.le_of_ble_eq_true rfl) ?_
    refine go_aload_n (pc := 19) dX1_sizeOf_19 rfl ?_
    refine go_iload_n (pc := 20) dX1_sizeOf_20 rfl ?_
    refine go_iconst (v := nI 0) (pc := 21) dX1_sizeOf_21 (by decide) ?_
    have hc0 : py_hd (py_up σ 45 1 (nI 0)) 7 H := py_hd_fr ((py_fr.rf [] [(45, 1)] σ).ut (by decide) _) (by decide) (by decide) hc
    refine go_cVi (pc := 22) dX1_sizeOf_22 (ev_give_12_2 hc0 hw hp (t := 0) (dp := 0) (py_up_s _ _ _ _) (by decide) (by decide) hk) lX1_38 YX1_give VX1_give rfl rfl rfl (by decide) rfl (Nat.le_of_ble_eq_true rfl) (fun s1 e1 => ?_)
    exact go_retI (pc := 25) dX1_sizeOf_25 rfl e1
  · have ev : py_sz H p = ((nI (H (14 + 4 * p)) + (nI (p + H (15 + 4 * p)) - nI 1000)), [11, 10, 22, 21, 20]) := by unfold py_sz; rw [hk]; rfl
    rw [ev]
    refine go_aload_n (pc := 0) dX1_sizeOf_0 rfl ?_
    refine go_iconst (v := nI 0) (pc := 1) dX1_sizeOf_1 (by decide) ?_
    refine go_putI (pc := 2) dX1_sizeOf_2 fX1_22 rfl rfl ?_
    refine go_aload_n (pc := 5) dX1_sizeOf_5 rfl ?_
    refine go_aload_n (pc := 6) dX1_sizeOf_6 rfl ?_
    refine go_aload_n (pc := 7) dX1_sizeOf_7 rfl ?_
    refine go_getR (pc := 8) dX1_sizeOf_8 fX1_26 rfl rfl ?_
    refine go_iload_n (pc := 11) dX1_sizeOf_11 rfl ?_
    refine go_aldN (x := (nI 3)) (pc := 12) dX1_sizeOf_12 rfl (by show p < 5; omega) (by (repeat rw [py_up_k _ _ _ (by decide)]); rw [(hc.2.2.2.2.2.2 p hp).1, hk]) ?_
    refine go_tget (k := 63) (by decide) (by decide) (pc := 13) dX1_sizeOf_13 sX1_31 ?_
    refine go_cV (pc := 16) dX1_sizeOf_16 (ev_bodyFor63 (K := 3) (b := 11) (by decide) (by decide)) lX1_34 YX1_bodyFor VX1_bodyFor rfl rfl rfl (by decide) rfl (Nat.le_of_ble_eq_true rfl) ?_
    refine go_aload_n (pc := 19) dX1_sizeOf_19 rfl ?_
    refine go_iload_n (pc := 20) dX1_sizeOf_20 rfl ?_
    refine go_iconst (v := nI 0) (pc := 21) dX1_sizeOf_21 (by decide) ?_
    have hc0 : py_hd (py_up σ 45 1 (nI 0)) 7 H := py_hd_fr ((py_fr.rf [] [(45, 1)] σ).ut (by decide) _) (by decide) (by decide) hc
    refine go_cVi (pc := 22) dX1_sizeOf_22 (ev_give_11_3 hc0 hw hp (t := 0) (dp := 0) (py_up_s _ _ _ _) (by decide) (by decide) hk) lX1_38 YX1_give VX1_give rfl rfl rfl (by decide) rfl (Nat.le_of_ble_eq_true rfl) (fun s1 e1 => ?_)
    exact go_retI (pc := 25) dX1_sizeOf_25 rfl e1
  · have ev : py_sz H p = ((nI (H (14 + 4 * p)) - nI 100), [13, 10]) := by unfold py_sz; rw [hk]; rfl
    rw [ev]
    refine go_aload_n (pc := 0) dX1_sizeOf_0 rfl ?_
    refine go_iconst (v := nI 0) (pc := 1) dX1_sizeOf_1 (by decide) ?_
    refine go_putI (pc := 2) dX1_sizeOf_2 fX1_22 rfl rfl ?_
    refine go_aload_n (pc := 5) dX1_sizeOf_5 rfl ?_
    refine go_aload_n (pc := 6) dX1_sizeOf_6 rfl ?_
    refine go_aload_n (pc := 7) dX1_sizeOf_7 rfl ?_
    refine go_getR (pc := 8) dX1_sizeOf_8 fX1_26 rfl rfl ?_
    refine go_iload_n (pc := 11) dX1_sizeOf_11 rfl ?_
    refine go_aldN (x := (nI 4)) (pc := 12) dX1_sizeOf_12 rfl (by show p < 5; omega) (by (repeat rw [py_up_k _ _ _ (by decide)]); rw [(hc.2.2.2.2.2.2 p hp).1, hk]) ?_
    refine go_tget (k := 63) (by decide) (by decide) (pc := 13) dX1_sizeOf_13 sX1_31 ?_
    refine go_cV (pc := 16) dX1_sizeOf_16 (ev_bodyFor63 (K := 4) (b := 13) (by decide) (by decide)) lX1_34 YX1_bodyFor VX1_bodyFor rfl rfl rfl (by decide) rfl (Nat.le_of_ble_eq_true rfl) ?_
    refine go_aload_n (pc := 19) dX1_sizeOf_19 rfl ?_
    refine go_iload_n (pc := 20) dX1_sizeOf_20 rfl ?_
    refine go_iconst (v := nI 0) (pc := 21) dX1_sizeOf_21 (by decide) ?_
    have hc0 : py_hd (py_up σ 45 1 (nI 0)) 7 H := py_hd_fr ((py_fr.rf [] [(45, 1)] σ).ut (by decide) _) (by decide) (by decide) hc
    refine go_cVi (pc := 22) dX1_sizeOf_22 (ev_give_13 hc0 hw hp (t := 0) (dp := 0) (py_up_s _ _ _ _) (by decide) (by decide)) lX1_38 YX1_give VX1_give rfl rfl rfl (by decide) rfl (Nat.le_of_ble_eq_true rfl) (fun s1 e1 => ?_)
    exact go_retI (pc := 25) dX1_sizeOf_25 rfl e1
  · have ev : py_sz H p = ((nI 2 * (nI (H (14 + 4 * p)) - nI 100)), [14, 13, 10]) := by unfold py_sz; rw [hk]; rfl
    rw [ev]
    refine go_aload_n (pc := 0) dX1_sizeOf_0 rfl ?_
    refine go_iconst (v := nI 0) (pc := 1) dX1_sizeOf_1 (by decide) ?_
    refine go_putI (pc := 2) dX1_sizeOf_2 fX1_22 rfl rfl ?_
    refine go_aload_n (pc := 5) dX1_sizeOf_5 rfl ?_
    refine go_aload_n (pc := 6) dX1_sizeOf_6 rfl ?_
    refine go_aload_n (pc := 7) dX1_sizeOf_7 rfl ?_
    refine go_getR (pc := 8) dX1_sizeOf_8 fX1_26 rfl rfl ?_
    refine go_iload_n (pc := 11) dX1_sizeOf_11 rfl ?_
    refine go_aldN (x := (nI 5)) (pc := 12) dX1_sizeOf_12 rfl (by show p < 5; omega) (by (repeat rw [py_up_k _ _ _ (by decide)]); rw [(hc.2.2.2.2.2.2 p hp).1, hk]) ?_
    refine go_tget (k := 63) (by decide) (by decide) (pc := 13) dX1_sizeOf_13 sX1_31 ?_
    refine go_cV (pc := 16) dX1_sizeOf_16 (ev_bodyFor63 (K := 5) (b := 14) (by decide) (by decide)) lX1_34 YX1_bodyFor VX1_bodyFor rfl rfl rfl (by decide) rfl (Nat.le_of_ble_eq_true rfl) ?_
    refine go_aload_n (pc := 19) dX1_sizeOf_19 rfl ?_
    refine go_iload_n (pc := 20) dX1_sizeOf_20 rfl ?_
    refine go_iconst (v := nI 0) (pc := 21) dX1_sizeOf_21 (by decide) ?_
    have hc0 : py_hd (py_up σ 45 1 (nI 0)) 7 H := py_hd_fr ((py_fr.rf [] [(45, 1)] σ).ut (by decide) _) (by decide) (by decide) hc
    refine go_cVi (pc := 22) dX1_sizeOf_22 (ev_give_14 hc0 hw hp (t := 0) (dp := 0) (py_up_s _ _ _ _) (by decide) (by decide)) lX1_38 YX1_give VX1_give rfl rfl rfl (by decide) rfl (Nat.le_of_ble_eq_true rfl) (fun s1 e1 => ?_)
    exact go_retI (pc := 25) dX1_sizeOf_25 rfl e1
set_option maxHeartbeats 4000000 in
set_option maxRecDepth 100000 in
theorem ev_markOf {X : py_X} {σ : py_H} {H : Nat → Nat} (hc : py_hd σ 7 H) (hw : py_wf H) {p : Nat} (hp : p < H 12) : py_Ev X 6 yX1_markOf cX1_markOf 3 (some .int) [.ref 45, .ref 7, .int (nI p)] σ (py_vs (some (.int ((py_mr H p).1))) (fun s => s = py_trc (py_up σ 45 1 (nI 0)) 0 (py_mr H p).2)) := by
  obtain ⟨w0, w1, w2, w3, w12, w03, w00, wW, wP, wR⟩ := id hw
  refine py_ofI (own := RX1) YX1_markOf.2.2.2.2 rfl rfl (Nat.le_of_ble_eq_true rfl)  ?_
  show py_Go X RX1 cX1_markOf 3 6 0 [some (.ref 45), some (.ref 7), some (.int (nI p))] [] σ (py_vs (some (.int ((py_mr H p).1))) (fun s => s = py_trc (py_up σ 45 1 (nI 0)) 0 (py_mr H p).2))
  rcases (show H (13 + 4 * p) = 1 ∨ H (13 + 4 * p) = 2 ∨ H (13 + 4 * p) = 3 ∨ H (13 + 4 * p) = 4 ∨ H (13 + 4 * p) = 5 by have := wP p hp; omega) with hk | hk | hk | hk | hk
  · have ev : py_mr H p = ((nI (p + H (15 + 4 * p))), [21, 20]) := by unfold py_mr; rw [hk]; rfl
    rw [ev]
    refine go_aload_n (pc := 0) dX1_markOf_0 rfl ?_
    refine go_iconst (v := nI 0) (pc := 1) dX1_markOf_1 (by decide) ?_
    refine go_putI (pc := 2) dX1_markOf_2 fX1_22 rfl rfl ?_
    refine go_aload_n (pc := 5) dX1_markOf_5 rfl ?_
    refine go_aload_n (pc := 6) dX1_markOf_6 rfl ?_
    refine go_aload_n (pc := 7) dX1_markOf_7 rfl ?_
    refine go_getR (pc := 8) dX1_markOf_8 fX1_26 rfl rfl ?_
    refine go_iload_n (pc := 11) dX1_markOf_11 rfl ?_
    refine go_aldN (x := (nI 1)) (pc := 12) dX1_markOf_12 rfl (by show p < 5; omega) (by (repeat rw [py_up_k _ _ _ (by decide)]); rw [(hc.2.2.2.2.2.2 p hp).1, hk]) ?_
    refine go_tget (k := 64) (by decide) (by decide) (pc := 13) dX1_markOf_13 sX1_42 ?_
    refine go_cV (pc := 16) dX1_markOf_16 (ev_bodyFor64 (K := 1) (b := 21) (by decide) (by decide)) lX1_34 YX1_bodyFor VX1_bodyFor rfl rfl rfl (by decide) rfl (Nat.le_of_ble_eq_true rfl) ?_
    refine go_aload_n (pc := 19) dX1_markOf_19 rfl ?_
    refine go_iload_n (pc := 20) dX1_markOf_20 rfl ?_
    refine go_iconst (v := nI 0) (pc := 21) dX1_markOf_21 (by decide) ?_
    have hc0 : py_hd (py_up σ 45 1 (nI 0)) 7 H := py_hd_fr ((py_fr.rf [] [(45, 1)] σ).ut (by decide) _) (by decide) (by decide) hc
    refine go_cVi (pc := 22) dX1_markOf_22 (ev_give_21 hc0 hw hp (t := 0) (dp := 0) (py_up_s _ _ _ _) (by decide) (by decide)) lX1_38 YX1_give VX1_give rfl rfl rfl (by decide) rfl (Nat.le_of_ble_eq_true rfl) (fun s1 e1 => ?_)
    exact go_retI (pc := 25) dX1_markOf_25 rfl e1
  · have ev : py_mr H p = ((nI (2 * (p + H (15 + 4 * p)))), [24, 21, 20]) := by unfold py_mr; rw [hk]; rfl
    rw [ev]
    refine go_aload_n (pc := 0) dX1_markOf_0 rfl ?_
    refine go_iconst (v := nI 0) (pc := 1) dX1_markOf_1 (by decide) ?_
    refine go_putI (pc := 2) dX1_markOf_2 fX1_22 rfl rfl ?_
    refine go_aload_n (pc := 5) dX1_markOf_5 rfl ?_
    refine go_aload_n (pc := 6) dX1_markOf_6 rfl ?_
    refine go_aload_n (pc := 7) dX1_markOf_7 rfl ?_
    refine go_getR (pc := 8) dX1_markOf_8 fX1_26 rfl rfl ?_
    refine go_iload_n (pc := 11) dX1_markOf_11 rfl ?_
    refine go_aldN (x := (nI 2)) (pc := 12) dX1_markOf_12 rfl (by show p < 5; omega) (by (repeat rw [py_up_k _ _ _ (by decide)]); rw [(hc.2.2.2.2.2.2 p hp).1, hk]) ?_
    refine go_tget (k := 64) (by decide) (by decide) (pc := 13) dX1_markOf_13 sX1_42 ?_
    refine go_cV (pc := 16) dX1_markOf_16 (ev_bodyFor64 (K := 2) (b := 24) (by decide) (by decide)) lX1_34 YX1_bodyFor VX1_bodyFor rfl rfl rfl (by decide) rfl (Nat.le_of_ble_eq_true rfl) ?_
    refine go_aload_n (pc := 19) dX1_markOf_19 rfl ?_
    refine go_iload_n (pc := 20) dX1_markOf_20 rfl ?_
    refine go_iconst (v := nI 0) (pc := 21) dX1_markOf_21 (by decide) ?_
    have hc0 : py_hd (py_up σ 45 1 (nI 0)) 7 H := py_hd_fr ((py_fr.rf [] [(45, 1)] σ).ut (by decide) _) (by decide) (by decide) hc
    refine go_cVi (pc := 22) dX1_markOf_22 (ev_give_24 hc0 hw hp (t := 0) (dp := 0) (py_up_s _ _ _ _) (by decide) (by decide)) lX1_38 YX1_give VX1_give rfl rfl rfl (by decide) rfl (Nat.le_of_ble_eq_true rfl) (fun s1 e1 => ?_)
    exact go_retI (pc := 25) dX1_markOf_25 rfl e1
  · have ev : py_mr H p = ((nI (p + H (15 + 4 * p)) - nI 1000), [22, 21, 20]) := by unfold py_mr; rw [hk]; rfl
    rw [ev]
    refine go_aload_n (pc := 0) dX1_markOf_0 rfl ?_
    refine go_iconst (v := nI 0) (pc := 1) dX1_markOf_1 (by decide) ?_
    refine go_putI (pc := 2) dX1_markOf_2 fX1_22 rfl rfl ?_
    refine go_aload_n (pc := 5) dX1_markOf_5 rfl ?_
    refine go_aload_n (pc := 6) dX1_markOf_6 rfl ?_
    refine go_aload_n (pc := 7) dX1_markOf_7 rfl ?_
    refine go_getR (pc := 8) dX1_markOf_8 fX1_26 rfl rfl ?_
    refine go_iload_n (pc := 11) dX1_markOf_11 rfl ?_
    refine go_aldN (x := (nI 3)) (pc := 12) dX1_markOf_12 rfl (by show p < 5; omega) (by (repeat rw [py_up_k _ _ _ (by decide)]); rw [(hc.2.2.2.2.2.2 p hp).1, hk]) ?_
    refine go_tget (k := 64) (by decide) (by decide) (pc := 13) dX1_markOf_13 sX1_42 ?_
    refine go_cV (pc := 16) dX1_markOf_16 (ev_bodyFor64 (K := 3) (b := 22) (by decide) (by decide)) lX1_34 YX1_bodyFor VX1_bodyFor rfl rfl rfl (by decide) rfl (Nat.le_of_ble_eq_true rfl) ?_
    refine go_aload_n (pc := 19) dX1_markOf_19 rfl ?_
    refine go_iload_n (pc := 20) dX1_markOf_20 rfl ?_
    refine go_iconst (v := nI 0) (pc := 21) dX1_markOf_21 (by decide) ?_
    have hc0 : py_hd (py_up σ 45 1 (nI 0)) 7 H := py_hd_fr ((py_fr.rf [] [(45, 1)] σ).ut (by decide) _) (by decide) (by decide) hc
    refine go_cVi (pc := 22) dX1_markOf_22 (ev_give_22 hc0 hw hp (t := 0) (dp := 0) (py_up_s _ _ _ _) (by decide) (by decide)) lX1_38 YX1_give VX1_give rfl rfl rfl (by decide) rfl (Nat.le_of_ble_eq_true rfl) (fun s1 e1 => ?_)
    exact go_retI (pc := 25) dX1_markOf_25 rfl e1
  · have ev : py_mr H p = ((nI p - (nI (H (14 + 4 * p)) - nI 100)), [23, 20, 13, 10]) := by unfold py_mr; rw [hk]; rfl
    rw [ev]
    refine go_aload_n (pc := 0) dX1_markOf_0 rfl ?_
    refine go_iconst (v := nI 0) (pc := 1) dX1_markOf_1 (by decide) ?_
    refine go_putI (pc := 2) dX1_markOf_2 fX1_22 rfl rfl ?_
    refine go_aload_n (pc := 5) dX1_markOf_5 rfl ?_
    refine go_aload_n (pc := 6) dX1_markOf_6 rfl ?_
    refine go_aload_n (pc := 7) dX1_markOf_7 rfl ?_
    refine go_getR (pc := 8) dX1_markOf_8 fX1_26 rfl rfl ?_
    refine go_iload_n (pc := 11) dX1_markOf_11 rfl ?_
    refine go_aldN (x := (nI 4)) (pc := 12) dX1_markOf_12 rfl (by show p < 5; omega) (by (repeat rw [py_up_k _ _ _ (by decide)]); rw [(hc.2.2.2.2.2.2 p hp).1, hk]) ?_
    refine go_tget (k := 64) (by decide) (by decide) (pc := 13) dX1_markOf_13 sX1_42 ?_
    refine go_cV (pc := 16) dX1_markOf_16 (ev_bodyFor64 (K := 4) (b := 23) (by decide) (by decide)) lX1_34 YX1_bodyFor VX1_bodyFor rfl rfl rfl (by decide) rfl (Nat.le_of_ble_eq_true rfl) ?_
    refine go_aload_n (pc := 19) dX1_markOf_19 rfl ?_
    refine go_iload_n (pc := 20) dX1_markOf_20 rfl ?_
    refine go_iconst (v := nI 0) (pc := 21) dX1_markOf_21 (by decide) ?_
    have hc0 : py_hd (py_up σ 45 1 (nI 0)) 7 H := py_hd_fr ((py_fr.rf [] [(45, 1)] σ).ut (by decide) _) (by decide) (by decide) hc
    refine go_cVi (pc := 22) dX1_markOf_22 (ev_give_23_4 hc0 hw hp (t := 0) (dp := 0) (py_up_s _ _ _ _) (by decide) (by decide) hk) lX1_38 YX1_give VX1_give rfl rfl rfl (by decide) rfl (Nat.le_of_ble_eq_true rfl) (fun s1 e1 => ?_)
    exact go_retI (pc := 25) dX1_markOf_25 rfl e1
  · have ev : py_mr H p = ((nI p - (nI 2 * (nI (H (14 + 4 * p)) - nI 100))), [23, 20, 14, 13, 10]) := by unfold py_mr; rw [hk]; rfl
    rw [ev]
    refine go_aload_n (pc := 0) dX1_markOf_0 rfl ?_
    refine go_iconst (v := nI 0) (pc := 1) dX1_markOf_1 (by decide) ?_
    refine go_putI (pc := 2) dX1_markOf_2 fX1_22 rfl rfl ?_
    refine go_aload_n (pc := 5) dX1_markOf_5 rfl ?_
    refine go_aload_n (pc := 6) dX1_markOf_6 rfl ?_
    refine go_aload_n (pc := 7) dX1_markOf_7 rfl ?_
    refine go_getR (pc := 8) dX1_markOf_8 fX1_26 rfl rfl ?_
    refine go_iload_n (pc := 11) dX1_markOf_11 rfl ?_
    refine go_aldN (x := (nI 5)) (pc := 12) dX1_markOf_12 rfl (by show p < 5; omega) (by (repeat rw [py_up_k _ _ _ (by decide)]); rw [(hc.2.2.2.2.2.2 p hp).1, hk]) ?_
    refine go_tget (k := 64) (by decide) (by decide) (pc := 13) dX1_markOf_13 sX1_42 ?_
    refine go_cV (pc := 16) dX1_markOf_16 (ev_bodyFor64 (K := 5) (b := 23) (by decide) (by decide)) lX1_34 YX1_bodyFor VX1_bodyFor rfl rfl rfl (by decide) rfl (Nat.le_of_ble_eq_true rfl) ?_
    refine go_aload_n (pc := 19) dX1_markOf_19 rfl ?_
    refine go_iload_n (pc := 20) dX1_markOf_20 rfl ?_
    refine go_iconst (v := nI 0) (pc := 21) dX1_markOf_21 (by decide) ?_
    have hc0 : py_hd (py_up σ 45 1 (nI 0)) 7 H := py_hd_fr ((py_fr.rf [] [(45, 1)] σ).ut (by decide) _) (by decide) (by decide) hc
    refine go_cVi (pc := 22) dX1_markOf_22 (ev_give_23_5 hc0 hw hp (t := 0) (dp := 0) (py_up_s _ _ _ _) (by decide) (by decide) hk) lX1_38 YX1_give VX1_give rfl rfl rfl (by decide) rfl (Nat.le_of_ble_eq_true rfl) (fun s1 e1 => ?_)
    exact go_retI (pc := 25) dX1_markOf_25 rfl e1
set_option maxHeartbeats 4000000 in
set_option maxRecDepth 100000 in
theorem ev_isA {X : py_X} {σ : py_H} {K q : Nat} (h1 : 1 ≤ K) (h5 : K ≤ 5) (hq : q ≤ 5) : py_Ev X 1 yX1_isA cX1_isA 5 (some .boolean) [.ref 45, .int (nI K), .int (nI q)] σ (py_ret (.int (py_b (py_isa K q))) σ) := by
  refine py_ofZ (own := RX1) YX1_isA.2.2.2.2 rfl rfl (Nat.le_of_ble_eq_true rfl) py_b_ok ?_
  show py_Go X RX1 cX1_isA 5 1 0 [some (.ref 45), some (.int (nI K)), some (.int (nI q)), none, none] [] σ (py_ret (.int (py_b (py_isa K q))) σ)
  rcases (show K = 1 ∨ K = 2 ∨ K = 3 ∨ K = 4 ∨ K = 5 by omega) with hk | hk | hk | hk | hk
  · subst hk
    refine go_iload_n (pc := 0) dX1_isA_0 rfl ?_
    refine go_istore_n (pc := 1) dX1_isA_1 (by decide) rfl ?_
    refine go_iconst (v := nI 0) (pc := 2) dX1_isA_2 (by decide) ?_
    refine go_istore (pc := 3) dX1_isA_3 (by decide) rfl ?_
    refine go_iload (pc := 5) dX1_isA_5 rfl ?_
    refine go_tget (k := 62) (by decide) (by decide) (pc := 7) dX1_isA_7 sX1_15 ?_
    refine go_tlen (by decide) (by decide) (pc := 10) dX1_isA_10 ?_
    refine go_top (y := nI 6) (by decide) ?_
    refine go_icmp_geN (tgt := 42) (pc := 11) dX1_isA_11 (by omega) (by omega) (by decide) (fun c_11 => ?_) (fun c_11 => ?_)
    · omega
    · refine go_iload_n (pc := 14) dX1_isA_14 rfl ?_
      refine go_iconst (v := nI 0) (pc := 15) dX1_isA_15 (by decide) ?_
      refine go_iconst (v := nI 5) (pc := 16) dX1_isA_16 (by decide) ?_
      refine go_cN (pc := 17) dX1_isA_17 ev_isWithinN nX1_18 YX7_isWithin SX7_isWithin rfl (by decide) rfl (Nat.le_of_ble_eq_true rfl) ?_
      refine go_if_eqB (tgt := 42) (pc := 20) dX1_isA_20 (by decide) (fun c_20 => ?_) (fun c_20 => ?_)
      · exact absurd (by decide) c_20
      · refine go_iload_n (pc := 23) dX1_isA_23 rfl ?_
        refine go_iload_n (pc := 24) dX1_isA_24 rfl ?_
        refine go_icmp_neN (tgt := 30) (pc := 25) dX1_isA_25 (by omega) (by omega) (by decide) (fun c_25 => ?_) (fun c_25 => ?_)
        · refine go_tget (k := 62) (by decide) (by decide) (pc := 30) dX1_isA_30 sX1_15 ?_
          refine go_iload_n (pc := 33) dX1_isA_33 rfl ?_
          refine go_tldN (x := (nI 0)) (by decide) (by decide) (pc := 34) dX1_isA_34 (by omega) (by decide) ?_
          refine go_istore_n (pc := 35) dX1_isA_35 (by decide) rfl ?_
          refine go_iincN (c := 1) (pc := 36) dX1_isA_36 rfl (by decide) (by decide) rfl ?_
          refine go_goto (tgt := 5) (pc := 39) dX1_isA_39 (by decide) ?_
          refine go_iload (pc := 5) dX1_isA_5 rfl ?_
          refine go_tget (k := 62) (by decide) (by decide) (pc := 7) dX1_isA_7 sX1_15 ?_
          refine go_tlen (by decide) (by decide) (pc := 10) dX1_isA_10 ?_
          refine go_top (y := nI 6) (by decide) ?_
          refine go_icmp_geN (tgt := 42) (pc := 11) dX1_isA_11 (by omega) (by omega) (by decide) (fun c_11 => ?_) (fun c_11 => ?_)
          · omega
          · refine go_iload_n (pc := 14) dX1_isA_14 rfl ?_
            refine go_iconst (v := nI 0) (pc := 15) dX1_isA_15 (by decide) ?_
            refine go_iconst (v := nI 5) (pc := 16) dX1_isA_16 (by decide) ?_
            refine go_cN (pc := 17) dX1_isA_17 ev_isWithinN nX1_18 YX7_isWithin SX7_isWithin rfl (by decide) rfl (Nat.le_of_ble_eq_true rfl) ?_
            refine go_if_eqB (tgt := 42) (pc := 20) dX1_isA_20 (by decide) (fun c_20 => ?_) (fun c_20 => ?_)
            · exact absurd (by decide) c_20
            · refine go_iload_n (pc := 23) dX1_isA_23 rfl ?_
              refine go_iload_n (pc := 24) dX1_isA_24 rfl ?_
              refine go_icmp_neN (tgt := 30) (pc := 25) dX1_isA_25 (by omega) (by omega) (by decide) (fun c_25 => ?_) (fun c_25 => ?_)
              · refine go_tget (k := 62) (by decide) (by decide) (pc := 30) dX1_isA_30 sX1_15 ?_
                refine go_iload_n (pc := 33) dX1_isA_33 rfl ?_
                refine go_tldN (x := (-1)) (by decide) (by decide) (pc := 34) dX1_isA_34 (by omega) (by decide) ?_
                refine go_istore_n (pc := 35) dX1_isA_35 (by decide) rfl ?_
                refine go_iincN (c := 1) (pc := 36) dX1_isA_36 rfl (by decide) (by decide) rfl ?_
                refine go_goto (tgt := 5) (pc := 39) dX1_isA_39 (by decide) ?_
                refine go_iload (pc := 5) dX1_isA_5 rfl ?_
                refine go_tget (k := 62) (by decide) (by decide) (pc := 7) dX1_isA_7 sX1_15 ?_
                refine go_tlen (by decide) (by decide) (pc := 10) dX1_isA_10 ?_
                refine go_top (y := nI 6) (by decide) ?_
                refine go_icmp_geN (tgt := 42) (pc := 11) dX1_isA_11 (by omega) (by omega) (by decide) (fun c_11 => ?_) (fun c_11 => ?_)
                · omega
                · refine go_iload_n (pc := 14) dX1_isA_14 rfl ?_
                  refine go_iconst (v := nI 0) (pc := 15) dX1_isA_15 (by decide) ?_
                  refine go_iconst (v := nI 5) (pc := 16) dX1_isA_16 (by decide) ?_
                  refine go_cN (pc := 17) dX1_isA_17 ev_isWithinN nX1_18 YX7_isWithin SX7_isWithin rfl (by decide) rfl (Nat.le_of_ble_eq_true rfl) ?_
                  refine go_if_eqB (tgt := 42) (pc := 20) dX1_isA_20 (by decide) (fun c_20 => ?_) (fun c_20 => ?_)
                  · refine go_iconst (v := nI 0) (pc := 42) dX1_isA_42 (by decide) ?_
                    exact go_retI (pc := 43) dX1_isA_43 (py_b_f (by unfold py_isa; omega)).symm rfl
                  · exact absurd c_20 (by decide)
              · refine go_iconst (v := nI 1) (pc := 28) dX1_isA_28 (by decide) ?_
                exact go_retI (pc := 29) dX1_isA_29 (py_b_t (by unfold py_isa; omega)).symm rfl
        · refine go_iconst (v := nI 1) (pc := 28) dX1_isA_28 (by decide) ?_
          exact go_retI (pc := 29) dX1_isA_29 (py_b_t (by unfold py_isa; omega)).symm rfl
  · subst hk
    refine go_iload_n (pc := 0) dX1_isA_0 rfl ?_
    refine go_istore_n (pc := 1) dX1_isA_1 (by decide) rfl ?_
    refine go_iconst (v := nI 0) (pc := 2) dX1_isA_2 (by decide) ?_
    refine go_istore (pc := 3) dX1_isA_3 (by decide) rfl ?_
    refine go_iload (pc := 5) dX1_isA_5 rfl ?_
    refine go_tget (k := 62) (by decide) (by decide) (pc := 7) dX1_isA_7 sX1_15 ?_
    refine go_tlen (by decide) (by decide) (pc := 10) dX1_isA_10 ?_
    refine go_top (y := nI 6) (by decide) ?_
    refine go_icmp_geN (tgt := 42) (pc := 11) dX1_isA_11 (by omega) (by omega) (by decide) (fun c_11 => ?_) (fun c_11 => ?_)
    · omega
    · refine go_iload_n (pc := 14) dX1_isA_14 rfl ?_
      refine go_iconst (v := nI 0) (pc := 15) dX1_isA_15 (by decide) ?_
      refine go_iconst (v := nI 5) (pc := 16) dX1_isA_16 (by decide) ?_
      refine go_cN (pc := 17) dX1_isA_17 ev_isWithinN nX1_18 YX7_isWithin SX7_isWithin rfl (by decide) rfl (Nat.le_of_ble_eq_true rfl) ?_
      refine go_if_eqB (tgt := 42) (pc := 20) dX1_isA_20 (by decide) (fun c_20 => ?_) (fun c_20 => ?_)
      · exact absurd (by decide) c_20
      · refine go_iload_n (pc := 23) dX1_isA_23 rfl ?_
        refine go_iload_n (pc := 24) dX1_isA_24 rfl ?_
        refine go_icmp_neN (tgt := 30) (pc := 25) dX1_isA_25 (by omega) (by omega) (by decide) (fun c_25 => ?_) (fun c_25 => ?_)
        · refine go_tget (k := 62) (by decide) (by decide) (pc := 30) dX1_isA_30 sX1_15 ?_
          refine go_iload_n (pc := 33) dX1_isA_33 rfl ?_
          refine go_tldN (x := (nI 1)) (by decide) (by decide) (pc := 34) dX1_isA_34 (by omega) (by decide) ?_
          refine go_istore_n (pc := 35) dX1_isA_35 (by decide) rfl ?_
          refine go_iincN (c := 1) (pc := 36) dX1_isA_36 rfl (by decide) (by decide) rfl ?_
          refine go_goto (tgt := 5) (pc := 39) dX1_isA_39 (by decide) ?_
          refine go_iload (pc := 5) dX1_isA_5 rfl ?_
          refine go_tget (k := 62) (by decide) (by decide) (pc := 7) dX1_isA_7 sX1_15 ?_
          refine go_tlen (by decide) (by decide) (pc := 10) dX1_isA_10 ?_
          refine go_top (y := nI 6) (by decide) ?_
          refine go_icmp_geN (tgt := 42) (pc := 11) dX1_isA_11 (by omega) (by omega) (by decide) (fun c_11 => ?_) (fun c_11 => ?_)
          · omega
          · refine go_iload_n (pc := 14) dX1_isA_14 rfl ?_
            refine go_iconst (v := nI 0) (pc := 15) dX1_isA_15 (by decide) ?_
            refine go_iconst (v := nI 5) (pc := 16) dX1_isA_16 (by decide) ?_
            refine go_cN (pc := 17) dX1_isA_17 ev_isWithinN nX1_18 YX7_isWithin SX7_isWithin rfl (by decide) rfl (Nat.le_of_ble_eq_true rfl) ?_
            refine go_if_eqB (tgt := 42) (pc := 20) dX1_isA_20 (by decide) (fun c_20 => ?_) (fun c_20 => ?_)
            · exact absurd (by decide) c_20
            · refine go_iload_n (pc := 23) dX1_isA_23 rfl ?_
              refine go_iload_n (pc := 24) dX1_isA_24 rfl ?_
              refine go_icmp_neN (tgt := 30) (pc := 25) dX1_isA_25 (by omega) (by omega) (by decide) (fun c_25 => ?_) (fun c_25 => ?_)
              · refine go_tget (k := 62) (by decide) (by decide) (pc := 30) dX1_isA_30 sX1_15 ?_
                refine go_iload_n (pc := 33) dX1_isA_33 rfl ?_
                refine go_tldN (x := (nI 0)) (by decide) (by decide) (pc := 34) dX1_isA_34 (by omega) (by decide) ?_
                refine go_istore_n (pc := 35) dX1_isA_35 (by decide) rfl ?_
                refine go_iincN (c := 1) (pc := 36) dX1_isA_36 rfl (by decide) (by decide) rfl ?_
                refine go_goto (tgt := 5) (pc := 39) dX1_isA_39 (by decide) ?_
                refine go_iload (pc := 5) dX1_isA_5 rfl ?_
                refine go_tget (k := 62) (by decide) (by decide) (pc := 7) dX1_isA_7 sX1_15 ?_
                refine go_tlen (by decide) (by decide) (pc := 10) dX1_isA_10 ?_
                refine go_top (y := nI 6) (by decide) ?_
                refine go_icmp_geN (tgt := 42) (pc := 11) dX1_isA_11 (by omega) (by omega) (by decide) (fun c_11 => ?_) (fun c_11 => ?_)
                · omega
                · refine go_iload_n (pc := 14) dX1_isA_14 rfl ?_
                  refine go_iconst (v := nI 0) (pc := 15) dX1_isA_15 (by decide) ?_
                  refine go_iconst (v := nI 5) (pc := 16) dX1_isA_16 (by decide) ?_
                  refine go_cN (pc := 17) dX1_isA_17 ev_isWithinN nX1_18 YX7_isWithin SX7_isWithin rfl (by decide) rfl (Nat.le_of_ble_eq_true rfl) ?_
                  refine go_if_eqB (tgt := 42) (pc := 20) dX1_isA_20 (by decide) (fun c_20 => ?_) (fun c_20 => ?_)
                  · exact absurd (by decide) c_20
                  · refine go_iload_n (pc := 23) dX1_isA_23 rfl ?_
                    refine go_iload_n (pc := 24) dX1_isA_24 rfl ?_
                    refine go_icmp_neN (tgt := 30) (pc := 25) dX1_isA_25 (by omega) (by omega) (by decide) (fun c_25 => ?_) (fun c_25 => ?_)
                    · refine go_tget (k := 62) (by decide) (by decide) (pc := 30) dX1_isA_30 sX1_15 ?_
                      refine go_iload_n (pc := 33) dX1_isA_33 rfl ?_
                      refine go_tldN (x := (-1)) (by decide) (by decide) (pc := 34) dX1_isA_34 (by omega) (by decide) ?_
                      refine go_istore_n (pc := 35) dX1_isA_35 (by decide) rfl ?_
                      refine go_iincN (c := 1) (pc := 36) dX1_isA_36 rfl (by decide) (by decide) rfl ?_
                      refine go_goto (tgt := 5) (pc := 39) dX1_isA_39 (by decide) ?_
                      refine go_iload (pc := 5) dX1_isA_5 rfl ?_
                      refine go_tget (k := 62) (by decide) (by decide) (pc := 7) dX1_isA_7 sX1_15 ?_
                      refine go_tlen (by decide) (by decide) (pc := 10) dX1_isA_10 ?_
                      refine go_top (y := nI 6) (by decide) ?_
                      refine go_icmp_geN (tgt := 42) (pc := 11) dX1_isA_11 (by omega) (by omega) (by decide) (fun c_11 => ?_) (fun c_11 => ?_)
                      · omega
                      · refine go_iload_n (pc := 14) dX1_isA_14 rfl ?_
                        refine go_iconst (v := nI 0) (pc := 15) dX1_isA_15 (by decide) ?_
                        refine go_iconst (v := nI 5) (pc := 16) dX1_isA_16 (by decide) ?_
                        refine go_cN (pc := 17) dX1_isA_17 ev_isWithinN nX1_18 YX7_isWithin SX7_isWithin rfl (by decide) rfl (Nat.le_of_ble_eq_true rfl) ?_
                        refine go_if_eqB (tgt := 42) (pc := 20) dX1_isA_20 (by decide) (fun c_20 => ?_) (fun c_20 => ?_)
                        · refine go_iconst (v := nI 0) (pc := 42) dX1_isA_42 (by decide) ?_
                          exact go_retI (pc := 43) dX1_isA_43 (py_b_f (by unfold py_isa; omega)).symm rfl
                        · exact absurd c_20 (by decide)
                    · refine go_iconst (v := nI 1) (pc := 28) dX1_isA_28 (by decide) ?_
                      exact go_retI (pc := 29) dX1_isA_29 (py_b_t (by unfold py_isa; omega)).symm rfl
              · refine go_iconst (v := nI 1) (pc := 28) dX1_isA_28 (by decide) ?_
                exact go_retI (pc := 29) dX1_isA_29 (py_b_t (by unfold py_isa; omega)).symm rfl
        · refine go_iconst (v := nI 1) (pc := 28) dX1_isA_28 (by decide) ?_
          exact go_retI (pc := 29) dX1_isA_29 (py_b_t (by unfold py_isa; omega)).symm rfl
  · subst hk
    refine go_iload_n (pc := 0) dX1_isA_0 rfl ?_
    refine go_istore_n (pc := 1) dX1_isA_1 (by decide) rfl ?_
    refine go_iconst (v := nI 0) (pc := 2) dX1_isA_2 (by decide) ?_
    refine go_istore (pc := 3) dX1_isA_3 (by decide) rfl ?_
    refine go_iload (pc := 5) dX1_isA_5 rfl ?_
    refine go_tget (k := 62) (by decide) (by decide) (pc := 7) dX1_isA_7 sX1_15 ?_
    refine go_tlen (by decide) (by decide) (pc := 10) dX1_isA_10 ?_
    refine go_top (y := nI 6) (by decide) ?_
    refine go_icmp_geN (tgt := 42) (pc := 11) dX1_isA_11 (by omega) (by omega) (by decide) (fun c_11 => ?_) (fun c_11 => ?_)
    · omega
    · refine go_iload_n (pc := 14) dX1_isA_14 rfl ?_
      refine go_iconst (v := nI 0) (pc := 15) dX1_isA_15 (by decide) ?_
      refine go_iconst (v := nI 5) (pc := 16) dX1_isA_16 (by decide) ?_
      refine go_cN (pc := 17) dX1_isA_17 ev_isWithinN nX1_18 YX7_isWithin SX7_isWithin rfl (by decide) rfl (Nat.le_of_ble_eq_true rfl) ?_
      refine go_if_eqB (tgt := 42) (pc := 20) dX1_isA_20 (by decide) (fun c_20 => ?_) (fun c_20 => ?_)
      · exact absurd (by decide) c_20
      · refine go_iload_n (pc := 23) dX1_isA_23 rfl ?_
        refine go_iload_n (pc := 24) dX1_isA_24 rfl ?_
        refine go_icmp_neN (tgt := 30) (pc := 25) dX1_isA_25 (by omega) (by omega) (by decide) (fun c_25 => ?_) (fun c_25 => ?_)
        · refine go_tget (k := 62) (by decide) (by decide) (pc := 30) dX1_isA_30 sX1_15 ?_
          refine go_iload_n (pc := 33) dX1_isA_33 rfl ?_
          refine go_tldN (x := (nI 1)) (by decide) (by decide) (pc := 34) dX1_isA_34 (by omega) (by decide) ?_
          refine go_istore_n (pc := 35) dX1_isA_35 (by decide) rfl ?_
          refine go_iincN (c := 1) (pc := 36) dX1_isA_36 rfl (by decide) (by decide) rfl ?_
          refine go_goto (tgt := 5) (pc := 39) dX1_isA_39 (by decide) ?_
          refine go_iload (pc := 5) dX1_isA_5 rfl ?_
          refine go_tget (k := 62) (by decide) (by decide) (pc := 7) dX1_isA_7 sX1_15 ?_
          refine go_tlen (by decide) (by decide) (pc := 10) dX1_isA_10 ?_
          refine go_top (y := nI 6) (by decide) ?_
          refine go_icmp_geN (tgt := 42) (pc := 11) dX1_isA_11 (by omega) (by omega) (by decide) (fun c_11 => ?_) (fun c_11 => ?_)
          · omega
          · refine go_iload_n (pc := 14) dX1_isA_14 rfl ?_
            refine go_iconst (v := nI 0) (pc := 15) dX1_isA_15 (by decide) ?_
            refine go_iconst (v := nI 5) (pc := 16) dX1_isA_16 (by decide) ?_
            refine go_cN (pc := 17) dX1_isA_17 ev_isWithinN nX1_18 YX7_isWithin SX7_isWithin rfl (by decide) rfl (Nat.le_of_ble_eq_true rfl) ?_
            refine go_if_eqB (tgt := 42) (pc := 20) dX1_isA_20 (by decide) (fun c_20 => ?_) (fun c_20 => ?_)
            · exact absurd (by decide) c_20
            · refine go_iload_n (pc := 23) dX1_isA_23 rfl ?_
              refine go_iload_n (pc := 24) dX1_isA_24 rfl ?_
              refine go_icmp_neN (tgt := 30) (pc := 25) dX1_isA_25 (by omega) (by omega) (by decide) (fun c_25 => ?_) (fun c_25 => ?_)
              · refine go_tget (k := 62) (by decide) (by decide) (pc := 30) dX1_isA_30 sX1_15 ?_
                refine go_iload_n (pc := 33) dX1_isA_33 rfl ?_
                refine go_tldN (x := (nI 0)) (by decide) (by decide) (pc := 34) dX1_isA_34 (by omega) (by decide) ?_
                refine go_istore_n (pc := 35) dX1_isA_35 (by decide) rfl ?_
                refine go_iincN (c := 1) (pc := 36) dX1_isA_36 rfl (by decide) (by decide) rfl ?_
                refine go_goto (tgt := 5) (pc := 39) dX1_isA_39 (by decide) ?_
                refine go_iload (pc := 5) dX1_isA_5 rfl ?_
                refine go_tget (k := 62) (by decide) (by decide) (pc := 7) dX1_isA_7 sX1_15 ?_
                refine go_tlen (by decide) (by decide) (pc := 10) dX1_isA_10 ?_
                refine go_top (y := nI 6) (by decide) ?_
                refine go_icmp_geN (tgt := 42) (pc := 11) dX1_isA_11 (by omega) (by omega) (by decide) (fun c_11 => ?_) (fun c_11 => ?_)
                · omega
                · refine go_iload_n (pc := 14) dX1_isA_14 rfl ?_
                  refine go_iconst (v := nI 0) (pc := 15) dX1_isA_15 (by decide) ?_
                  refine go_iconst (v := nI 5) (pc := 16) dX1_isA_16 (by decide) ?_
                  refine go_cN (pc := 17) dX1_isA_17 ev_isWithinN nX1_18 YX7_isWithin SX7_isWithin rfl (by decide) rfl (Nat.le_of_ble_eq_true rfl) ?_
                  refine go_if_eqB (tgt := 42) (pc := 20) dX1_isA_20 (by decide) (fun c_20 => ?_) (fun c_20 => ?_)
                  · exact absurd (by decide) c_20
                  · refine go_iload_n (pc := 23) dX1_isA_23 rfl ?_
                    refine go_iload_n (pc := 24) dX1_isA_24 rfl ?_
                    refine go_icmp_neN (tgt := 30) (pc := 25) dX1_isA_25 (by omega) (by omega) (by decide) (fun c_25 => ?_) (fun c_25 => ?_)
                    · refine go_tget (k := 62) (by decide) (by decide) (pc := 30) dX1_isA_30 sX1_15 ?_
                      refine go_iload_n (pc := 33) dX1_isA_33 rfl ?_
                      refine go_tldN (x := (-1)) (by decide) (by decide) (pc := 34) dX1_isA_34 (by omega) (by decide) ?_
                      refine go_istore_n (pc := 35) dX1_isA_35 (by decide) rfl ?_
                      refine go_iincN (c := 1) (pc := 36) dX1_isA_36 rfl (by decide) (by decide) rfl ?_
                      refine go_goto (tgt := 5) (pc := 39) dX1_isA_39 (by decide) ?_
                      refine go_iload (pc := 5) dX1_isA_5 rfl ?_
                      refine go_tget (k := 62) (by decide) (by decide) (pc := 7) dX1_isA_7 sX1_15 ?_
                      refine go_tlen (by decide) (by decide) (pc := 10) dX1_isA_10 ?_
                      refine go_top (y := nI 6) (by decide) ?_
                      refine go_icmp_geN (tgt := 42) (pc := 11) dX1_isA_11 (by omega) (by omega) (by decide) (fun c_11 => ?_) (fun c_11 => ?_)
                      · omega
                      · refine go_iload_n (pc := 14) dX1_isA_14 rfl ?_
                        refine go_iconst (v := nI 0) (pc := 15) dX1_isA_15 (by decide) ?_
                        refine go_iconst (v := nI 5) (pc := 16) dX1_isA_16 (by decide) ?_
                        refine go_cN (pc := 17) dX1_isA_17 ev_isWithinN nX1_18 YX7_isWithin SX7_isWithin rfl (by decide) rfl (Nat.le_of_ble_eq_true rfl) ?_
                        refine go_if_eqB (tgt := 42) (pc := 20) dX1_isA_20 (by decide) (fun c_20 => ?_) (fun c_20 => ?_)
                        · refine go_iconst (v := nI 0) (pc := 42) dX1_isA_42 (by decide) ?_
                          exact go_retI (pc := 43) dX1_isA_43 (py_b_f (by unfold py_isa; omega)).symm rfl
                        · exact absurd c_20 (by decide)
                    · refine go_iconst (v := nI 1) (pc := 28) dX1_isA_28 (by decide) ?_
                      exact go_retI (pc := 29) dX1_isA_29 (py_b_t (by unfold py_isa; omega)).symm rfl
              · refine go_iconst (v := nI 1) (pc := 28) dX1_isA_28 (by decide) ?_
                exact go_retI (pc := 29) dX1_isA_29 (py_b_t (by unfold py_isa; omega)).symm rfl
        · refine go_iconst (v := nI 1) (pc := 28) dX1_isA_28 (by decide) ?_
          exact go_retI (pc := 29) dX1_isA_29 (py_b_t (by unfold py_isa; omega)).symm rfl
  · subst hk
    refine go_iload_n (pc := 0) dX1_isA_0 rfl ?_
    refine go_istore_n (pc := 1) dX1_isA_1 (by decide) rfl ?_
    refine go_iconst (v := nI 0) (pc := 2) dX1_isA_2 (by decide) ?_
    refine go_istore (pc := 3) dX1_isA_3 (by decide) rfl ?_
    refine go_iload (pc := 5) dX1_isA_5 rfl ?_
    refine go_tget (k := 62) (by decide) (by decide) (pc := 7) dX1_isA_7 sX1_15 ?_
    refine go_tlen (by decide) (by decide) (pc := 10) dX1_isA_10 ?_
    refine go_top (y := nI 6) (by decide) ?_
    refine go_icmp_geN (tgt := 42) (pc := 11) dX1_isA_11 (by omega) (by omega) (by decide) (fun c_11 => ?_) (fun c_11 => ?_)
    · omega
    · refine go_iload_n (pc := 14) dX1_isA_14 rfl ?_
      refine go_iconst (v := nI 0) (pc := 15) dX1_isA_15 (by decide) ?_
      refine go_iconst (v := nI 5) (pc := 16) dX1_isA_16 (by decide) ?_
      refine go_cN (pc := 17) dX1_isA_17 ev_isWithinN nX1_18 YX7_isWithin SX7_isWithin rfl (by decide) rfl (Nat.le_of_ble_eq_true rfl) ?_
      refine go_if_eqB (tgt := 42) (pc := 20) dX1_isA_20 (by decide) (fun c_20 => ?_) (fun c_20 => ?_)
      · exact absurd (by decide) c_20
      · refine go_iload_n (pc := 23) dX1_isA_23 rfl ?_
        refine go_iload_n (pc := 24) dX1_isA_24 rfl ?_
        refine go_icmp_neN (tgt := 30) (pc := 25) dX1_isA_25 (by omega) (by omega) (by decide) (fun c_25 => ?_) (fun c_25 => ?_)
        · refine go_tget (k := 62) (by decide) (by decide) (pc := 30) dX1_isA_30 sX1_15 ?_
          refine go_iload_n (pc := 33) dX1_isA_33 rfl ?_
          refine go_tldN (x := (nI 0)) (by decide) (by decide) (pc := 34) dX1_isA_34 (by omega) (by decide) ?_
          refine go_istore_n (pc := 35) dX1_isA_35 (by decide) rfl ?_
          refine go_iincN (c := 1) (pc := 36) dX1_isA_36 rfl (by decide) (by decide) rfl ?_
          refine go_goto (tgt := 5) (pc := 39) dX1_isA_39 (by decide) ?_
          refine go_iload (pc := 5) dX1_isA_5 rfl ?_
          refine go_tget (k := 62) (by decide) (by decide) (pc := 7) dX1_isA_7 sX1_15 ?_
          refine go_tlen (by decide) (by decide) (pc := 10) dX1_isA_10 ?_
          refine go_top (y := nI 6) (by decide) ?_
          refine go_icmp_geN (tgt := 42) (pc := 11) dX1_isA_11 (by omega) (by omega) (by decide) (fun c_11 => ?_) (fun c_11 => ?_)
          · omega
          · refine go_iload_n (pc := 14) dX1_isA_14 rfl ?_
            refine go_iconst (v := nI 0) (pc := 15) dX1_isA_15 (by decide) ?_
            refine go_iconst (v := nI 5) (pc := 16) dX1_isA_16 (by decide) ?_
            refine go_cN (pc := 17) dX1_isA_17 ev_isWithinN nX1_18 YX7_isWithin SX7_isWithin rfl (by decide) rfl (Nat.le_of_ble_eq_true rfl) ?_
            refine go_if_eqB (tgt := 42) (pc := 20) dX1_isA_20 (by decide) (fun c_20 => ?_) (fun c_20 => ?_)
            · exact absurd (by decide) c_20
            · refine go_iload_n (pc := 23) dX1_isA_23 rfl ?_
              refine go_iload_n (pc := 24) dX1_isA_24 rfl ?_
              refine go_icmp_neN (tgt := 30) (pc := 25) dX1_isA_25 (by omega) (by omega) (by decide) (fun c_25 => ?_) (fun c_25 => ?_)
              · refine go_tget (k := 62) (by decide) (by decide) (pc := 30) dX1_isA_30 sX1_15 ?_
                refine go_iload_n (pc := 33) dX1_isA_33 rfl ?_
                refine go_tldN (x := (-1)) (by decide) (by decide) (pc := 34) dX1_isA_34 (by omega) (by decide) ?_
                refine go_istore_n (pc := 35) dX1_isA_35 (by decide) rfl ?_
                refine go_iincN (c := 1) (pc := 36) dX1_isA_36 rfl (by decide) (by decide) rfl ?_
                refine go_goto (tgt := 5) (pc := 39) dX1_isA_39 (by decide) ?_
                refine go_iload (pc := 5) dX1_isA_5 rfl ?_
                refine go_tget (k := 62) (by decide) (by decide) (pc := 7) dX1_isA_7 sX1_15 ?_
                refine go_tlen (by decide) (by decide) (pc := 10) dX1_isA_10 ?_
                refine go_top (y := nI 6) (by decide) ?_
                refine go_icmp_geN (tgt := 42) (pc := 11) dX1_isA_11 (by omega) (by omega) (by decide) (fun c_11 => ?_) (fun c_11 => ?_)
                · omega
                · refine go_iload_n (pc := 14) dX1_isA_14 rfl ?_
                  refine go_iconst (v := nI 0) (pc := 15) dX1_isA_15 (by decide) ?_
                  refine go_iconst (v := nI 5) (pc := 16) dX1_isA_16 (by decide) ?_
                  refine go_cN (pc := 17) dX1_isA_17 ev_isWithinN nX1_18 YX7_isWithin SX7_isWithin rfl (by decide) rfl (Nat.le_of_ble_eq_true rfl) ?_
                  refine go_if_eqB (tgt := 42) (pc := 20) dX1_isA_20 (by decide) (fun c_20 => ?_) (fun c_20 => ?_)
                  · refine go_iconst (v := nI 0) (pc := 42) dX1_isA_42 (by decide) ?_
                    exact go_retI (pc := 43) dX1_isA_43 (py_b_f (by unfold py_isa; omega)).symm rfl
                  · exact absurd c_20 (by decide)
              · refine go_iconst (v := nI 1) (pc := 28) dX1_isA_28 (by decide) ?_
                exact go_retI (pc := 29) dX1_isA_29 (py_b_t (by unfold py_isa; omega)).symm rfl
        · refine go_iconst (v := nI 1) (pc := 28) dX1_isA_28 (by decide) ?_
          exact go_retI (pc := 29) dX1_isA_29 (py_b_t (by unfold py_isa; omega)).symm rfl
  · subst hk
    refine go_iload_n (pc := 0) dX1_isA_0 rfl ?_
    refine go_istore_n (pc := 1) dX1_isA_1 (by decide) rfl ?_
    refine go_iconst (v := nI 0) (pc := 2) dX1_isA_2 (by decide) ?_
    refine go_istore (pc := 3) dX1_isA_3 (by decide) rfl ?_
    refine go_iload (pc := 5) dX1_isA_5 rfl ?_
    refine go_tget (k := 62) (by decide) (by decide) (pc := 7) dX1_isA_7 sX1_15 ?_
    refine go_tlen (by decide) (by decide) (pc := 10) dX1_isA_10 ?_
    refine go_top (y := nI 6) (by decide) ?_
    refine go_icmp_geN (tgt := 42) (pc := 11) dX1_isA_11 (by omega) (by omega) (by decide) (fun c_11 => ?_) (fun c_11 => ?_)
    · omega
    · refine go_iload_n (pc := 14) dX1_isA_14 rfl ?_
      refine go_iconst (v := nI 0) (pc := 15) dX1_isA_15 (by decide) ?_
      refine go_iconst (v := nI 5) (pc := 16) dX1_isA_16 (by decide) ?_
      refine go_cN (pc := 17) dX1_isA_17 ev_isWithinN nX1_18 YX7_isWithin SX7_isWithin rfl (by decide) rfl (Nat.le_of_ble_eq_true rfl) ?_
      refine go_if_eqB (tgt := 42) (pc := 20) dX1_isA_20 (by decide) (fun c_20 => ?_) (fun c_20 => ?_)
      · exact absurd (by decide) c_20
      · refine go_iload_n (pc := 23) dX1_isA_23 rfl ?_
        refine go_iload_n (pc := 24) dX1_isA_24 rfl ?_
        refine go_icmp_neN (tgt := 30) (pc := 25) dX1_isA_25 (by omega) (by omega) (by decide) (fun c_25 => ?_) (fun c_25 => ?_)
        · refine go_tget (k := 62) (by decide) (by decide) (pc := 30) dX1_isA_30 sX1_15 ?_
          refine go_iload_n (pc := 33) dX1_isA_33 rfl ?_
          refine go_tldN (x := (nI 4)) (by decide) (by decide) (pc := 34) dX1_isA_34 (by omega) (by decide) ?_
          refine go_istore_n (pc := 35) dX1_isA_35 (by decide) rfl ?_
          refine go_iincN (c := 1) (pc := 36) dX1_isA_36 rfl (by decide) (by decide) rfl ?_
          refine go_goto (tgt := 5) (pc := 39) dX1_isA_39 (by decide) ?_
          refine go_iload (pc := 5) dX1_isA_5 rfl ?_
          refine go_tget (k := 62) (by decide) (by decide) (pc := 7) dX1_isA_7 sX1_15 ?_
          refine go_tlen (by decide) (by decide) (pc := 10) dX1_isA_10 ?_
          refine go_top (y := nI 6) (by decide) ?_
          refine go_icmp_geN (tgt := 42) (pc := 11) dX1_isA_11 (by omega) (by omega) (by decide) (fun c_11 => ?_) (fun c_11 => ?_)
          · omega
          · refine go_iload_n (pc := 14) dX1_isA_14 rfl ?_
            refine go_iconst (v := nI 0) (pc := 15) dX1_isA_15 (by decide) ?_
            refine go_iconst (v := nI 5) (pc := 16) dX1_isA_16 (by decide) ?_
            refine go_cN (pc := 17) dX1_isA_17 ev_isWithinN nX1_18 YX7_isWithin SX7_isWithin rfl (by decide) rfl (Nat.le_of_ble_eq_true rfl) ?_
            refine go_if_eqB (tgt := 42) (pc := 20) dX1_isA_20 (by decide) (fun c_20 => ?_) (fun c_20 => ?_)
            · exact absurd (by decide) c_20
            · refine go_iload_n (pc := 23) dX1_isA_23 rfl ?_
              refine go_iload_n (pc := 24) dX1_isA_24 rfl ?_
              refine go_icmp_neN (tgt := 30) (pc := 25) dX1_isA_25 (by omega) (by omega) (by decide) (fun c_25 => ?_) (fun c_25 => ?_)
              · refine go_tget (k := 62) (by decide) (by decide) (pc := 30) dX1_isA_30 sX1_15 ?_
                refine go_iload_n (pc := 33) dX1_isA_33 rfl ?_
                refine go_tldN (x := (nI 0)) (by decide) (by decide) (pc := 34) dX1_isA_34 (by omega) (by decide) ?_
                refine go_istore_n (pc := 35) dX1_isA_35 (by decide) rfl ?_
                refine go_iincN (c := 1) (pc := 36) dX1_isA_36 rfl (by decide) (by decide) rfl ?_
                refine go_goto (tgt := 5) (pc := 39) dX1_isA_39 (by decide) ?_
                refine go_iload (pc := 5) dX1_isA_5 rfl ?_
                refine go_tget (k := 62) (by decide) (by decide) (pc := 7) dX1_isA_7 sX1_15 ?_
                refine go_tlen (by decide) (by decide) (pc := 10) dX1_isA_10 ?_
                refine go_top (y := nI 6) (by decide) ?_
                refine go_icmp_geN (tgt := 42) (pc := 11) dX1_isA_11 (by omega) (by omega) (by decide) (fun c_11 => ?_) (fun c_11 => ?_)
                · omega
                · refine go_iload_n (pc := 14) dX1_isA_14 rfl ?_
                  refine go_iconst (v := nI 0) (pc := 15) dX1_isA_15 (by decide) ?_
                  refine go_iconst (v := nI 5) (pc := 16) dX1_isA_16 (by decide) ?_
                  refine go_cN (pc := 17) dX1_isA_17 ev_isWithinN nX1_18 YX7_isWithin SX7_isWithin rfl (by decide) rfl (Nat.le_of_ble_eq_true rfl) ?_
                  refine go_if_eqB (tgt := 42) (pc := 20) dX1_isA_20 (by decide) (fun c_20 => ?_) (fun c_20 => ?_)
                  · exact absurd (by decide) c_20
                  · refine go_iload_n (pc := 23) dX1_isA_23 rfl ?_
                    refine go_iload_n (pc := 24) dX1_isA_24 rfl ?_
                    refine go_icmp_neN (tgt := 30) (pc := 25) dX1_isA_25 (by omega) (by omega) (by decide) (fun c_25 => ?_) (fun c_25 => ?_)
                    · refine go_tget (k := 62) (by decide) (by decide) (pc := 30) dX1_isA_30 sX1_15 ?_
                      refine go_iload_n (pc := 33) dX1_isA_33 rfl ?_
                      refine go_tldN (x := (-1)) (by decide) (by decide) (pc := 34) dX1_isA_34 (by omega) (by decide) ?_
                      refine go_istore_n (pc := 35) dX1_isA_35 (by decide) rfl ?_
                      refine go_iincN (c := 1) (pc := 36) dX1_isA_36 rfl (by decide) (by decide) rfl ?_
                      refine go_goto (tgt := 5) (pc := 39) dX1_isA_39 (by decide) ?_
                      refine go_iload (pc := 5) dX1_isA_5 rfl ?_
                      refine go_tget (k := 62) (by decide) (by decide) (pc := 7) dX1_isA_7 sX1_15 ?_
                      refine go_tlen (by decide) (by decide) (pc := 10) dX1_isA_10 ?_
                      refine go_top (y := nI 6) (by decide) ?_
                      refine go_icmp_geN (tgt := 42) (pc := 11) dX1_isA_11 (by omega) (by omega) (by decide) (fun c_11 => ?_) (fun c_11 => ?_)
                      · omega
                      · refine go_iload_n (pc := 14) dX1_isA_14 rfl ?_
                        refine go_iconst (v := nI 0) (pc := 15) dX1_isA_15 (by decide) ?_
                        refine go_iconst (v := nI 5) (pc := 16) dX1_isA_16 (by decide) ?_
                        refine go_cN (pc := 17) dX1_isA_17 ev_isWithinN nX1_18 YX7_isWithin SX7_isWithin rfl (by decide) rfl (Nat.le_of_ble_eq_true rfl) ?_
                        refine go_if_eqB (tgt := 42) (pc := 20) dX1_isA_20 (by decide) (fun c_20 => ?_) (fun c_20 => ?_)
                        · refine go_iconst (v := nI 0) (pc := 42) dX1_isA_42 (by decide) ?_
                          exact go_retI (pc := 43) dX1_isA_43 (py_b_f (by unfold py_isa; omega)).symm rfl
                        · exact absurd c_20 (by decide)
                    · refine go_iconst (v := nI 1) (pc := 28) dX1_isA_28 (by decide) ?_
                      exact go_retI (pc := 29) dX1_isA_29 (py_b_t (by unfold py_isa; omega)).symm rfl
              · refine go_iconst (v := nI 1) (pc := 28) dX1_isA_28 (by decide) ?_
                exact go_retI (pc := 29) dX1_isA_29 (py_b_t (by unfold py_isa; omega)).symm rfl
        · refine go_iconst (v := nI 1) (pc := 28) dX1_isA_28 (by decide) ?_
          exact go_retI (pc := 29) dX1_isA_29 (py_b_t (by unfold py_isa; omega)).symm rfl
