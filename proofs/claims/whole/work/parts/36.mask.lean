/-! contracts: the reference's asks, its trace -/
def py_bgm (σ : py_H) (t b : Nat) : py_H := py_up (py_up σ 61 t (nI b)) 47 23 (nI (t + 1))
def py_trm : py_H → Nat → List Nat → py_H
  | σ, _, [] => σ
  | σ, t, b :: l => py_trm (py_bgm σ t b) (t + 1) l
theorem py_bgm_n (σ : py_H) (t b : Nat) : py_bgm σ t b 47 23 = nI (t + 1) := py_up_s _ _ _ _
theorem py_trm_n : ∀ (l : List Nat) (σ : py_H) (t : Nat), σ 47 23 = nI t → py_trm σ t l 47 23 = nI (t + l.length)
  | [], σ, t, h => h
  | b :: l, σ, t, h => by
    have e := py_trm_n l (py_bgm σ t b) (t + 1) (py_bgm_n σ t b)
    rw [show t + (b :: l).length = t + 1 + l.length by simp; omega]
    exact e
theorem py_bgm_fr (σ : py_H) (t b : Nat) : py_fr [61] [(47, 23)] σ (py_bgm σ t b) := ((py_fr.rf [61] [(47, 23)] σ).up (by decide) _).ut (by decide) _
theorem py_trm_fr : ∀ (l : List Nat) (σ : py_H) (t : Nat), py_fr [61] [(47, 23)] σ (py_trm σ t l)
  | [], σ, t => py_fr.rf _ _ σ
  | b :: l, σ, t => (py_bgm_fr σ t b).tr (py_trm_fr l (py_bgm σ t b) (t + 1)) (by decide) (by decide)
theorem py_trm_app : ∀ (l m : List Nat) (σ : py_H) (t : Nat), py_trm (py_trm σ t l) (t + l.length) m = py_trm σ t (l ++ m)
  | [], m, σ, t => rfl
  | b :: l, m, σ, t => by
    have e := py_trm_app l m (py_bgm σ t b) (t + 1)
    rw [show t + (b :: l).length = t + 1 + l.length by simp; omega]
    exact e
theorem py_trm_hm {σ : py_H} {t : Nat} {G : Nat → Nat} (l : List Nat) (h : py_hm (σ 53) 0 G) : py_hm (py_trm σ t l 53) 0 G := by
  rw [(py_trm_fr l σ t).at 53 (by decide) (by decide)]
  exact h
theorem py_trm_at : ∀ (l : List Nat) (σ : py_H) (t i : Nat), py_trm σ t l 61 i = if t ≤ i ∧ i < t + l.length then nI (l.getD (i - t) 0) else σ 61 i
  | [], σ, t, i => by
    have e : py_trm σ t [] = σ := rfl
    rw [e, if_neg]
    simp
  | b :: l, σ, t, i => by
    have e := py_trm_at l (py_bgm σ t b) (t + 1) i
    have e0 : py_trm σ t (b :: l) = py_trm (py_bgm σ t b) (t + 1) l := rfl
    rw [e0, e]
    by_cases h : t + 1 ≤ i ∧ i < t + 1 + l.length
    · rw [if_pos h, if_pos (by simp; omega), show i - t = (i - (t + 1)) + 1 by omega, List.getD_cons_succ]
    · rw [if_neg h]
      by_cases hi : i = t
      · subst hi
        rw [if_pos (by simp), Nat.sub_self, List.getD_cons_zero]
        unfold py_bgm
        rw [py_up_k _ _ _ (by decide), py_up_s]
      · rw [if_neg (by simp; omega)]
        unfold py_bgm
        rw [py_up_k _ _ _ (by decide), py_up_j _ _ _ hi]
theorem py_neg0 (x : Int32) : -x = nI 0 - x := by
  rw [show nI 0 = (0 : Int32) by decide]
  simp
set_option maxHeartbeats 4000000 in
set_option maxRecDepth 100000 in
theorem ev_begins {X : py_X} {σ : py_H} {t b : Nat} (ht : σ 47 23 = nI t) (h16 : t < 16) : py_Ev X 0 yX8_begins cX8_begins 2 none [.ref 47, .int (nI b)] σ (py_vs none (fun s => s = (py_bgm σ t b))) := by
  refine py_ofV (own := RX8) YX8_begins.2.2.2.2 rfl rfl (Nat.le_of_ble_eq_true rfl)  ?_
  show py_Go X RX8 cX8_begins 2 0 0 [some (.ref 47), some (.int (nI b))] [] σ (py_vs none (fun s => s = (py_bgm σ t b)))
  refine go_aload_n (pc := 0) dX8_begins_0 rfl ?_
  refine go_getI (x := (nI t)) (pc := 1) dX8_begins_1 fX8_219 rfl rfl ht ?_
  refine go_bipush (v := nI 16) (pc := 4) dX8_begins_4 (by decide) ?_
  refine go_icmp_geN (tgt := 29) (pc := 6) dX8_begins_6 (by omega) (by omega) (by decide) (fun c_6 => ?_) (fun c_6 => ?_)
  · omega
  · refine go_aload_n (pc := 9) dX8_begins_9 rfl ?_
    refine go_getR (pc := 10) dX8_begins_10 fX8_50 rfl rfl ?_
    refine go_aload_n (pc := 13) dX8_begins_13 rfl ?_
    refine go_getI (x := (nI t)) (pc := 14) dX8_begins_14 fX8_219 rfl rfl ht ?_
    refine go_iload_n (pc := 17) dX8_begins_17 rfl ?_
    refine go_astN (pc := 18) dX8_begins_18 rfl (by show t < 16; omega) ?_
    refine go_aload_n (pc := 19) dX8_begins_19 rfl ?_
    refine go_dup (pc := 20) dX8_begins_20 rfl ?_
    refine go_getI (x := (nI t)) (pc := 21) dX8_begins_21 fX8_219 rfl rfl (by rw [py_up_k _ _ _ (by decide)]; exact ht) ?_
    refine go_iconst (v := nI 1) (pc := 24) dX8_begins_24 (by decide) ?_
    refine go_iaddN (pc := 25) dX8_begins_25  ?_
    refine go_putI (pc := 26) dX8_begins_26 fX8_219 rfl rfl ?_
    exact go_retV (pc := 29) dX8_begins_29 rfl
set_option maxHeartbeats 4000000 in
set_option maxRecDepth 100000 in
theorem ev_oilMark_1 {X : py_X} {σ : py_H} {H : Nat → Nat} (hG : py_hm (σ 53) 0 H) {p t : Nat} (hp : p < 5) (ht : σ 47 23 = nI t) (h10 : t + 2 ≤ 16) (hk : H (13 + 4 * p) = 1) : py_Ev X 1 yX8_oilMark cX8_oilMark 4 (some .int) [.ref 47, .int (nI p)] σ (py_vs (some (.int (nI (p + (H (15 + 4 * p)))))) (fun s => s = py_trm σ t [21, 20])) := by
  refine py_ofI (own := RX8) YX8_oilMark.2.2.2.2 rfl rfl (Nat.le_of_ble_eq_true rfl)  ?_
  show py_Go X RX8 cX8_oilMark 4 1 0 [some (.ref 47), some (.int (nI p)), none, none] [] σ (py_vs (some (.int (nI (p + (H (15 + 4 * p)))))) (fun s => s = py_trm σ t [21, 20]))
  refine go_aload_n (pc := 0) dX8_oilMark_0 rfl ?_
  refine go_iload_n (pc := 1) dX8_oilMark_1 rfl ?_
  refine go_cV (pc := 2) dX8_oilMark_2 (ev_kindIn hG hp) lX8_216 YX8_kindIn VX8_kindIn rfl rfl rfl (by decide) rfl (Nat.le_of_ble_eq_true rfl) ?_
  refine go_top (y := nI 1) (by rw [hk]) ?_
  refine go_istore_n (pc := 5) dX8_oilMark_5 (by decide) rfl ?_
  refine go_iload_n (pc := 6) dX8_oilMark_6 rfl ?_
  refine go_iconst (v := nI 1) (pc := 7) dX8_oilMark_7 (by decide) ?_
  refine go_icmp_eqN (tgt := 27) (pc := 8) dX8_oilMark_8 (by omega) (by omega) (by decide) (fun c_8 => ?_) (fun c_8 => ?_)
  · refine go_aload_n (pc := 27) dX8_oilMark_27 rfl ?_
    refine go_bipush (v := nI 21) (pc := 28) dX8_oilMark_28 (by decide) ?_
    refine go_cVv (pc := 30) dX8_oilMark_30 (ev_begins ht (by omega)) lX8_222 YX8_begins VX8_begins rfl rfl rfl (by decide) rfl (Nat.le_of_ble_eq_true rfl) (fun s1 e1 => ?_)
    have e1b : s1 = py_trm σ t [21] := e1
    subst e1b
    refine go_aload_n (pc := 33) dX8_oilMark_33 rfl ?_
    refine go_bipush (v := nI 20) (pc := 34) dX8_oilMark_34 (by decide) ?_
    refine go_cVv (pc := 36) dX8_oilMark_36 (ev_begins (py_trm_n [21] σ t ht) (by simp; omega)) lX8_222 YX8_begins VX8_begins rfl rfl rfl (by decide) rfl (Nat.le_of_ble_eq_true rfl) (fun s2 e2 => ?_)
    have e2b : s2 = py_trm σ t [21, 20] := e2.trans (py_trm_app [21] [20] σ t)
    subst e2b
    refine go_iload_n (pc := 39) dX8_oilMark_39 rfl ?_
    refine go_aload_n (pc := 40) dX8_oilMark_40 rfl ?_
    refine go_getR (pc := 41) dX8_oilMark_41 fX8_25 rfl rfl ?_
    refine go_bipush (v := nI 13) (pc := 44) dX8_oilMark_44 (by decide) ?_
    refine go_iconst (v := nI 4) (pc := 46) dX8_oilMark_46 (by decide) ?_
    refine go_iload_n (pc := 47) dX8_oilMark_47 rfl ?_
    refine go_imulN (pc := 48) dX8_oilMark_48  ?_
    refine go_iaddN (pc := 49) dX8_oilMark_49  ?_
    refine go_iconst (v := nI 2) (pc := 50) dX8_oilMark_50 (by decide) ?_
    refine go_iaddN (pc := 51) dX8_oilMark_51  ?_
    refine go_aldN (x := (nI (H (15 + 4 * p)))) (pc := 52) dX8_oilMark_52 rfl (by show (13 + (4 * p)) + 2 < 33; omega) (py_hm_at (py_trm_hm (t := t) [21, 20] hG) (show (13 + (4 * p)) + 2 = 15 + 4 * p by omega) (by omega)) ?_
    refine go_iaddN (pc := 53) dX8_oilMark_53  ?_
    refine go_istore_n (pc := 54) dX8_oilMark_54 (by decide) rfl ?_
    refine go_iload_n (pc := 55) dX8_oilMark_55 rfl ?_
    refine go_iconst (v := nI 2) (pc := 56) dX8_oilMark_56 (by decide) ?_
    refine go_icmp_neN (tgt := 66) (pc := 57) dX8_oilMark_57 (by omega) (by omega) (by decide) (fun c_57 => ?_) (fun c_57 => ?_)
    · refine go_iload_n (pc := 66) dX8_oilMark_66 rfl ?_
      refine go_iconst (v := nI 3) (pc := 67) dX8_oilMark_67 (by decide) ?_
      refine go_icmp_neN (tgt := 79) (pc := 68) dX8_oilMark_68 (by omega) (by omega) (by decide) (fun c_68 => ?_) (fun c_68 => ?_)
      · refine go_iload_n (pc := 79) dX8_oilMark_79 rfl ?_
        exact go_retI (pc := 80) dX8_oilMark_80 rfl rfl
      · omega
    · omega
  · omega
set_option maxHeartbeats 4000000 in
set_option maxRecDepth 100000 in
theorem ev_oilMark_2 {X : py_X} {σ : py_H} {H : Nat → Nat} (hG : py_hm (σ 53) 0 H) {p t : Nat} (hp : p < 5) (ht : σ 47 23 = nI t) (h10 : t + 3 ≤ 16) (hk : H (13 + 4 * p) = 2) : py_Ev X 1 yX8_oilMark cX8_oilMark 4 (some .int) [.ref 47, .int (nI p)] σ (py_vs (some (.int (nI (2 * (p + (H (15 + 4 * p))))))) (fun s => s = py_trm σ t [24, 21, 20])) := by
  refine py_ofI (own := RX8) YX8_oilMark.2.2.2.2 rfl rfl (Nat.le_of_ble_eq_true rfl)  ?_
  show py_Go X RX8 cX8_oilMark 4 1 0 [some (.ref 47), some (.int (nI p)), none, none] [] σ (py_vs (some (.int (nI (2 * (p + (H (15 + 4 * p))))))) (fun s => s = py_trm σ t [24, 21, 20]))
  refine go_aload_n (pc := 0) dX8_oilMark_0 rfl ?_
  refine go_iload_n (pc := 1) dX8_oilMark_1 rfl ?_
  refine go_cV (pc := 2) dX8_oilMark_2 (ev_kindIn hG hp) lX8_216 YX8_kindIn VX8_kindIn rfl rfl rfl (by decide) rfl (Nat.le_of_ble_eq_true rfl) ?_
  refine go_top (y := nI 2) (by rw [hk]) ?_
  refine go_istore_n (pc := 5) dX8_oilMark_5 (by decide) rfl ?_
  refine go_iload_n (pc := 6) dX8_oilMark_6 rfl ?_
  refine go_iconst (v := nI 1) (pc := 7) dX8_oilMark_7 (by decide) ?_
  refine go_icmp_eqN (tgt := 27) (pc := 8) dX8_oilMark_8 (by omega) (by omega) (by decide) (fun c_8 => ?_) (fun c_8 => ?_)
  · omega
  · refine go_aload_n (pc := 11) dX8_oilMark_11 rfl ?_
    refine go_iload_n (pc := 12) dX8_oilMark_12 rfl ?_
    refine go_iconst (v := nI 2) (pc := 13) dX8_oilMark_13 (by decide) ?_
    refine go_icmp_neN (tgt := 22) (pc := 14) dX8_oilMark_14 (by omega) (by omega) (by decide) (fun c_14 => ?_) (fun c_14 => ?_)
    · omega
    · refine go_bipush (v := nI 24) (pc := 17) dX8_oilMark_17 (by decide) ?_
      refine go_goto (tgt := 24) (pc := 19) dX8_oilMark_19 (by decide) ?_
      refine go_cVv (pc := 24) dX8_oilMark_24 (ev_begins ht (by omega)) lX8_222 YX8_begins VX8_begins rfl rfl rfl (by decide) rfl (Nat.le_of_ble_eq_true rfl) (fun s1 e1 => ?_)
      have e1b : s1 = py_trm σ t [24] := e1
      subst e1b
      refine go_aload_n (pc := 27) dX8_oilMark_27 rfl ?_
      refine go_bipush (v := nI 21) (pc := 28) dX8_oilMark_28 (by decide) ?_
      refine go_cVv (pc := 30) dX8_oilMark_30 (ev_begins (py_trm_n [24] σ t ht) (by simp; omega)) lX8_222 YX8_begins VX8_begins rfl rfl rfl (by decide) rfl (Nat.le_of_ble_eq_true rfl) (fun s2 e2 => ?_)
      have e2b : s2 = py_trm σ t [24, 21] := e2.trans (py_trm_app [24] [21] σ t)
      subst e2b
      refine go_aload_n (pc := 33) dX8_oilMark_33 rfl ?_
      refine go_bipush (v := nI 20) (pc := 34) dX8_oilMark_34 (by decide) ?_
      refine go_cVv (pc := 36) dX8_oilMark_36 (ev_begins (py_trm_n [24, 21] σ t ht) (by simp; omega)) lX8_222 YX8_begins VX8_begins rfl rfl rfl (by decide) rfl (Nat.le_of_ble_eq_true rfl) (fun s3 e3 => ?_)
      have e3b : s3 = py_trm σ t [24, 21, 20] := e3.trans (py_trm_app [24, 21] [20] σ t)
      subst e3b
      refine go_iload_n (pc := 39) dX8_oilMark_39 rfl ?_
      refine go_aload_n (pc := 40) dX8_oilMark_40 rfl ?_
      refine go_getR (pc := 41) dX8_oilMark_41 fX8_25 rfl rfl ?_
      refine go_bipush (v := nI 13) (pc := 44) dX8_oilMark_44 (by decide) ?_
      refine go_iconst (v := nI 4) (pc := 46) dX8_oilMark_46 (by decide) ?_
      refine go_iload_n (pc := 47) dX8_oilMark_47 rfl ?_
      refine go_imulN (pc := 48) dX8_oilMark_48  ?_
      refine go_iaddN (pc := 49) dX8_oilMark_49  ?_
      refine go_iconst (v := nI 2) (pc := 50) dX8_oilMark_50 (by decide) ?_
      refine go_iaddN (pc := 51) dX8_oilMark_51  ?_
      refine go_aldN (x := (nI (H (15 + 4 * p)))) (pc := 52) dX8_oilMark_52 rfl (by show (13 + (4 * p)) + 2 < 33; omega) (py_hm_at (py_trm_hm (t := t) [24, 21, 20] hG) (show (13 + (4 * p)) + 2 = 15 + 4 * p by omega) (by omega)) ?_
      refine go_iaddN (pc := 53) dX8_oilMark_53  ?_
      refine go_istore_n (pc := 54) dX8_oilMark_54 (by decide) rfl ?_
      refine go_iload_n (pc := 55) dX8_oilMark_55 rfl ?_
      refine go_iconst (v := nI 2) (pc := 56) dX8_oilMark_56 (by decide) ?_
      refine go_icmp_neN (tgt := 66) (pc := 57) dX8_oilMark_57 (by omega) (by omega) (by decide) (fun c_57 => ?_) (fun c_57 => ?_)
      · omega
      · refine go_iconst (v := nI 2) (pc := 60) dX8_oilMark_60 (by decide) ?_
        refine go_iload_n (pc := 61) dX8_oilMark_61 rfl ?_
        refine go_imulN (pc := 62) dX8_oilMark_62  ?_
        refine go_goto (tgt := 80) (pc := 63) dX8_oilMark_63 (by decide) ?_
        exact go_retI (pc := 80) dX8_oilMark_80 rfl rfl
set_option maxHeartbeats 4000000 in
set_option maxRecDepth 100000 in
theorem ev_oilMark_3 {X : py_X} {σ : py_H} {H : Nat → Nat} (hG : py_hm (σ 53) 0 H) {p t : Nat} (hp : p < 5) (ht : σ 47 23 = nI t) (h10 : t + 3 ≤ 16) (hk : H (13 + 4 * p) = 3) : py_Ev X 1 yX8_oilMark cX8_oilMark 4 (some .int) [.ref 47, .int (nI p)] σ (py_vs (some (.int ((nI (p + (H (15 + 4 * p)))) - (nI 1000)))) (fun s => s = py_trm σ t [22, 21, 20])) := by
  refine py_ofI (own := RX8) YX8_oilMark.2.2.2.2 rfl rfl (Nat.le_of_ble_eq_true rfl)  ?_
  show py_Go X RX8 cX8_oilMark 4 1 0 [some (.ref 47), some (.int (nI p)), none, none] [] σ (py_vs (some (.int ((nI (p + (H (15 + 4 * p)))) - (nI 1000)))) (fun s => s = py_trm σ t [22, 21, 20]))
  refine go_aload_n (pc := 0) dX8_oilMark_0 rfl ?_
  refine go_iload_n (pc := 1) dX8_oilMark_1 rfl ?_
  refine go_cV (pc := 2) dX8_oilMark_2 (ev_kindIn hG hp) lX8_216 YX8_kindIn VX8_kindIn rfl rfl rfl (by decide) rfl (Nat.le_of_ble_eq_true rfl) ?_
  refine go_top (y := nI 3) (by rw [hk]) ?_
  refine go_istore_n (pc := 5) dX8_oilMark_5 (by decide) rfl ?_
  refine go_iload_n (pc := 6) dX8_oilMark_6 rfl ?_
  refine go_iconst (v := nI 1) (pc := 7) dX8_oilMark_7 (by decide) ?_
  refine go_icmp_eqN (tgt := 27) (pc := 8) dX8_oilMark_8 (by omega) (by omega) (by decide) (fun c_8 => ?_) (fun c_8 => ?_)
  · omega
  · refine go_aload_n (pc := 11) dX8_oilMark_11 rfl ?_
    refine go_iload_n (pc := 12) dX8_oilMark_12 rfl ?_
    refine go_iconst (v := nI 2) (pc := 13) dX8_oilMark_13 (by decide) ?_
    refine go_icmp_neN (tgt := 22) (pc := 14) dX8_oilMark_14 (by omega) (by omega) (by decide) (fun c_14 => ?_) (fun c_14 => ?_)
    · refine go_bipush (v := nI 22) (pc := 22) dX8_oilMark_22 (by decide) ?_
      refine go_cVv (pc := 24) dX8_oilMark_24 (ev_begins ht (by omega)) lX8_222 YX8_begins VX8_begins rfl rfl rfl (by decide) rfl (Nat.le_of_ble_eq_true rfl) (fun s1 e1 => ?_)
      have e1b : s1 = py_trm σ t [22] := e1
      subst e1b
      refine go_aload_n (pc := 27) dX8_oilMark_27 rfl ?_
      refine go_bipush (v := nI 21) (pc := 28) dX8_oilMark_28 (by decide) ?_
      refine go_cVv (pc := 30) dX8_oilMark_30 (ev_begins (py_trm_n [22] σ t ht) (by simp; omega)) lX8_222 YX8_begins VX8_begins rfl rfl rfl (by decide) rfl (Nat.le_of_ble_eq_true rfl) (fun s2 e2 => ?_)
      have e2b : s2 = py_trm σ t [22, 21] := e2.trans (py_trm_app [22] [21] σ t)
      subst e2b
      refine go_aload_n (pc := 33) dX8_oilMark_33 rfl ?_
      refine go_bipush (v := nI 20) (pc := 34) dX8_oilMark_34 (by decide) ?_
      refine go_cVv (pc := 36) dX8_oilMark_36 (ev_begins (py_trm_n [22, 21] σ t ht) (by simp; omega)) lX8_222 YX8_begins VX8_begins rfl rfl rfl (by decide) rfl (Nat.le_of_ble_eq_true rfl) (fun s3 e3 => ?_)
      have e3b : s3 = py_trm σ t [22, 21, 20] := e3.trans (py_trm_app [22, 21] [20] σ t)
      subst e3b
      refine go_iload_n (pc := 39) dX8_oilMark_39 rfl ?_
      refine go_aload_n (pc := 40) dX8_oilMark_40 rfl ?_
      refine go_getR (pc := 41) dX8_oilMark_41 fX8_25 rfl rfl ?_
      refine go_bipush (v := nI 13) (pc := 44) dX8_oilMark_44 (by decide) ?_
      refine go_iconst (v := nI 4) (pc := 46) dX8_oilMark_46 (by decide) ?_
      refine go_iload_n (pc := 47) dX8_oilMark_47 rfl ?_
      refine go_imulN (pc := 48) dX8_oilMark_48  ?_
      refine go_iaddN (pc := 49) dX8_oilMark_49  ?_
      refine go_iconst (v := nI 2) (pc := 50) dX8_oilMark_50 (by decide) ?_
      refine go_iaddN (pc := 51) dX8_oilMark_51  ?_
      refine go_aldN (x := (nI (H (15 + 4 * p)))) (pc := 52) dX8_oilMark_52 rfl (by show (13 + (4 * p)) + 2 < 33; omega) (py_hm_at (py_trm_hm (t := t) [22, 21, 20] hG) (show (13 + (4 * p)) + 2 = 15 + 4 * p by omega) (by omega)) ?_
      refine go_iaddN (pc := 53) dX8_oilMark_53  ?_
      refine go_istore_n (pc := 54) dX8_oilMark_54 (by decide) rfl ?_
      refine go_iload_n (pc := 55) dX8_oilMark_55 rfl ?_
      refine go_iconst (v := nI 2) (pc := 56) dX8_oilMark_56 (by decide) ?_
      refine go_icmp_neN (tgt := 66) (pc := 57) dX8_oilMark_57 (by omega) (by omega) (by decide) (fun c_57 => ?_) (fun c_57 => ?_)
      · refine go_iload_n (pc := 66) dX8_oilMark_66 rfl ?_
        refine go_iconst (v := nI 3) (pc := 67) dX8_oilMark_67 (by decide) ?_
        refine go_icmp_neN (tgt := 79) (pc := 68) dX8_oilMark_68 (by omega) (by omega) (by decide) (fun c_68 => ?_) (fun c_68 => ?_)
        · omega
        · refine go_iload_n (pc := 71) dX8_oilMark_71 rfl ?_
          refine go_sipush (v := nI 1000) (pc := 72) dX8_oilMark_72 (by decide) ?_
          refine go_isub (pc := 75) dX8_oilMark_75  ?_
          refine go_goto (tgt := 80) (pc := 76) dX8_oilMark_76 (by decide) ?_
          exact go_retI (pc := 80) dX8_oilMark_80 rfl rfl
      · omega
    · omega
set_option maxHeartbeats 4000000 in
set_option maxRecDepth 100000 in
theorem ev_pencilSize_4 {X : py_X} {σ : py_H} {H : Nat → Nat} (hG : py_hm (σ 53) 0 H) {p t : Nat} (hp : p < 5) (ht : σ 47 23 = nI t) (h10 : t + 2 ≤ 16) (hk : H (13 + 4 * p) = 4) : py_Ev X 1 yX8_pencilSize cX8_pencilSize 4 (some .int) [.ref 47, .int (nI p)] σ (py_vs (some (.int ((nI (H (14 + 4 * p))) - (nI 100)))) (fun s => s = py_trm σ t [13, 10])) := by
  refine py_ofI (own := RX8) YX8_pencilSize.2.2.2.2 rfl rfl (Nat.le_of_ble_eq_true rfl)  ?_
  show py_Go X RX8 cX8_pencilSize 4 1 0 [some (.ref 47), some (.int (nI p)), none, none] [] σ (py_vs (some (.int ((nI (H (14 + 4 * p))) - (nI 100)))) (fun s => s = py_trm σ t [13, 10]))
  refine go_aload_n (pc := 0) dX8_pencilSize_0 rfl ?_
  refine go_iload_n (pc := 1) dX8_pencilSize_1 rfl ?_
  refine go_cV (pc := 2) dX8_pencilSize_2 (ev_kindIn hG hp) lX8_216 YX8_kindIn VX8_kindIn rfl rfl rfl (by decide) rfl (Nat.le_of_ble_eq_true rfl) ?_
  refine go_top (y := nI 4) (by rw [hk]) ?_
  refine go_iconst (v := nI 5) (pc := 5) dX8_pencilSize_5 (by decide) ?_
  refine go_icmp_neN (tgt := 13) (pc := 6) dX8_pencilSize_6 (by omega) (by omega) (by decide) (fun c_6 => ?_) (fun c_6 => ?_)
  · refine go_iconst (v := nI 0) (pc := 13) dX8_pencilSize_13 (by decide) ?_
    refine go_istore_n (pc := 14) dX8_pencilSize_14 (by decide) rfl ?_
    refine go_iload_n (pc := 15) dX8_pencilSize_15 rfl ?_
    refine go_if_eqN (tgt := 25) (pc := 16) dX8_pencilSize_16 (by omega) (by decide) (fun c_16 => ?_) (fun c_16 => ?_)
    · refine go_aload_n (pc := 25) dX8_pencilSize_25 rfl ?_
      refine go_bipush (v := nI 13) (pc := 26) dX8_pencilSize_26 (by decide) ?_
      refine go_cVv (pc := 28) dX8_pencilSize_28 (ev_begins ht (by omega)) lX8_222 YX8_begins VX8_begins rfl rfl rfl (by decide) rfl (Nat.le_of_ble_eq_true rfl) (fun s1 e1 => ?_)
      have e1b : s1 = py_trm σ t [13] := e1
      subst e1b
      refine go_aload_n (pc := 31) dX8_pencilSize_31 rfl ?_
      refine go_bipush (v := nI 10) (pc := 32) dX8_pencilSize_32 (by decide) ?_
      refine go_cVv (pc := 34) dX8_pencilSize_34 (ev_begins (py_trm_n [13] σ t ht) (by simp; omega)) lX8_222 YX8_begins VX8_begins rfl rfl rfl (by decide) rfl (Nat.le_of_ble_eq_true rfl) (fun s2 e2 => ?_)
      have e2b : s2 = py_trm σ t [13, 10] := e2.trans (py_trm_app [13] [10] σ t)
      subst e2b
      refine go_aload_n (pc := 37) dX8_pencilSize_37 rfl ?_
      refine go_getR (pc := 38) dX8_pencilSize_38 fX8_25 rfl rfl ?_
      refine go_bipush (v := nI 13) (pc := 41) dX8_pencilSize_41 (by decide) ?_
      refine go_iconst (v := nI 4) (pc := 43) dX8_pencilSize_43 (by decide) ?_
      refine go_iload_n (pc := 44) dX8_pencilSize_44 rfl ?_
      refine go_imulN (pc := 45) dX8_pencilSize_45  ?_
      refine go_iaddN (pc := 46) dX8_pencilSize_46  ?_
      refine go_iconst (v := nI 1) (pc := 47) dX8_pencilSize_47 (by decide) ?_
      refine go_iaddN (pc := 48) dX8_pencilSize_48  ?_
      refine go_aldN (x := (nI (H (14 + 4 * p)))) (pc := 49) dX8_pencilSize_49 rfl (by show (13 + (4 * p)) + 1 < 33; omega) (py_hm_at (py_trm_hm (t := t) [13, 10] hG) (show (13 + (4 * p)) + 1 = 14 + 4 * p by omega) (by omega)) ?_
      refine go_bipush (v := nI 100) (pc := 50) dX8_pencilSize_50 (by decide) ?_
      refine go_isub (pc := 52) dX8_pencilSize_52  ?_
      refine go_istore_n (pc := 53) dX8_pencilSize_53 (by decide) rfl ?_
      refine go_iload_n (pc := 54) dX8_pencilSize_54 rfl ?_
      refine go_if_eqN (tgt := 64) (pc := 55) dX8_pencilSize_55 (by omega) (by decide) (fun c_55 => ?_) (fun c_55 => ?_)
      · refine go_iload_n (pc := 64) dX8_pencilSize_64 rfl ?_
        exact go_retI (pc := 65) dX8_pencilSize_65 rfl rfl
      · omega
    · omega
  · omega
set_option maxHeartbeats 4000000 in
set_option maxRecDepth 100000 in
theorem ev_pencilSize_5 {X : py_X} {σ : py_H} {H : Nat → Nat} (hG : py_hm (σ 53) 0 H) {p t : Nat} (hp : p < 5) (ht : σ 47 23 = nI t) (h10 : t + 3 ≤ 16) (hk : H (13 + 4 * p) = 5) : py_Ev X 1 yX8_pencilSize cX8_pencilSize 4 (some .int) [.ref 47, .int (nI p)] σ (py_vs (some (.int ((nI 2) * ((nI (H (14 + 4 * p))) - (nI 100))))) (fun s => s = py_trm σ t [14, 13, 10])) := by
  refine py_ofI (own := RX8) YX8_pencilSize.2.2.2.2 rfl rfl (Nat.le_of_ble_eq_true rfl)  ?_
  show py_Go X RX8 cX8_pencilSize 4 1 0 [some (.ref 47), some (.int (nI p)), none, none] [] σ (py_vs (some (.int ((nI 2) * ((nI (H (14 + 4 * p))) - (nI 100))))) (fun s => s = py_trm σ t [14, 13, 10]))
  refine go_aload_n (pc := 0) dX8_pencilSize_0 rfl ?_
  refine go_iload_n (pc := 1) dX8_pencilSize_1 rfl ?_
  refine go_cV (pc := 2) dX8_pencilSize_2 (ev_kindIn hG hp) lX8_216 YX8_kindIn VX8_kindIn rfl rfl rfl (by decide) rfl (Nat.le_of_ble_eq_true rfl) ?_
  refine go_top (y := nI 5) (by rw [hk]) ?_
  refine go_iconst (v := nI 5) (pc := 5) dX8_pencilSize_5 (by decide) ?_
  refine go_icmp_neN (tgt := 13) (pc := 6) dX8_pencilSize_6 (by omega) (by omega) (by decide) (fun c_6 => ?_) (fun c_6 => ?_)
  · omega
  · refine go_iconst (v := nI 1) (pc := 9) dX8_pencilSize_9 (by decide) ?_
    refine go_goto (tgt := 14) (pc := 10) dX8_pencilSize_10 (by decide) ?_
    refine go_istore_n (pc := 14) dX8_pencilSize_14 (by decide) rfl ?_
    refine go_iload_n (pc := 15) dX8_pencilSize_15 rfl ?_
    refine go_if_eqN (tgt := 25) (pc := 16) dX8_pencilSize_16 (by omega) (by decide) (fun c_16 => ?_) (fun c_16 => ?_)
    · omega
    · refine go_aload_n (pc := 19) dX8_pencilSize_19 rfl ?_
      refine go_bipush (v := nI 14) (pc := 20) dX8_pencilSize_20 (by decide) ?_
      refine go_cVv (pc := 22) dX8_pencilSize_22 (ev_begins ht (by omega)) lX8_222 YX8_begins VX8_begins rfl rfl rfl (by decide) rfl (Nat.le_of_ble_eq_true rfl) (fun s1 e1 => ?_)
      have e1b : s1 = py_trm σ t [14] := e1
      subst e1b
      refine go_aload_n (pc := 25) dX8_pencilSize_25 rfl ?_
      refine go_bipush (v := nI 13) (pc := 26) dX8_pencilSize_26 (by decide) ?_
      refine go_cVv (pc := 28) dX8_pencilSize_28 (ev_begins (py_trm_n [14] σ t ht) (by simp; omega)) lX8_222 YX8_begins VX8_begins rfl rfl rfl (by decide) rfl (Nat.le_of_ble_eq_true rfl) (fun s2 e2 => ?_)
      have e2b : s2 = py_trm σ t [14, 13] := e2.trans (py_trm_app [14] [13] σ t)
      subst e2b
      refine go_aload_n (pc := 31) dX8_pencilSize_31 rfl ?_
      refine go_bipush (v := nI 10) (pc := 32) dX8_pencilSize_32 (by decide) ?_
      refine go_cVv (pc := 34) dX8_pencilSize_34 (ev_begins (py_trm_n [14, 13] σ t ht) (by simp; omega)) lX8_222 YX8_begins VX8_begins rfl rfl rfl (by decide) rfl (Nat.le_of_ble_eq_true rfl) (fun s3 e3 => ?_)
      have e3b : s3 = py_trm σ t [14, 13, 10] := e3.trans (py_trm_app [14, 13] [10] σ t)
      subst e3b
      refine go_aload_n (pc := 37) dX8_pencilSize_37 rfl ?_
      refine go_getR (pc := 38) dX8_pencilSize_38 fX8_25 rfl rfl ?_
      refine go_bipush (v := nI 13) (pc := 41) dX8_pencilSize_41 (by decide) ?_
      refine go_iconst (v := nI 4) (pc := 43) dX8_pencilSize_43 (by decide) ?_
      refine go_iload_n (pc := 44) dX8_pencilSize_44 rfl ?_
      refine go_imulN (pc := 45) dX8_pencilSize_45  ?_
      refine go_iaddN (pc := 46) dX8_pencilSize_46  ?_
      refine go_iconst (v := nI 1) (pc := 47) dX8_pencilSize_47 (by decide) ?_
      refine go_iaddN (pc := 48) dX8_pencilSize_48  ?_
      refine go_aldN (x := (nI (H (14 + 4 * p)))) (pc := 49) dX8_pencilSize_49 rfl (by show (13 + (4 * p)) + 1 < 33; omega) (py_hm_at (py_trm_hm (t := t) [14, 13, 10] hG) (show (13 + (4 * p)) + 1 = 14 + 4 * p by omega) (by omega)) ?_
      refine go_bipush (v := nI 100) (pc := 50) dX8_pencilSize_50 (by decide) ?_
      refine go_isub (pc := 52) dX8_pencilSize_52  ?_
      refine go_istore_n (pc := 53) dX8_pencilSize_53 (by decide) rfl ?_
      refine go_iload_n (pc := 54) dX8_pencilSize_54 rfl ?_
      refine go_if_eqN (tgt := 64) (pc := 55) dX8_pencilSize_55 (by omega) (by decide) (fun c_55 => ?_) (fun c_55 => ?_)
      · omega
      · refine go_iconst (v := nI 2) (pc := 58) dX8_pencilSize_58 (by decide) ?_
        refine go_iload_n (pc := 59) dX8_pencilSize_59 rfl ?_
        refine go_imul (pc := 60) dX8_pencilSize_60  ?_
        refine go_goto (tgt := 65) (pc := 61) dX8_pencilSize_61 (by decide) ?_
        exact go_retI (pc := 65) dX8_pencilSize_65 rfl rfl
set_option maxHeartbeats 4000000 in
set_option maxRecDepth 100000 in
theorem ev_oilSize_1 {X : py_X} {σ : py_H} {H : Nat → Nat} (hG : py_hm (σ 53) 0 H) {p t : Nat} (hp : p < 5) (ht : σ 47 23 = nI t) (h10 : t + 4 ≤ 16) (hk : H (13 + 4 * p) = 1) : py_Ev X 2 yX8_oilSize cX8_oilSize 4 (some .int) [.ref 47, .int (nI p)] σ (py_vs (some (.int (nI ((H (14 + 4 * p)) + (p + (H (15 + 4 * p))))))) (fun s => s = py_trm σ t [11, 10, 21, 20])) := by
  refine py_ofI (own := RX8) YX8_oilSize.2.2.2.2 rfl rfl (Nat.le_of_ble_eq_true rfl)  ?_
  show py_Go X RX8 cX8_oilSize 4 2 0 [some (.ref 47), some (.int (nI p)), none, none] [] σ (py_vs (some (.int (nI ((H (14 + 4 * p)) + (p + (H (15 + 4 * p))))))) (fun s => s = py_trm σ t [11, 10, 21, 20]))
  refine go_aload_n (pc := 0) dX8_oilSize_0 rfl ?_
  refine go_iload_n (pc := 1) dX8_oilSize_1 rfl ?_
  refine go_cV (pc := 2) dX8_oilSize_2 (ev_kindIn hG hp) lX8_216 YX8_kindIn VX8_kindIn rfl rfl rfl (by decide) rfl (Nat.le_of_ble_eq_true rfl) ?_
  refine go_top (y := nI 1) (by rw [hk]) ?_
  refine go_iconst (v := nI 2) (pc := 5) dX8_oilSize_5 (by decide) ?_
  refine go_icmp_neN (tgt := 13) (pc := 6) dX8_oilSize_6 (by omega) (by omega) (by decide) (fun c_6 => ?_) (fun c_6 => ?_)
  · refine go_iconst (v := nI 0) (pc := 13) dX8_oilSize_13 (by decide) ?_
    refine go_istore_n (pc := 14) dX8_oilSize_14 (by decide) rfl ?_
    refine go_iload_n (pc := 15) dX8_oilSize_15 rfl ?_
    refine go_if_eqN (tgt := 25) (pc := 16) dX8_oilSize_16 (by omega) (by decide) (fun c_16 => ?_) (fun c_16 => ?_)
    · refine go_aload_n (pc := 25) dX8_oilSize_25 rfl ?_
      refine go_bipush (v := nI 11) (pc := 26) dX8_oilSize_26 (by decide) ?_
      refine go_cVv (pc := 28) dX8_oilSize_28 (ev_begins ht (by omega)) lX8_222 YX8_begins VX8_begins rfl rfl rfl (by decide) rfl (Nat.le_of_ble_eq_true rfl) (fun s1 e1 => ?_)
      have e1b : s1 = py_trm σ t [11] := e1
      subst e1b
      refine go_aload_n (pc := 31) dX8_oilSize_31 rfl ?_
      refine go_bipush (v := nI 10) (pc := 32) dX8_oilSize_32 (by decide) ?_
      refine go_cVv (pc := 34) dX8_oilSize_34 (ev_begins (py_trm_n [11] σ t ht) (by simp; omega)) lX8_222 YX8_begins VX8_begins rfl rfl rfl (by decide) rfl (Nat.le_of_ble_eq_true rfl) (fun s2 e2 => ?_)
      have e2b : s2 = py_trm σ t [11, 10] := e2.trans (py_trm_app [11] [10] σ t)
      subst e2b
      refine go_aload_n (pc := 37) dX8_oilSize_37 rfl ?_
      refine go_getR (pc := 38) dX8_oilSize_38 fX8_25 rfl rfl ?_
      refine go_bipush (v := nI 13) (pc := 41) dX8_oilSize_41 (by decide) ?_
      refine go_iconst (v := nI 4) (pc := 43) dX8_oilSize_43 (by decide) ?_
      refine go_iload_n (pc := 44) dX8_oilSize_44 rfl ?_
      refine go_imulN (pc := 45) dX8_oilSize_45  ?_
      refine go_iaddN (pc := 46) dX8_oilSize_46  ?_
      refine go_iconst (v := nI 1) (pc := 47) dX8_oilSize_47 (by decide) ?_
      refine go_iaddN (pc := 48) dX8_oilSize_48  ?_
      refine go_aldN (x := (nI (H (14 + 4 * p)))) (pc := 49) dX8_oilSize_49 rfl (by show (13 + (4 * p)) + 1 < 33; omega) (py_hm_at (py_trm_hm (t := t) [11, 10] hG) (show (13 + (4 * p)) + 1 = 14 + 4 * p by omega) (by omega)) ?_
      refine go_aload_n (pc := 50) dX8_oilSize_50 rfl ?_
      refine go_iload_n (pc := 51) dX8_oilSize_51 rfl ?_
      refine go_cVi (pc := 52) dX8_oilSize_52 (ev_oilMark_1 (py_trm_hm (t := t) [11, 10] hG) hp (py_trm_n [11, 10] σ t ht) (by simp; omega) hk) lX8_225 YX8_oilMark VX8_oilMark rfl rfl rfl (by decide) rfl (Nat.le_of_ble_eq_true rfl) (fun s3 e3 => ?_)
      have e3b : s3 = py_trm σ t [11, 10, 21, 20] := e3.trans (py_trm_app [11, 10] [21, 20] σ t)
      subst e3b
      refine go_iaddN (pc := 55) dX8_oilSize_55  ?_
      refine go_istore_n (pc := 56) dX8_oilSize_56 (by decide) rfl ?_
      refine go_iload_n (pc := 57) dX8_oilSize_57 rfl ?_
      refine go_if_eqN (tgt := 66) (pc := 58) dX8_oilSize_58 (by omega) (by decide) (fun c_58 => ?_) (fun c_58 => ?_)
      · refine go_iload_n (pc := 66) dX8_oilSize_66 rfl ?_
        exact go_retI (pc := 67) dX8_oilSize_67 rfl rfl
      · omega
    · omega
  · omega
set_option maxHeartbeats 4000000 in
set_option maxRecDepth 100000 in
theorem ev_oilSize_2 {X : py_X} {σ : py_H} {H : Nat → Nat} (hG : py_hm (σ 53) 0 H) {p t : Nat} (hp : p < 5) (ht : σ 47 23 = nI t) (h10 : t + 6 ≤ 16) (hk : H (13 + 4 * p) = 2) : py_Ev X 2 yX8_oilSize cX8_oilSize 4 (some .int) [.ref 47, .int (nI p)] σ (py_vs (some (.int (nI 0 - nI ((H (14 + 4 * p)) + (2 * (p + (H (15 + 4 * p)))))))) (fun s => s = py_trm σ t [12, 11, 10, 24, 21, 20])) := by
  refine py_ofI (own := RX8) YX8_oilSize.2.2.2.2 rfl rfl (Nat.le_of_ble_eq_true rfl)  ?_
  show py_Go X RX8 cX8_oilSize 4 2 0 [some (.ref 47), some (.int (nI p)), none, none] [] σ (py_vs (some (.int (nI 0 - nI ((H (14 + 4 * p)) + (2 * (p + (H (15 + 4 * p)))))))) (fun s => s = py_trm σ t [12, 11, 10, 24, 21, 20]))
  refine go_aload_n (pc := 0) dX8_oilSize_0 rfl ?_
  refine go_iload_n (pc := 1) dX8_oilSize_1 rfl ?_
  refine go_cV (pc := 2) dX8_oilSize_2 (ev_kindIn hG hp) lX8_216 YX8_kindIn VX8_kindIn rfl rfl rfl (by decide) rfl (Nat.le_of_ble_eq_true rfl) ?_
  refine go_top (y := nI 2) (by rw [hk]) ?_
  refine go_iconst (v := nI 2) (pc := 5) dX8_oilSize_5 (by decide) ?_
  refine go_icmp_neN (tgt := 13) (pc := 6) dX8_oilSize_6 (by omega) (by omega) (by decide) (fun c_6 => ?_) (fun c_6 => ?_)
  · omega
  · refine go_iconst (v := nI 1) (pc := 9) dX8_oilSize_9 (by decide) ?_
    refine go_goto (tgt := 14) (pc := 10) dX8_oilSize_10 (by decide) ?_
    refine go_istore_n (pc := 14) dX8_oilSize_14 (by decide) rfl ?_
    refine go_iload_n (pc := 15) dX8_oilSize_15 rfl ?_
    refine go_if_eqN (tgt := 25) (pc := 16) dX8_oilSize_16 (by omega) (by decide) (fun c_16 => ?_) (fun c_16 => ?_)
    · omega
    · refine go_aload_n (pc := 19) dX8_oilSize_19 rfl ?_
      refine go_bipush (v := nI 12) (pc := 20) dX8_oilSize_20 (by decide) ?_
      refine go_cVv (pc := 22) dX8_oilSize_22 (ev_begins ht (by omega)) lX8_222 YX8_begins VX8_begins rfl rfl rfl (by decide) rfl (Nat.le_of_ble_eq_true rfl) (fun s1 e1 => ?_)
      have e1b : s1 = py_trm σ t [12] := e1
      subst e1b
      refine go_aload_n (pc := 25) dX8_oilSize_25 rfl ?_
      refine go_bipush (v := nI 11) (pc := 26) dX8_oilSize_26 (by decide) ?_
      refine go_cVv (pc := 28) dX8_oilSize_28 (ev_begins (py_trm_n [12] σ t ht) (by simp; omega)) lX8_222 YX8_begins VX8_begins rfl rfl rfl (by decide) rfl (Nat.le_of_ble_eq_true rfl) (fun s2 e2 => ?_)
      have e2b : s2 = py_trm σ t [12, 11] := e2.trans (py_trm_app [12] [11] σ t)
      subst e2b
      refine go_aload_n (pc := 31) dX8_oilSize_31 rfl ?_
      refine go_bipush (v := nI 10) (pc := 32) dX8_oilSize_32 (by decide) ?_
      refine go_cVv (pc := 34) dX8_oilSize_34 (ev_begins (py_trm_n [12, 11] σ t ht) (by simp; omega)) lX8_222 YX8_begins VX8_begins rfl rfl rfl (by decide) rfl (Nat.le_of_ble_eq_true rfl) (fun s3 e3 => ?_)
      have e3b : s3 = py_trm σ t [12, 11, 10] := e3.trans (py_trm_app [12, 11] [10] σ t)
      subst e3b
      refine go_aload_n (pc := 37) dX8_oilSize_37 rfl ?_
      refine go_getR (pc := 38) dX8_oilSize_38 fX8_25 rfl rfl ?_
      refine go_bipush (v := nI 13) (pc := 41) dX8_oilSize_41 (by decide) ?_
      refine go_iconst (v := nI 4) (pc := 43) dX8_oilSize_43 (by decide) ?_
      refine go_iload_n (pc := 44) dX8_oilSize_44 rfl ?_
      refine go_imulN (pc := 45) dX8_oilSize_45  ?_
      refine go_iaddN (pc := 46) dX8_oilSize_46  ?_
      refine go_iconst (v := nI 1) (pc := 47) dX8_oilSize_47 (by decide) ?_
      refine go_iaddN (pc := 48) dX8_oilSize_48  ?_
      refine go_aldN (x := (nI (H (14 + 4 * p)))) (pc := 49) dX8_oilSize_49 rfl (by show (13 + (4 * p)) + 1 < 33; omega) (py_hm_at (py_trm_hm (t := t) [12, 11, 10] hG) (show (13 + (4 * p)) + 1 = 14 + 4 * p by omega) (by omega)) ?_
      refine go_aload_n (pc := 50) dX8_oilSize_50 rfl ?_
      refine go_iload_n (pc := 51) dX8_oilSize_51 rfl ?_
      refine go_cVi (pc := 52) dX8_oilSize_52 (ev_oilMark_2 (py_trm_hm (t := t) [12, 11, 10] hG) hp (py_trm_n [12, 11, 10] σ t ht) (by simp; omega) hk) lX8_225 YX8_oilMark VX8_oilMark rfl rfl rfl (by decide) rfl (Nat.le_of_ble_eq_true rfl) (fun s4 e4 => ?_)
      have e4b : s4 = py_trm σ t [12, 11, 10, 24, 21, 20] := e4.trans (py_trm_app [12, 11, 10] [24, 21, 20] σ t)
      subst e4b
      refine go_iaddN (pc := 55) dX8_oilSize_55  ?_
      refine go_istore_n (pc := 56) dX8_oilSize_56 (by decide) rfl ?_
      refine go_iload_n (pc := 57) dX8_oilSize_57 rfl ?_
      refine go_if_eqN (tgt := 66) (pc := 58) dX8_oilSize_58 (by omega) (by decide) (fun c_58 => ?_) (fun c_58 => ?_)
      · omega
      · refine go_iload_n (pc := 61) dX8_oilSize_61 rfl ?_
        refine go_ineg (pc := 62) dX8_oilSize_62 ?_
        refine go_goto (tgt := 67) (pc := 63) dX8_oilSize_63 (by decide) ?_
        exact go_retI (pc := 67) dX8_oilSize_67 (py_neg0 _) rfl
set_option maxHeartbeats 4000000 in
set_option maxRecDepth 100000 in
theorem ev_oilSize_3 {X : py_X} {σ : py_H} {H : Nat → Nat} (hG : py_hm (σ 53) 0 H) {p t : Nat} (hp : p < 5) (ht : σ 47 23 = nI t) (h10 : t + 5 ≤ 16) (hk : H (13 + 4 * p) = 3) : py_Ev X 2 yX8_oilSize cX8_oilSize 4 (some .int) [.ref 47, .int (nI p)] σ (py_vs (some (.int ((nI (H (14 + 4 * p))) + ((nI (p + (H (15 + 4 * p)))) - (nI 1000))))) (fun s => s = py_trm σ t [11, 10, 22, 21, 20])) := by
  refine py_ofI (own := RX8) YX8_oilSize.2.2.2.2 rfl rfl (Nat.le_of_ble_eq_true rfl)  ?_
  show py_Go X RX8 cX8_oilSize 4 2 0 [some (.ref 47), some (.int (nI p)), none, none] [] σ (py_vs (some (.int ((nI (H (14 + 4 * p))) + ((nI (p + (H (15 + 4 * p)))) - (nI 1000))))) (fun s => s = py_trm σ t [11, 10, 22, 21, 20]))
  refine go_aload_n (pc := 0) dX8_oilSize_0 rfl ?_
  refine go_iload_n (pc := 1) dX8_oilSize_1 rfl ?_
  refine go_cV (pc := 2) dX8_oilSize_2 (ev_kindIn hG hp) lX8_216 YX8_kindIn VX8_kindIn rfl rfl rfl (by decide) rfl (Nat.le_of_ble_eq_true rfl) ?_
  refine go_top (y := nI 3) (by rw [hk]) ?_
  refine go_iconst (v := nI 2) (pc := 5) dX8_oilSize_5 (by decide) ?_
  refine go_icmp_neN (tgt := 13) (pc := 6) dX8_oilSize_6 (by omega) (by omega) (by decide) (fun c_6 => ?_) (fun c_6 => ?_)
  · refine go_iconst (v := nI 0) (pc := 13) dX8_oilSize_13 (by decide) ?_
    refine go_istore_n (pc := 14) dX8_oilSize_14 (by decide) rfl ?_
    refine go_iload_n (pc := 15) dX8_oilSize_15 rfl ?_
    refine go_if_eqN (tgt := 25) (pc := 16) dX8_oilSize_16 (by omega) (by decide) (fun c_16 => ?_) (fun c_16 => ?_)
    · refine go_aload_n (pc := 25) dX8_oilSize_25 rfl ?_
      refine go_bipush (v := nI 11) (pc := 26) dX8_oilSize_26 (by decide) ?_
      refine go_cVv (pc := 28) dX8_oilSize_28 (ev_begins ht (by omega)) lX8_222 YX8_begins VX8_begins rfl rfl rfl (by decide) rfl (Nat.le_of_ble_eq_true rfl) (fun s1 e1 => ?_)
      have e1b : s1 = py_trm σ t [11] := e1
      subst e1b
      refine go_aload_n (pc := 31) dX8_oilSize_31 rfl ?_
      refine go_bipush (v := nI 10) (pc := 32) dX8_oilSize_32 (by decide) ?_
      refine go_cVv (pc := 34) dX8_oilSize_34 (ev_begins (py_trm_n [11] σ t ht) (by simp; omega)) lX8_222 YX8_begins VX8_begins rfl rfl rfl (by decide) rfl (Nat.le_of_ble_eq_true rfl) (fun s2 e2 => ?_)
      have e2b : s2 = py_trm σ t [11, 10] := e2.trans (py_trm_app [11] [10] σ t)
      subst e2b
      refine go_aload_n (pc := 37) dX8_oilSize_37 rfl ?_
      refine go_getR (pc := 38) dX8_oilSize_38 fX8_25 rfl rfl ?_
      refine go_bipush (v := nI 13) (pc := 41) dX8_oilSize_41 (by decide) ?_
      refine go_iconst (v := nI 4) (pc := 43) dX8_oilSize_43 (by decide) ?_
      refine go_iload_n (pc := 44) dX8_oilSize_44 rfl ?_
      refine go_imulN (pc := 45) dX8_oilSize_45  ?_
      refine go_iaddN (pc := 46) dX8_oilSize_46  ?_
      refine go_iconst (v := nI 1) (pc := 47) dX8_oilSize_47 (by decide) ?_
      refine go_iaddN (pc := 48) dX8_oilSize_48  ?_
      refine go_aldN (x := (nI (H (14 + 4 * p)))) (pc := 49) dX8_oilSize_49 rfl (by show (13 + (4 * p)) + 1 < 33; omega) (py_hm_at (py_trm_hm (t := t) [11, 10] hG) (show (13 + (4 * p)) + 1 = 14 + 4 * p by omega) (by omega)) ?_
      refine go_aload_n (pc := 50) dX8_oilSize_50 rfl ?_
      refine go_iload_n (pc := 51) dX8_oilSize_51 rfl ?_
      refine go_cVi (pc := 52) dX8_oilSize_52 (ev_oilMark_3 (py_trm_hm (t := t) [11, 10] hG) hp (py_trm_n [11, 10] σ t ht) (by simp; omega) hk) lX8_225 YX8_oilMark VX8_oilMark rfl rfl rfl (by decide) rfl (Nat.le_of_ble_eq_true rfl) (fun s3 e3 => ?_)
      have e3b : s3 = py_trm σ t [11, 10, 22, 21, 20] := e3.trans (py_trm_app [11, 10] [22, 21, 20] σ t)
      subst e3b
      refine go_iadd (pc := 55) dX8_oilSize_55  ?_
      refine go_istore_n (pc := 56) dX8_oilSize_56 (by decide) rfl ?_
      refine go_iload_n (pc := 57) dX8_oilSize_57 rfl ?_
      refine go_if_eqN (tgt := 66) (pc := 58) dX8_oilSize_58 (by omega) (by decide) (fun c_58 => ?_) (fun c_58 => ?_)
      · refine go_iload_n (pc := 66) dX8_oilSize_66 rfl ?_
        exact go_retI (pc := 67) dX8_oilSize_67 rfl rfl
      · omega
    · omega
  · omega
set_option maxHeartbeats 4000000 in
set_option maxRecDepth 100000 in
theorem ev_pencilMark_4 {X : py_X} {σ : py_H} {H : Nat → Nat} (hG : py_hm (σ 53) 0 H) {p t : Nat} (hp : p < 5) (ht : σ 47 23 = nI t) (h10 : t + 4 ≤ 16) (hk : H (13 + 4 * p) = 4) : py_Ev X 2 yX8_pencilMark cX8_pencilMark 2 (some .int) [.ref 47, .int (nI p)] σ (py_vs (some (.int ((nI p) - ((nI (H (14 + 4 * p))) - (nI 100))))) (fun s => s = py_trm σ t [23, 20, 13, 10])) := by
  refine py_ofI (own := RX8) YX8_pencilMark.2.2.2.2 rfl rfl (Nat.le_of_ble_eq_true rfl)  ?_
  show py_Go X RX8 cX8_pencilMark 2 2 0 [some (.ref 47), some (.int (nI p))] [] σ (py_vs (some (.int ((nI p) - ((nI (H (14 + 4 * p))) - (nI 100))))) (fun s => s = py_trm σ t [23, 20, 13, 10]))
  refine go_aload_n (pc := 0) dX8_pencilMark_0 rfl ?_
  refine go_bipush (v := nI 23) (pc := 1) dX8_pencilMark_1 (by decide) ?_
  refine go_cVv (pc := 3) dX8_pencilMark_3 (ev_begins ht (by omega)) lX8_222 YX8_begins VX8_begins rfl rfl rfl (by decide) rfl (Nat.le_of_ble_eq_true rfl) (fun s1 e1 => ?_)
  have e1b : s1 = py_trm σ t [23] := e1
  subst e1b
  refine go_aload_n (pc := 6) dX8_pencilMark_6 rfl ?_
  refine go_bipush (v := nI 20) (pc := 7) dX8_pencilMark_7 (by decide) ?_
  refine go_cVv (pc := 9) dX8_pencilMark_9 (ev_begins (py_trm_n [23] σ t ht) (by simp; omega)) lX8_222 YX8_begins VX8_begins rfl rfl rfl (by decide) rfl (Nat.le_of_ble_eq_true rfl) (fun s2 e2 => ?_)
  have e2b : s2 = py_trm σ t [23, 20] := e2.trans (py_trm_app [23] [20] σ t)
  subst e2b
  refine go_iload_n (pc := 12) dX8_pencilMark_12 rfl ?_
  refine go_aload_n (pc := 13) dX8_pencilMark_13 rfl ?_
  refine go_iload_n (pc := 14) dX8_pencilMark_14 rfl ?_
  refine go_cVi (pc := 15) dX8_pencilMark_15 (ev_pencilSize_4 (py_trm_hm (t := t) [23, 20] hG) hp (py_trm_n [23, 20] σ t ht) (by simp; omega) hk) lX8_228 YX8_pencilSize VX8_pencilSize rfl rfl rfl (by decide) rfl (Nat.le_of_ble_eq_true rfl) (fun s3 e3 => ?_)
  have e3b : s3 = py_trm σ t [23, 20, 13, 10] := e3.trans (py_trm_app [23, 20] [13, 10] σ t)
  subst e3b
  refine go_isub (pc := 18) dX8_pencilMark_18  ?_
  exact go_retI (pc := 19) dX8_pencilMark_19 rfl rfl
set_option maxHeartbeats 4000000 in
set_option maxRecDepth 100000 in
theorem ev_pencilMark_5 {X : py_X} {σ : py_H} {H : Nat → Nat} (hG : py_hm (σ 53) 0 H) {p t : Nat} (hp : p < 5) (ht : σ 47 23 = nI t) (h10 : t + 5 ≤ 16) (hk : H (13 + 4 * p) = 5) : py_Ev X 2 yX8_pencilMark cX8_pencilMark 2 (some .int) [.ref 47, .int (nI p)] σ (py_vs (some (.int ((nI p) - ((nI 2) * ((nI (H (14 + 4 * p))) - (nI 100)))))) (fun s => s = py_trm σ t [23, 20, 14, 13, 10])) := by
  refine py_ofI (own := RX8) YX8_pencilMark.2.2.2.2 rfl rfl (Nat.le_of_ble_eq_true rfl)  ?_
  show py_Go X RX8 cX8_pencilMark 2 2 0 [some (.ref 47), some (.int (nI p))] [] σ (py_vs (some (.int ((nI p) - ((nI 2) * ((nI (H (14 + 4 * p))) - (nI 100)))))) (fun s => s = py_trm σ t [23, 20, 14, 13, 10]))
  refine go_aload_n (pc := 0) dX8_pencilMark_0 rfl ?_
  refine go_bipush (v := nI 23) (pc := 1) dX8_pencilMark_1 (by decide) ?_
  refine go_cVv (pc := 3) dX8_pencilMark_3 (ev_begins ht (by omega)) lX8_222 YX8_begins VX8_begins rfl rfl rfl (by decide) rfl (Nat.le_of_ble_eq_true rfl) (fun s1 e1 => ?_)
  have e1b : s1 = py_trm σ t [23] := e1
  subst e1b
  refine go_aload_n (pc := 6) dX8_pencilMark_6 rfl ?_
  refine go_bipush (v := nI 20) (pc := 7) dX8_pencilMark_7 (by decide) ?_
  refine go_cVv (pc := 9) dX8_pencilMark_9 (ev_begins (py_trm_n [23] σ t ht) (by simp; omega)) lX8_222 YX8_begins VX8_begins rfl rfl rfl (by decide) rfl (Nat.le_of_ble_eq_true rfl) (fun s2 e2 => ?_)
  have e2b : s2 = py_trm σ t [23, 20] := e2.trans (py_trm_app [23] [20] σ t)
  subst e2b
  refine go_iload_n (pc := 12) dX8_pencilMark_12 rfl ?_
  refine go_aload_n (pc := 13) dX8_pencilMark_13 rfl ?_
  refine go_iload_n (pc := 14) dX8_pencilMark_14 rfl ?_
  refine go_cVi (pc := 15) dX8_pencilMark_15 (ev_pencilSize_5 (py_trm_hm (t := t) [23, 20] hG) hp (py_trm_n [23, 20] σ t ht) (by simp; omega) hk) lX8_228 YX8_pencilSize VX8_pencilSize rfl rfl rfl (by decide) rfl (Nat.le_of_ble_eq_true rfl) (fun s3 e3 => ?_)
  have e3b : s3 = py_trm σ t [23, 20, 14, 13, 10] := e3.trans (py_trm_app [23, 20] [14, 13, 10] σ t)
  subst e3b
  refine go_isub (pc := 18) dX8_pencilMark_18  ?_
  exact go_retI (pc := 19) dX8_pencilMark_19 rfl rfl
set_option maxHeartbeats 4000000 in
set_option maxRecDepth 100000 in
theorem mo_ask {X : py_X} {σ : py_H} {R : py_Rt} {q : Int32} {B : Nat → Nat} {N : Nat} {ft : Int32} {H : Nat → Nat} {n : Nat} {As : Nat → Nat → Nat} {I0 I1 : Option (Nat → Nat)} {t : Nat} {tr : Nat → Int32} (hI : py_IM σ R q B N ft H n As I0 I1 t tr) (hW : py_IW H n As I0 I1 t) {x y : Int32} : py_Ev X 3 yX8_ask cX8_ask 4 (some .int) [.ref 47, .int (x), .int (y)] σ (py_vs (some (.int (an_ask H x y))) (fun s => py_IM s R q B N ft H n As I0 I1 (nt_ask t H x y) (nu_ask tr H x y) ∧ py_fr py_SM [] σ s)) := by
  obtain ⟨h1, h2, h3, h4, h5, h6, h7, h8, h9⟩ := id hI
  obtain ⟨hw, hA, hJ0, hJ1, ht16⟩ := id hW
  obtain ⟨w0, w1, w2, w3, w12, w03, w00, wW, wP, wR⟩ := id hw
  have hm := py_wm_of hw
  refine py_ofI (own := RX8) YX8_ask.2.2.2.2 rfl rfl (Nat.le_of_ble_eq_true rfl)  ?_
  show py_Go X RX8 cX8_ask 4 3 0 [some (.ref 47), some (.int (x)), some (.int (y)), none] [] σ (py_vs (some (.int (an_ask H x y))) (fun s => py_IM s R q B N ft H n As I0 I1 (nt_ask t H x y) (nu_ask tr H x y) ∧ py_fr py_SM [] σ s))
  refine go_aload_n (pc := 0) dX8_ask_0 rfl ?_
  refine go_iload_n (pc := 1) dX8_ask_1 rfl ?_
  refine go_cV (pc := 2) dX8_ask_2 (ev_isPicture h5 w12) lX8_177 YX8_isPicture VX8_isPicture rfl rfl rfl (by decide) rfl (Nat.le_of_ble_eq_true rfl) ?_
  refine go_if_eqB (tgt := 17) (pc := 5) dX8_ask_5 (by decide) (fun c_5 => ?_) (fun c_5 => ?_)
  · refine go_ldc (pc := 17) dX8_ask_17 kX8_67 ?_
    have e1 : nt_ask t H ((x)) ((y)) = t := by unfold nt_ask; rw [if_neg (by omega)]
    have e2 : nu_ask tr H ((x)) ((y)) = tr := by unfold nu_ask; rw [if_neg (by omega)]
    exact go_retI (pc := 19) dX8_ask_19 (by unfold an_ask; (repeat' split) <;> first | rfl | omega) ⟨by rw [e1, e2]; exact hI, py_fr.rf _ _ σ⟩
  · obtain ⟨p, rfl, hp, hpI, hpC⟩ := py_pi_of (x := x) c_5
    refine go_iload_n (pc := 8) dX8_ask_8 rfl ?_
    refine go_iconst (v := nI 0) (pc := 9) dX8_ask_9 (by decide) ?_
    refine go_iconst (v := nI 1) (pc := 10) dX8_ask_10 (by decide) ?_
    refine go_cS (pc := 11) dX8_ask_11 ev_inN lX8_59 YX8_in SX8_in rfl (by decide) rfl (Nat.le_of_ble_eq_true rfl) ?_
    refine go_if_neB (tgt := 20) (pc := 14) dX8_ask_14 (by decide) (fun c_14 => ?_) (fun c_14 => ?_)
    · obtain ⟨k, rfl, hk0, hk, hkI, hkC⟩ := py_rg_of (x := y) (a := 0) (b := 1) c_14
      have hK5 := wP p hp
      rcases (show (H (13 + 4 * p) = 1 ∨ H (13 + 4 * p) = 2 ∨ H (13 + 4 * p) = 3 ∨ H (13 + 4 * p) = 4 ∨ H (13 + 4 * p) = 5) ∧ (k = 0 ∨ k = 1) by omega) with ⟨hk9 | hk9 | hk9 | hk9 | hk9, hy9 | hy9⟩
      · subst hy9
        refine go_aload_n (pc := 20) dX8_ask_20 rfl ?_
        refine go_iconst (v := nI 0) (pc := 21) dX8_ask_21 (by decide) ?_
        refine go_putI (pc := 22) dX8_ask_22 fX8_219 rfl rfl ?_
        refine go_aload_n (pc := 25) dX8_ask_25 rfl ?_
        refine go_iload_n (pc := 26) dX8_ask_26 rfl ?_
        refine go_cV (pc := 27) dX8_ask_27 (ev_kindIn (show py_hm ((py_up σ 47 23 (nI 0)) 53) 0 H by rw [py_up_k _ _ _ (by decide)]; exact h5) (by omega)) lX8_216 YX8_kindIn VX8_kindIn rfl rfl rfl (by decide) rfl (Nat.le_of_ble_eq_true rfl) ?_
        refine go_top (y := nI 1) (by rw [hk9]) ?_
        refine go_iconst (v := nI 4) (pc := 30) dX8_ask_30 (by decide) ?_
        refine go_icmp_ltN (tgt := 38) (pc := 31) dX8_ask_31 (by omega) (by omega) (by decide) (fun c_31 => ?_) (fun c_31 => ?_)
        · refine go_iconst (v := nI 0) (pc := 38) dX8_ask_38 (by decide) ?_
          refine go_istore_n (pc := 39) dX8_ask_39 (by decide) rfl ?_
          refine go_iload_n (pc := 40) dX8_ask_40 rfl ?_
          refine go_if_neN (tgt := 62) (pc := 41) dX8_ask_41 (by omega) (by decide) (fun c_41 => ?_) (fun c_41 => ?_)
          · omega
          · refine go_iload_n (pc := 44) dX8_ask_44 rfl ?_
            refine go_if_eqN (tgt := 56) (pc := 45) dX8_ask_45 (by omega) (by decide) (fun c_45 => ?_) (fun c_45 => ?_)
            · refine go_aload_n (pc := 56) dX8_ask_56 rfl ?_
              refine go_iload_n (pc := 57) dX8_ask_57 rfl ?_
              refine go_cVi (pc := 58) dX8_ask_58 (ev_oilSize_1 (t := 0) (show py_hm ((py_up σ 47 23 (nI 0)) 53) 0 H by rw [py_up_k _ _ _ (by decide)]; exact h5) (by omega) (py_up_s _ _ _ _) (by decide) hk9) lX8_231 YX8_oilSize VX8_oilSize rfl rfl rfl (by decide) rfl (Nat.le_of_ble_eq_true rfl) (fun s1 e1 => ?_)
              subst e1
              have ea : py_ak H (nI p) (nI 0) = ((nI ((H (14 + 4 * p)) + (p + (H (15 + 4 * p))))), [11, 10, 21, 20]) := by unfold py_ak; rw [hpC, if_pos (by omega)]; unfold py_sz; rw [hk9]; rfl
              have e1 : nt_ask t H (nI p) (nI 0) = 4 := by unfold nt_ask; rw [if_pos (by omega), ea]; rfl
              have e2 : nu_ask tr H (nI p) (nI 0) = (fun i => nI (([11, 10, 21, 20] : List Nat).getD i 0)) := by unfold nu_ask; rw [if_pos (by omega), ea]
              have hf : py_fr [61] [(47, 23)] σ (py_trm (py_up σ 47 23 (nI 0)) 0 [11, 10, 21, 20]) := ((py_fr.rf [61] [(47, 23)] σ).ut (by decide) _).tr (py_trm_fr [11, 10, 21, 20] _ 0) (by decide) (by decide)
              refine go_retI (pc := 61) dX8_ask_61 (by unfold an_ask; rw [if_pos (by omega), ea]) ⟨?_, hf.wd (by decide) (by decide)⟩
              rw [e1, e2]
              refine ⟨py_rk_fr hf (by decide) h1, (by rw [hf 47 4 (by decide) (by decide)]; exact h2), py_tm_fr hf (by decide) h3, (by rw [hf 47 7 (by decide) (by decide)]; exact h4), (by rw [hf.at 53 (by decide) (by decide)]; exact h5), py_am_fr hf (by decide) h6, py_ik_fr hf (by decide) h7, py_ik_fr hf (by decide) h8, ⟨py_trm_n [11, 10, 21, 20] (py_up σ 47 23 (nI 0)) 0 (py_up_s _ _ _ _), fun i hi => ?_⟩⟩
              rw [py_trm_at, if_pos (by simp; omega)]; rfl
            · omega
        · omega
      · subst hy9
        refine go_aload_n (pc := 20) dX8_ask_20 rfl ?_
        refine go_iconst (v := nI 0) (pc := 21) dX8_ask_21 (by decide) ?_
        refine go_putI (pc := 22) dX8_ask_22 fX8_219 rfl rfl ?_
        refine go_aload_n (pc := 25) dX8_ask_25 rfl ?_
        refine go_iload_n (pc := 26) dX8_ask_26 rfl ?_
        refine go_cV (pc := 27) dX8_ask_27 (ev_kindIn (show py_hm ((py_up σ 47 23 (nI 0)) 53) 0 H by rw [py_up_k _ _ _ (by decide)]; exact h5) (by omega)) lX8_216 YX8_kindIn VX8_kindIn rfl rfl rfl (by decide) rfl (Nat.le_of_ble_eq_true rfl) ?_
        refine go_top (y := nI 1) (by rw [hk9]) ?_
        refine go_iconst (v := nI 4) (pc := 30) dX8_ask_30 (by decide) ?_
        refine go_icmp_ltN (tgt := 38) (pc := 31) dX8_ask_31 (by omega) (by omega) (by decide) (fun c_31 => ?_) (fun c_31 => ?_)
        · refine go_iconst (v := nI 0) (pc := 38) dX8_ask_38 (by decide) ?_
          refine go_istore_n (pc := 39) dX8_ask_39 (by decide) rfl ?_
          refine go_iload_n (pc := 40) dX8_ask_40 rfl ?_
          refine go_if_neN (tgt := 62) (pc := 41) dX8_ask_41 (by omega) (by decide) (fun c_41 => ?_) (fun c_41 => ?_)
          · refine go_iload_n (pc := 62) dX8_ask_62 rfl ?_
            refine go_if_eqN (tgt := 74) (pc := 63) dX8_ask_63 (by omega) (by decide) (fun c_63 => ?_) (fun c_63 => ?_)
            · refine go_aload_n (pc := 74) dX8_ask_74 rfl ?_
              refine go_iload_n (pc := 75) dX8_ask_75 rfl ?_
              refine go_cVi (pc := 76) dX8_ask_76 (ev_oilMark_1 (t := 0) (show py_hm ((py_up σ 47 23 (nI 0)) 53) 0 H by rw [py_up_k _ _ _ (by decide)]; exact h5) (by omega) (py_up_s _ _ _ _) (by decide) hk9) lX8_225 YX8_oilMark VX8_oilMark rfl rfl rfl (by decide) rfl (Nat.le_of_ble_eq_true rfl) (fun s1 e1 => ?_)
              subst e1
              have ea : py_ak H (nI p) (nI 1) = ((nI (p + (H (15 + 4 * p)))), [21, 20]) := by unfold py_ak; rw [hpC, if_neg (by omega)]; unfold py_mr; rw [hk9]; rfl
              have e1 : nt_ask t H (nI p) (nI 1) = 2 := by unfold nt_ask; rw [if_pos (by omega), ea]; rfl
              have e2 : nu_ask tr H (nI p) (nI 1) = (fun i => nI (([21, 20] : List Nat).getD i 0)) := by unfold nu_ask; rw [if_pos (by omega), ea]
              have hf : py_fr [61] [(47, 23)] σ (py_trm (py_up σ 47 23 (nI 0)) 0 [21, 20]) := ((py_fr.rf [61] [(47, 23)] σ).ut (by decide) _).tr (py_trm_fr [21, 20] _ 0) (by decide) (by decide)
              refine go_retI (pc := 79) dX8_ask_79 (by unfold an_ask; rw [if_pos (by omega), ea]) ⟨?_, hf.wd (by decide) (by decide)⟩
              rw [e1, e2]
              refine ⟨py_rk_fr hf (by decide) h1, (by rw [hf 47 4 (by decide) (by decide)]; exact h2), py_tm_fr hf (by decide) h3, (by rw [hf 47 7 (by decide) (by decide)]; exact h4), (by rw [hf.at 53 (by decide) (by decide)]; exact h5), py_am_fr hf (by decide) h6, py_ik_fr hf (by decide) h7, py_ik_fr hf (by decide) h8, ⟨py_trm_n [21, 20] (py_up σ 47 23 (nI 0)) 0 (py_up_s _ _ _ _), fun i hi => ?_⟩⟩
              rw [py_trm_at, if_pos (by simp; omega)]; rfl
            · omega
          · omega
        · omega
      · subst hy9
        refine go_aload_n (pc := 20) dX8_ask_20 rfl ?_
        refine go_iconst (v := nI 0) (pc := 21) dX8_ask_21 (by decide) ?_
        refine go_putI (pc := 22) dX8_ask_22 fX8_219 rfl rfl ?_
        refine go_aload_n (pc := 25) dX8_ask_25 rfl ?_
        refine go_iload_n (pc := 26) dX8_ask_26 rfl ?_
        refine go_cV (pc := 27) dX8_ask_27 (ev_kindIn (show py_hm ((py_up σ 47 23 (nI 0)) 53) 0 H by rw [py_up_k _ _ _ (by decide)]; exact h5) (by omega)) lX8_216 YX8_kindIn VX8_kindIn rfl rfl rfl (by decide) rfl (Nat.le_of_ble_eq_true rfl) ?_
        refine go_top (y := nI 2) (by rw [hk9]) ?_
        refine go_iconst (v := nI 4) (pc := 30) dX8_ask_30 (by decide) ?_
        refine go_icmp_ltN (tgt := 38) (pc := 31) dX8_ask_31 (by omega) (by omega) (by decide) (fun c_31 => ?_) (fun c_31 => ?_)
        · refine go_iconst (v := nI 0) (pc := 38) dX8_ask_38 (by decide) ?_
          refine go_istore_n (pc := 39) dX8_ask_39 (by decide) rfl ?_
          refine go_iload_n (pc := 40) dX8_ask_40 rfl ?_
          refine go_if_neN (tgt := 62) (pc := 41) dX8_ask_41 (by omega) (by decide) (fun c_41 => ?_) (fun c_41 => ?_)
          · omega
          · refine go_iload_n (pc := 44) dX8_ask_44 rfl ?_
            refine go_if_eqN (tgt := 56) (pc := 45) dX8_ask_45 (by omega) (by decide) (fun c_45 => ?_) (fun c_45 => ?_)
            · refine go_aload_n (pc := 56) dX8_ask_56 rfl ?_
              refine go_iload_n (pc := 57) dX8_ask_57 rfl ?_
              refine go_cVi (pc := 58) dX8_ask_58 (ev_oilSize_2 (t := 0) (show py_hm ((py_up σ 47 23 (nI 0)) 53) 0 H by rw [py_up_k _ _ _ (by decide)]; exact h5) (by omega) (py_up_s _ _ _ _) (by decide) hk9) lX8_231 YX8_oilSize VX8_oilSize rfl rfl rfl (by decide) rfl (Nat.le_of_ble_eq_true rfl) (fun s1 e1 => ?_)
              subst e1
              have ea : py_ak H (nI p) (nI 0) = ((nI 0 - nI ((H (14 + 4 * p)) + (2 * (p + (H (15 + 4 * p)))))), [12, 11, 10, 24, 21, 20]) := by unfold py_ak; rw [hpC, if_pos (by omega)]; unfold py_sz; rw [hk9]; rfl
              have e1 : nt_ask t H (nI p) (nI 0) = 6 := by unfold nt_ask; rw [if_pos (by omega), ea]; rfl
              have e2 : nu_ask tr H (nI p) (nI 0) = (fun i => nI (([12, 11, 10, 24, 21, 20] : List Nat).getD i 0)) := by unfold nu_ask; rw [if_pos (by omega), ea]
              have hf : py_fr [61] [(47, 23)] σ (py_trm (py_up σ 47 23 (nI 0)) 0 [12, 11, 10, 24, 21, 20]) := ((py_fr.rf [61] [(47, 23)] σ).ut (by decide) _).tr (py_trm_fr [12, 11, 10, 24, 21, 20] _ 0) (by decide) (by decide)
              refine go_retI (pc := 61) dX8_ask_61 (by unfold an_ask; rw [if_pos (by omega), ea]) ⟨?_, hf.wd (by decide) (by decide)⟩
              rw [e1, e2]
              refine ⟨py_rk_fr hf (by decide) h1, (by rw [hf 47 4 (by decide) (by decide)]; exact h2), py_tm_fr hf (by decide) h3, (by rw [hf 47 7 (by decide) (by decide)]; exact h4), (by rw [hf.at 53 (by decide) (by decide)]; exact h5), py_am_fr hf (by decide) h6, py_ik_fr hf (by decide) h7, py_ik_fr hf (by decide) h8, ⟨py_trm_n [12, 11, 10, 24, 21, 20] (py_up σ 47 23 (nI 0)) 0 (py_up_s _ _ _ _), fun i hi => ?_⟩⟩
              rw [py_trm_at, if_pos (by simp; omega)]; rfl
            · omega
        · omega
      · subst hy9
        refine go_aload_n (pc := 20) dX8_ask_20 rfl ?_
        refine go_iconst (v := nI 0) (pc := 21) dX8_ask_21 (by decide) ?_
        refine go_putI (pc := 22) dX8_ask_22 fX8_219 rfl rfl ?_
        refine go_aload_n (pc := 25) dX8_ask_25 rfl ?_
        refine go_iload_n (pc := 26) dX8_ask_26 rfl ?_
        refine go_cV (pc := 27) dX8_ask_27 (ev_kindIn (show py_hm ((py_up σ 47 23 (nI 0)) 53) 0 H by rw [py_up_k _ _ _ (by decide)]; exact h5) (by omega)) lX8_216 YX8_kindIn VX8_kindIn rfl rfl rfl (by decide) rfl (Nat.le_of_ble_eq_true rfl) ?_
        refine go_top (y := nI 2) (by rw [hk9]) ?_
        refine go_iconst (v := nI 4) (pc := 30) dX8_ask_30 (by decide) ?_
        refine go_icmp_ltN (tgt := 38) (pc := 31) dX8_ask_31 (by omega) (by omega) (by decide) (fun c_31 => ?_) (fun c_31 => ?_)
        · refine go_iconst (v := nI 0) (pc := 38) dX8_ask_38 (by decide) ?_
          refine go_istore_n (pc := 39) dX8_ask_39 (by decide) rfl ?_
          refine go_iload_n (pc := 40) dX8_ask_40 rfl ?_
          refine go_if_neN (tgt := 62) (pc := 41) dX8_ask_41 (by omega) (by decide) (fun c_41 => ?_) (fun c_41 => ?_)
          · refine go_iload_n (pc := 62) dX8_ask_62 rfl ?_
            refine go_if_eqN (tgt := 74) (pc := 63) dX8_ask_63 (by omega) (by decide) (fun c_63 => ?_) (fun c_63 => ?_)
            · refine go_aload_n (pc := 74) dX8_ask_74 rfl ?_
              refine go_iload_n (pc := 75) dX8_ask_75 rfl ?_
              refine go_cVi (pc := 76) dX8_ask_76 (ev_oilMark_2 (t := 0) (show py_hm ((py_up σ 47 23 (nI 0)) 53) 0 H by rw [py_up_k _ _ _ (by decide)]; exact h5) (by omega) (py_up_s _ _ _ _) (by decide) hk9) lX8_225 YX8_oilMark VX8_oilMark rfl rfl rfl (by decide) rfl (Nat.le_of_ble_eq_true rfl) (fun s1 e1 => ?_)
              subst e1
              have ea : py_ak H (nI p) (nI 1) = ((nI (2 * (p + (H (15 + 4 * p))))), [24, 21, 20]) := by unfold py_ak; rw [hpC, if_neg (by omega)]; unfold py_mr; rw [hk9]; rfl
              have e1 : nt_ask t H (nI p) (nI 1) = 3 := by unfold nt_ask; rw [if_pos (by omega), ea]; rfl
              have e2 : nu_ask tr H (nI p) (nI 1) = (fun i => nI (([24, 21, 20] : List Nat).getD i 0)) := by unfold nu_ask; rw [if_pos (by omega), ea]
              have hf : py_fr [61] [(47, 23)] σ (py_trm (py_up σ 47 23 (nI 0)) 0 [24, 21, 20]) := ((py_fr.rf [61] [(47, 23)] σ).ut (by decide) _).tr (py_trm_fr [24, 21, 20] _ 0) (by decide) (by decide)
              refine go_retI (pc := 79) dX8_ask_79 (by unfold an_ask; rw [if_pos (by omega), ea]) ⟨?_, hf.wd (by decide) (by decide)⟩
              rw [e1, e2]
              refine ⟨py_rk_fr hf (by decide) h1, (by rw [hf 47 4 (by decide) (by decide)]; exact h2), py_tm_fr hf (by decide) h3, (by rw [hf 47 7 (by decide) (by decide)]; exact h4), (by rw [hf.at 53 (by decide) (by decide)]; exact h5), py_am_fr hf (by decide) h6, py_ik_fr hf (by decide) h7, py_ik_fr hf (by decide) h8, ⟨py_trm_n [24, 21, 20] (py_up σ 47 23 (nI 0)) 0 (py_up_s _ _ _ _), fun i hi => ?_⟩⟩
              rw [py_trm_at, if_pos (by simp; omega)]; rfl
            · omega
          · omega
        · omega
      · subst hy9
        refine go_aload_n (pc := 20) dX8_ask_20 rfl ?_
        refine go_iconst (v := nI 0) (pc := 21) dX8_ask_21 (by decide) ?_
        refine go_putI (pc := 22) dX8_ask_22 fX8_219 rfl rfl ?_
        refine go_aload_n (pc := 25) dX8_ask_25 rfl ?_
        refine go_iload_n (pc := 26) dX8_ask_26 rfl ?_
        refine go_cV (pc := 27) dX8_ask_27 (ev_kindIn (show py_hm ((py_up σ 47 23 (nI 0)) 53) 0 H by rw [py_up_k _ _ _ (by decide)]; exact h5) (by omega)) lX8_216 YX8_kindIn VX8_kindIn rfl rfl rfl (by decide) rfl (Nat.le_of_ble_eq_true rfl) ?_
        refine go_top (y := nI 3) (by rw [hk9]) ?_
        refine go_iconst (v := nI 4) (pc := 30) dX8_ask_30 (by decide) ?_
        refine go_icmp_ltN (tgt := 38) (pc := 31) dX8_ask_31 (by omega) (by omega) (by decide) (fun c_31 => ?_) (fun c_31 => ?_)
        · refine go_iconst (v := nI 0) (pc := 38) dX8_ask_38 (by decide) ?_
          refine go_istore_n (pc := 39) dX8_ask_39 (by decide) rfl ?_
          refine go_iload_n (pc := 40) dX8_ask_40 rfl ?_
          refine go_if_neN (tgt := 62) (pc := 41) dX8_ask_41 (by omega) (by decide) (fun c_41 => ?_) (fun c_41 => ?_)
          · omega
          · refine go_iload_n (pc := 44) dX8_ask_44 rfl ?_
            refine go_if_eqN (tgt := 56) (pc := 45) dX8_ask_45 (by omega) (by decide) (fun c_45 => ?_) (fun c_45 => ?_)
            · refine go_aload_n (pc := 56) dX8_ask_56 rfl ?_
              refine go_iload_n (pc := 57) dX8_ask_57 rfl ?_
              refine go_cVi (pc := 58) dX8_ask_58 (ev_oilSize_3 (t := 0) (show py_hm ((py_up σ 47 23 (nI 0)) 53) 0 H by rw [py_up_k _ _ _ (by decide)]; exact h5) (by omega) (py_up_s _ _ _ _) (by decide) hk9) lX8_231 YX8_oilSize VX8_oilSize rfl rfl rfl (by decide) rfl (Nat.le_of_ble_eq_true rfl) (fun s1 e1 => ?_)
              subst e1
              have ea : py_ak H (nI p) (nI 0) = (((nI (H (14 + 4 * p))) + ((nI (p + (H (15 + 4 * p)))) - (nI 1000))), [11, 10, 22, 21, 20]) := by unfold py_ak; rw [hpC, if_pos (by omega)]; unfold py_sz; rw [hk9]; rfl
              have e1 : nt_ask t H (nI p) (nI 0) = 5 := by unfold nt_ask; rw [if_pos (by omega), ea]; rfl
              have e2 : nu_ask tr H (nI p) (nI 0) = (fun i => nI (([11, 10, 22, 21, 20] : List Nat).getD i 0)) := by unfold nu_ask; rw [if_pos (by omega), ea]
              have hf : py_fr [61] [(47, 23)] σ (py_trm (py_up σ 47 23 (nI 0)) 0 [11, 10, 22, 21, 20]) := ((py_fr.rf [61] [(47, 23)] σ).ut (by decide) _).tr (py_trm_fr [11, 10, 22, 21, 20] _ 0) (by decide) (by decide)
              refine go_retI (pc := 61) dX8_ask_61 (by unfold an_ask; rw [if_pos (by omega), ea]) ⟨?_, hf.wd (by decide) (by decide)⟩
              rw [e1, e2]
              refine ⟨py_rk_fr hf (by decide) h1, (by rw [hf 47 4 (by decide) (by decide)]; exact h2), py_tm_fr hf (by decide) h3, (by rw [hf 47 7 (by decide) (by decide)]; exact h4), (by rw [hf.at 53 (by decide) (by decide)]; exact h5), py_am_fr hf (by decide) h6, py_ik_fr hf (by decide) h7, py_ik_fr hf (by decide) h8, ⟨py_trm_n [11, 10, 22, 21, 20] (py_up σ 47 23 (nI 0)) 0 (py_up_s _ _ _ _), fun i hi => ?_⟩⟩
              rw [py_trm_at, if_pos (by simp; omega)]; rfl
            · omega
        · omega
      · subst hy9
        refine go_aload_n (pc := 20) dX8_ask_20 rfl ?_
        refine go_iconst (v := nI 0) (pc := 21) dX8_ask_21 (by decide) ?_
        refine go_putI (pc := 22) dX8_ask_22 fX8_219 rfl rfl ?_
        refine go_aload_n (pc := 25) dX8_ask_25 rfl ?_
        refine go_iload_n (pc := 26) dX8_ask_26 rfl ?_
        refine go_cV (pc := 27) dX8_ask_27 (ev_kindIn (show py_hm ((py_up σ 47 23 (nI 0)) 53) 0 H by rw [py_up_k _ _ _ (by decide)]; exact h5) (by omega)) lX8_216 YX8_kindIn VX8_kindIn rfl rfl rfl (by decide) rfl (Nat.le_of_ble_eq_true rfl) ?_
        refine go_top (y := nI 3) (by rw [hk9]) ?_
        refine go_iconst (v := nI 4) (pc := 30) dX8_ask_30 (by decide) ?_
        refine go_icmp_ltN (tgt := 38) (pc := 31) dX8_ask_31 (by omega) (by omega) (by decide) (fun c_31 => ?_) (fun c_31 => ?_)
        · refine go_iconst (v := nI 0) (pc := 38) dX8_ask_38 (by decide) ?_
          refine go_istore_n (pc := 39) dX8_ask_39 (by decide) rfl ?_
          refine go_iload_n (pc := 40) dX8_ask_40 rfl ?_
          refine go_if_neN (tgt := 62) (pc := 41) dX8_ask_41 (by omega) (by decide) (fun c_41 => ?_) (fun c_41 => ?_)
          · refine go_iload_n (pc := 62) dX8_ask_62 rfl ?_
            refine go_if_eqN (tgt := 74) (pc := 63) dX8_ask_63 (by omega) (by decide) (fun c_63 => ?_) (fun c_63 => ?_)
            · refine go_aload_n (pc := 74) dX8_ask_74 rfl ?_
              refine go_iload_n (pc := 75) dX8_ask_75 rfl ?_
              refine go_cVi (pc := 76) dX8_ask_76 (ev_oilMark_3 (t := 0) (show py_hm ((py_up σ 47 23 (nI 0)) 53) 0 H by rw [py_up_k _ _ _ (by decide)]; exact h5) (by omega) (py_up_s _ _ _ _) (by decide) hk9) lX8_225 YX8_oilMark VX8_oilMark rfl rfl rfl (by decide) rfl (Nat.le_of_ble_eq_true rfl) (fun s1 e1 => ?_)
              subst e1
              have ea : py_ak H (nI p) (nI 1) = (((nI (p + (H (15 + 4 * p)))) - (nI 1000)), [22, 21, 20]) := by unfold py_ak; rw [hpC, if_neg (by omega)]; unfold py_mr; rw [hk9]; rfl
              have e1 : nt_ask t H (nI p) (nI 1) = 3 := by unfold nt_ask; rw [if_pos (by omega), ea]; rfl
              have e2 : nu_ask tr H (nI p) (nI 1) = (fun i => nI (([22, 21, 20] : List Nat).getD i 0)) := by unfold nu_ask; rw [if_pos (by omega), ea]
              have hf : py_fr [61] [(47, 23)] σ (py_trm (py_up σ 47 23 (nI 0)) 0 [22, 21, 20]) := ((py_fr.rf [61] [(47, 23)] σ).ut (by decide) _).tr (py_trm_fr [22, 21, 20] _ 0) (by decide) (by decide)
              refine go_retI (pc := 79) dX8_ask_79 (by unfold an_ask; rw [if_pos (by omega), ea]) ⟨?_, hf.wd (by decide) (by decide)⟩
              rw [e1, e2]
              refine ⟨py_rk_fr hf (by decide) h1, (by rw [hf 47 4 (by decide) (by decide)]; exact h2), py_tm_fr hf (by decide) h3, (by rw [hf 47 7 (by decide) (by decide)]; exact h4), (by rw [hf.at 53 (by decide) (by decide)]; exact h5), py_am_fr hf (by decide) h6, py_ik_fr hf (by decide) h7, py_ik_fr hf (by decide) h8, ⟨py_trm_n [22, 21, 20] (py_up σ 47 23 (nI 0)) 0 (py_up_s _ _ _ _), fun i hi => ?_⟩⟩
              rw [py_trm_at, if_pos (by simp; omega)]; rfl
            · omega
          · omega
        · omega
      · subst hy9
        refine go_aload_n (pc := 20) dX8_ask_20 rfl ?_
        refine go_iconst (v := nI 0) (pc := 21) dX8_ask_21 (by decide) ?_
        refine go_putI (pc := 22) dX8_ask_22 fX8_219 rfl rfl ?_
        refine go_aload_n (pc := 25) dX8_ask_25 rfl ?_
        refine go_iload_n (pc := 26) dX8_ask_26 rfl ?_
        refine go_cV (pc := 27) dX8_ask_27 (ev_kindIn (show py_hm ((py_up σ 47 23 (nI 0)) 53) 0 H by rw [py_up_k _ _ _ (by decide)]; exact h5) (by omega)) lX8_216 YX8_kindIn VX8_kindIn rfl rfl rfl (by decide) rfl (Nat.le_of_ble_eq_true rfl) ?_
        refine go_top (y := nI 4) (by rw [hk9]) ?_
        refine go_iconst (v := nI 4) (pc := 30) dX8_ask_30 (by decide) ?_
        refine go_icmp_ltN (tgt := 38) (pc := 31) dX8_ask_31 (by omega) (by omega) (by decide) (fun c_31 => ?_) (fun c_31 => ?_)
        · omega
        · refine go_iconst (v := nI 1) (pc := 34) dX8_ask_34 (by decide) ?_
          refine go_goto (tgt := 39) (pc := 35) dX8_ask_35 (by decide) ?_
          refine go_istore_n (pc := 39) dX8_ask_39 (by decide) rfl ?_
          refine go_iload_n (pc := 40) dX8_ask_40 rfl ?_
          refine go_if_neN (tgt := 62) (pc := 41) dX8_ask_41 (by omega) (by decide) (fun c_41 => ?_) (fun c_41 => ?_)
          · omega
          · refine go_iload_n (pc := 44) dX8_ask_44 rfl ?_
            refine go_if_eqN (tgt := 56) (pc := 45) dX8_ask_45 (by omega) (by decide) (fun c_45 => ?_) (fun c_45 => ?_)
            · omega
            · refine go_aload_n (pc := 48) dX8_ask_48 rfl ?_
              refine go_iload_n (pc := 49) dX8_ask_49 rfl ?_
              refine go_cVi (pc := 50) dX8_ask_50 (ev_pencilSize_4 (t := 0) (show py_hm ((py_up σ 47 23 (nI 0)) 53) 0 H by rw [py_up_k _ _ _ (by decide)]; exact h5) (by omega) (py_up_s _ _ _ _) (by decide) hk9) lX8_228 YX8_pencilSize VX8_pencilSize rfl rfl rfl (by decide) rfl (Nat.le_of_ble_eq_true rfl) (fun s1 e1 => ?_)
              refine go_goto (tgt := 61) (pc := 53) dX8_ask_53 (by decide) ?_
              subst e1
              have ea : py_ak H (nI p) (nI 0) = (((nI (H (14 + 4 * p))) - (nI 100)), [13, 10]) := by unfold py_ak; rw [hpC, if_pos (by omega)]; unfold py_sz; rw [hk9]; rfl
              have e1 : nt_ask t H (nI p) (nI 0) = 2 := by unfold nt_ask; rw [if_pos (by omega), ea]; rfl
              have e2 : nu_ask tr H (nI p) (nI 0) = (fun i => nI (([13, 10] : List Nat).getD i 0)) := by unfold nu_ask; rw [if_pos (by omega), ea]
              have hf : py_fr [61] [(47, 23)] σ (py_trm (py_up σ 47 23 (nI 0)) 0 [13, 10]) := ((py_fr.rf [61] [(47, 23)] σ).ut (by decide) _).tr (py_trm_fr [13, 10] _ 0) (by decide) (by decide)
              refine go_retI (pc := 61) dX8_ask_61 (by unfold an_ask; rw [if_pos (by omega), ea]) ⟨?_, hf.wd (by decide) (by decide)⟩
              rw [e1, e2]
              refine ⟨py_rk_fr hf (by decide) h1, (by rw [hf 47 4 (by decide) (by decide)]; exact h2), py_tm_fr hf (by decide) h3, (by rw [hf 47 7 (by decide) (by decide)]; exact h4), (by rw [hf.at 53 (by decide) (by decide)]; exact h5), py_am_fr hf (by decide) h6, py_ik_fr hf (by decide) h7, py_ik_fr hf (by decide) h8, ⟨py_trm_n [13, 10] (py_up σ 47 23 (nI 0)) 0 (py_up_s _ _ _ _), fun i hi => ?_⟩⟩
              rw [py_trm_at, if_pos (by simp; omega)]; rfl
      · subst hy9
        refine go_aload_n (pc := 20) dX8_ask_20 rfl ?_
        refine go_iconst (v := nI 0) (pc := 21) dX8_ask_21 (by decide) ?_
        refine go_putI (pc := 22) dX8_ask_22 fX8_219 rfl rfl ?_
        refine go_aload_n (pc := 25) dX8_ask_25 rfl ?_
        refine go_iload_n (pc := 26) dX8_ask_26 rfl ?_
        refine go_cV (pc := 27) dX8_ask_27 (ev_kindIn (show py_hm ((py_up σ 47 23 (nI 0)) 53) 0 H by rw [py_up_k _ _ _ (by decide)]; exact h5) (by omega)) lX8_216 YX8_kindIn VX8_kindIn rfl rfl rfl (by decide) rfl (Nat.le_of_ble_eq_true rfl) ?_
        refine go_top (y := nI 4) (by rw [hk9]) ?_
        refine go_iconst (v := nI 4) (pc := 30) dX8_ask_30 (by decide) ?_
        refine go_icmp_ltN (tgt := 38) (pc := 31) dX8_ask_31 (by omega) (by omega) (by decide) (fun c_31 => ?_) (fun c_31 => ?_)
        · omega
        · refine go_iconst (v := nI 1) (pc := 34) dX8_ask_34 (by decide) ?_
          refine go_goto (tgt := 39) (pc := 35) dX8_ask_35 (by decide) ?_
          refine go_istore_n (pc := 39) dX8_ask_39 (by decide) rfl ?_
          refine go_iload_n (pc := 40) dX8_ask_40 rfl ?_
          refine go_if_neN (tgt := 62) (pc := 41) dX8_ask_41 (by omega) (by decide) (fun c_41 => ?_) (fun c_41 => ?_)
          · refine go_iload_n (pc := 62) dX8_ask_62 rfl ?_
            refine go_if_eqN (tgt := 74) (pc := 63) dX8_ask_63 (by omega) (by decide) (fun c_63 => ?_) (fun c_63 => ?_)
            · omega
            · refine go_aload_n (pc := 66) dX8_ask_66 rfl ?_
              refine go_iload_n (pc := 67) dX8_ask_67 rfl ?_
              refine go_cVi (pc := 68) dX8_ask_68 (ev_pencilMark_4 (t := 0) (show py_hm ((py_up σ 47 23 (nI 0)) 53) 0 H by rw [py_up_k _ _ _ (by decide)]; exact h5) (by omega) (py_up_s _ _ _ _) (by decide) hk9) lX8_234 YX8_pencilMark VX8_pencilMark rfl rfl rfl (by decide) rfl (Nat.le_of_ble_eq_true rfl) (fun s1 e1 => ?_)
              refine go_goto (tgt := 79) (pc := 71) dX8_ask_71 (by decide) ?_
              subst e1
              have ea : py_ak H (nI p) (nI 1) = (((nI p) - ((nI (H (14 + 4 * p))) - (nI 100))), [23, 20, 13, 10]) := by unfold py_ak; rw [hpC, if_neg (by omega)]; unfold py_mr; rw [hk9]; rfl
              have e1 : nt_ask t H (nI p) (nI 1) = 4 := by unfold nt_ask; rw [if_pos (by omega), ea]; rfl
              have e2 : nu_ask tr H (nI p) (nI 1) = (fun i => nI (([23, 20, 13, 10] : List Nat).getD i 0)) := by unfold nu_ask; rw [if_pos (by omega), ea]
              have hf : py_fr [61] [(47, 23)] σ (py_trm (py_up σ 47 23 (nI 0)) 0 [23, 20, 13, 10]) := ((py_fr.rf [61] [(47, 23)] σ).ut (by decide) _).tr (py_trm_fr [23, 20, 13, 10] _ 0) (by decide) (by decide)
              refine go_retI (pc := 79) dX8_ask_79 (by unfold an_ask; rw [if_pos (by omega), ea]) ⟨?_, hf.wd (by decide) (by decide)⟩
              rw [e1, e2]
              refine ⟨py_rk_fr hf (by decide) h1, (by rw [hf 47 4 (by decide) (by decide)]; exact h2), py_tm_fr hf (by decide) h3, (by rw [hf 47 7 (by decide) (by decide)]; exact h4), (by rw [hf.at 53 (by decide) (by decide)]; exact h5), py_am_fr hf (by decide) h6, py_ik_fr hf (by decide) h7, py_ik_fr hf (by decide) h8, ⟨py_trm_n [23, 20, 13, 10] (py_up σ 47 23 (nI 0)) 0 (py_up_s _ _ _ _), fun i hi => ?_⟩⟩
              rw [py_trm_at, if_pos (by simp; omega)]; rfl
          · omega
      · subst hy9
        refine go_aload_n (pc := 20) dX8_ask_20 rfl ?_
        refine go_iconst (v := nI 0) (pc := 21) dX8_ask_21 (by decide) ?_
        refine go_putI (pc := 22) dX8_ask_22 fX8_219 rfl rfl ?_
        refine go_aload_n (pc := 25) dX8_ask_25 rfl ?_
        refine go_iload_n (pc := 26) dX8_ask_26 rfl ?_
        refine go_cV (pc := 27) dX8_ask_27 (ev_kindIn (show py_hm ((py_up σ 47 23 (nI 0)) 53) 0 H by rw [py_up_k _ _ _ (by decide)]; exact h5) (by omega)) lX8_216 YX8_kindIn VX8_kindIn rfl rfl rfl (by decide) rfl (Nat.le_of_ble_eq_true rfl) ?_
        refine go_top (y := nI 5) (by rw [hk9]) ?_
        refine go_iconst (v := nI 4) (pc := 30) dX8_ask_30 (by decide) ?_
        refine go_icmp_ltN (tgt := 38) (pc := 31) dX8_ask_31 (by omega) (by omega) (by decide) (fun c_31 => ?_) (fun c_31 => ?_)
        · omega
        · refine go_iconst (v := nI 1) (pc := 34) dX8_ask_34 (by decide) ?_
          refine go_goto (tgt := 39) (pc := 35) dX8_ask_35 (by decide) ?_
          refine go_istore_n (pc := 39) dX8_ask_39 (by decide) rfl ?_
          refine go_iload_n (pc := 40) dX8_ask_40 rfl ?_
          refine go_if_neN (tgt := 62) (pc := 41) dX8_ask_41 (by omega) (by decide) (fun c_41 => ?_) (fun c_41 => ?_)
          · omega
          · refine go_iload_n (pc := 44) dX8_ask_44 rfl ?_
            refine go_if_eqN (tgt := 56) (pc := 45) dX8_ask_45 (by omega) (by decide) (fun c_45 => ?_) (fun c_45 => ?_)
            · omega
            · refine go_aload_n (pc := 48) dX8_ask_48 rfl ?_
              refine go_iload_n (pc := 49) dX8_ask_49 rfl ?_
              refine go_cVi (pc := 50) dX8_ask_50 (ev_pencilSize_5 (t := 0) (show py_hm ((py_up σ 47 23 (nI 0)) 53) 0 H by rw [py_up_k _ _ _ (by decide)]; exact h5) (by omega) (py_up_s _ _ _ _) (by decide) hk9) lX8_228 YX8_pencilSize VX8_pencilSize rfl rfl rfl (by decide) rfl (Nat.le_of_ble_eq_true rfl) (fun s1 e1 => ?_)
              refine go_goto (tgt := 61) (pc := 53) dX8_ask_53 (by decide) ?_
              subst e1
              have ea : py_ak H (nI p) (nI 0) = (((nI 2) * ((nI (H (14 + 4 * p))) - (nI 100))), [14, 13, 10]) := by unfold py_ak; rw [hpC, if_pos (by omega)]; unfold py_sz; rw [hk9]; rfl
              have e1 : nt_ask t H (nI p) (nI 0) = 3 := by unfold nt_ask; rw [if_pos (by omega), ea]; rfl
              have e2 : nu_ask tr H (nI p) (nI 0) = (fun i => nI (([14, 13, 10] : List Nat).getD i 0)) := by unfold nu_ask; rw [if_pos (by omega), ea]
              have hf : py_fr [61] [(47, 23)] σ (py_trm (py_up σ 47 23 (nI 0)) 0 [14, 13, 10]) := ((py_fr.rf [61] [(47, 23)] σ).ut (by decide) _).tr (py_trm_fr [14, 13, 10] _ 0) (by decide) (by decide)
              refine go_retI (pc := 61) dX8_ask_61 (by unfold an_ask; rw [if_pos (by omega), ea]) ⟨?_, hf.wd (by decide) (by decide)⟩
              rw [e1, e2]
              refine ⟨py_rk_fr hf (by decide) h1, (by rw [hf 47 4 (by decide) (by decide)]; exact h2), py_tm_fr hf (by decide) h3, (by rw [hf 47 7 (by decide) (by decide)]; exact h4), (by rw [hf.at 53 (by decide) (by decide)]; exact h5), py_am_fr hf (by decide) h6, py_ik_fr hf (by decide) h7, py_ik_fr hf (by decide) h8, ⟨py_trm_n [14, 13, 10] (py_up σ 47 23 (nI 0)) 0 (py_up_s _ _ _ _), fun i hi => ?_⟩⟩
              rw [py_trm_at, if_pos (by simp; omega)]; rfl
      · subst hy9
        refine go_aload_n (pc := 20) dX8_ask_20 rfl ?_
        refine go_iconst (v := nI 0) (pc := 21) dX8_ask_21 (by decide) ?_
        refine go_putI (pc := 22) dX8_ask_22 fX8_219 rfl rfl ?_
        refine go_aload_n (pc := 25) dX8_ask_25 rfl ?_
        refine go_iload_n (pc := 26) dX8_ask_26 rfl ?_
        refine go_cV (pc := 27) dX8_ask_27 (ev_kindIn (show py_hm ((py_up σ 47 23 (nI 0)) 53) 0 H by rw [py_up_k _ _ _ (by decide)]; exact h5) (by omega)) lX8_216 YX8_kindIn VX8_kindIn rfl rfl rfl (by decide) rfl (Nat.le_of_ble_eq_true rfl) ?_
        refine go_top (y := nI 5) (by rw [hk9]) ?_
        refine go_iconst (v := nI 4) (pc := 30) dX8_ask_30 (by decide) ?_
        refine go_icmp_ltN (tgt := 38) (pc := 31) dX8_ask_31 (by omega) (by omega) (by decide) (fun c_31 => ?_) (fun c_31 => ?_)
        · omega
        · refine go_iconst (v := nI 1) (pc := 34) dX8_ask_34 (by decide) ?_
          refine go_goto (tgt := 39) (pc := 35) dX8_ask_35 (by decide) ?_
          refine go_istore_n (pc := 39) dX8_ask_39 (by decide) rfl ?_
          refine go_iload_n (pc := 40) dX8_ask_40 rfl ?_
          refine go_if_neN (tgt := 62) (pc := 41) dX8_ask_41 (by omega) (by decide) (fun c_41 => ?_) (fun c_41 => ?_)
          · refine go_iload_n (pc := 62) dX8_ask_62 rfl ?_
            refine go_if_eqN (tgt := 74) (pc := 63) dX8_ask_63 (by omega) (by decide) (fun c_63 => ?_) (fun c_63 => ?_)
            · omega
            · refine go_aload_n (pc := 66) dX8_ask_66 rfl ?_
              refine go_iload_n (pc := 67) dX8_ask_67 rfl ?_
              refine go_cVi (pc := 68) dX8_ask_68 (ev_pencilMark_5 (t := 0) (show py_hm ((py_up σ 47 23 (nI 0)) 53) 0 H by rw [py_up_k _ _ _ (by decide)]; exact h5) (by omega) (py_up_s _ _ _ _) (by decide) hk9) lX8_234 YX8_pencilMark VX8_pencilMark rfl rfl rfl (by decide) rfl (Nat.le_of_ble_eq_true rfl) (fun s1 e1 => ?_)
              refine go_goto (tgt := 79) (pc := 71) dX8_ask_71 (by decide) ?_
              subst e1
              have ea : py_ak H (nI p) (nI 1) = (((nI p) - ((nI 2) * ((nI (H (14 + 4 * p))) - (nI 100)))), [23, 20, 14, 13, 10]) := by unfold py_ak; rw [hpC, if_neg (by omega)]; unfold py_mr; rw [hk9]; rfl
              have e1 : nt_ask t H (nI p) (nI 1) = 5 := by unfold nt_ask; rw [if_pos (by omega), ea]; rfl
              have e2 : nu_ask tr H (nI p) (nI 1) = (fun i => nI (([23, 20, 14, 13, 10] : List Nat).getD i 0)) := by unfold nu_ask; rw [if_pos (by omega), ea]
              have hf : py_fr [61] [(47, 23)] σ (py_trm (py_up σ 47 23 (nI 0)) 0 [23, 20, 14, 13, 10]) := ((py_fr.rf [61] [(47, 23)] σ).ut (by decide) _).tr (py_trm_fr [23, 20, 14, 13, 10] _ 0) (by decide) (by decide)
              refine go_retI (pc := 79) dX8_ask_79 (by unfold an_ask; rw [if_pos (by omega), ea]) ⟨?_, hf.wd (by decide) (by decide)⟩
              rw [e1, e2]
              refine ⟨py_rk_fr hf (by decide) h1, (by rw [hf 47 4 (by decide) (by decide)]; exact h2), py_tm_fr hf (by decide) h3, (by rw [hf 47 7 (by decide) (by decide)]; exact h4), (by rw [hf.at 53 (by decide) (by decide)]; exact h5), py_am_fr hf (by decide) h6, py_ik_fr hf (by decide) h7, py_ik_fr hf (by decide) h8, ⟨py_trm_n [23, 20, 14, 13, 10] (py_up σ 47 23 (nI 0)) 0 (py_up_s _ _ _ _), fun i hi => ?_⟩⟩
              rw [py_trm_at, if_pos (by simp; omega)]; rfl
          · omega
    · refine go_ldc (pc := 17) dX8_ask_17 kX8_67 ?_
      have e1 : nt_ask t H ((nI p)) ((y)) = t := by unfold nt_ask; rw [if_neg (by omega)]
      have e2 : nu_ask tr H ((nI p)) ((y)) = tr := by unfold nu_ask; rw [if_neg (by omega)]
      exact go_retI (pc := 19) dX8_ask_19 (by unfold an_ask; (repeat' split) <;> first | rfl | omega) ⟨by rw [e1, e2]; exact hI, py_fr.rf _ _ σ⟩
