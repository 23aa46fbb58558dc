/-! contracts: acts kept and taken back -/
/-- the class's ring of acts: n kept, of houses As 0 (the oldest) .. ; m pictures -/
def py_ac (σ : py_H) (n fr : Nat) (As : Nat → Nat → Nat) (m : Nat) : Prop :=
  σ 35 1 = nI n ∧ σ 35 2 = nI fr ∧ n ≤ 24 ∧ fr < 24 ∧ ∀ i, i < n → σ 36 (12 * ((fr + 24 - n + i) % 24)) = nI (As i 2) ∧ σ 36 (12 * ((fr + 24 - n + i) % 24) + 1) = nI (As i 1) ∧ ∀ p, p < m → σ 36 (12 * ((fr + 24 - n + i) % 24) + 2 + p) = nI (As i (15 + 4 * p)) ∧ σ 36 (12 * ((fr + 24 - n + i) % 24) + 7 + p) = nI (As i (16 + 4 * p))
def py_pa (n : Nat) (As : Nat → Nat → Nat) (H : Nat → Nat) : Nat → Nat → Nat := fun i => if n < 24 then (if i = n then H else As i) else (if i = 23 then H else As (i + 1))
theorem py_ac_keep {σ s : py_H} {n fr : Nat} {As : Nat → Nat → Nat} {H : Nat → Nat} (hc : py_hd σ 7 H) (h5 : H 12 ≤ 5) (ha : py_ac σ n fr As (H 12)) (h1 : s 35 1 = nI (if n + 1 < 24 then n + 1 else 24)) (h2 : s 35 2 = nI ((fr + 1) % 24))
    (k0 : s 36 (fr * 12) = nI (H 2)) (k1 : s 36 (fr * 12 + 1) = nI (H 1)) (k2 : ∀ p, p < 5 → s 36 (fr * 12 + 2 + p) = σ 12 p ∧ s 36 (fr * 12 + 7 + p) = σ 13 p) (k3 : ∀ j, (j < fr * 12 ∨ fr * 12 + 12 ≤ j) → s 36 j = σ 36 j) :
    ∃ n2 fr2, n2 = (if n + 1 < 24 then n + 1 else 24) ∧ py_ac s n2 fr2 (py_pa n As H) (H 12) := by
  obtain ⟨a1, a2, a3, a4, a5⟩ := ha
  refine ⟨_, (fr + 1) % 24, rfl, h1, h2, ?_, by omega, ?_⟩
  · split <;> omega
  intro i hi
  have new : ∀ q, q = fr → s 36 (12 * q) = nI (H 2) ∧ s 36 (12 * q + 1) = nI (H 1) ∧ ∀ p, p < H 12 → s 36 (12 * q + 2 + p) = nI (H (15 + 4 * p)) ∧ s 36 (12 * q + 7 + p) = nI (H (16 + 4 * p)) := by
    intro q hq
    subst hq
    rw [Nat.mul_comm 12 q]
    refine ⟨k0, k1, fun p hp => ?_⟩
    have z := hc.2.2.2.2.2.2 p hp
    have y := k2 p (by omega)
    exact ⟨y.1.trans z.2.2.1, y.2.trans z.2.2.2⟩
  have old : ∀ q, q < 24 → q ≠ fr → ∀ t, t < 12 → s 36 (12 * q + t) = σ 36 (12 * q + t) := fun q hq hn t ht => k3 _ (by omega)
  by_cases hn : n < 24
  · have e1 : (if n + 1 < 24 then n + 1 else 24) = n + 1 := by split <;> omega
    rw [e1] at hi ⊢
    by_cases hin : i = n
    · have e2 : ((fr + 1) % 24 + 24 - (n + 1) + i) % 24 = fr := by omega
      have e3 : py_pa n As H i = H := by unfold py_pa; rw [if_pos hn, if_pos hin]
      rw [e2, e3]
      exact new fr rfl
    · have e2 : ((fr + 1) % 24 + 24 - (n + 1) + i) % 24 = (fr + 24 - n + i) % 24 := by omega
      have e3 : py_pa n As H i = As i := by unfold py_pa; rw [if_pos hn, if_neg hin]
      rw [e2, e3]
      have z := a5 i (by omega)
      have hq : (fr + 24 - n + i) % 24 ≠ fr := by omega
      have hlt : (fr + 24 - n + i) % 24 < 24 := Nat.mod_lt _ (by decide)
      have o0 := old _ hlt hq 0 (by decide)
      have o1 := old _ hlt hq 1 (by decide)
      rw [Nat.add_zero] at o0
      refine ⟨o0.trans z.1, o1.trans z.2.1, fun p hp => ?_⟩
      have y := z.2.2 p hp
      have o2 := old _ hlt hq (2 + p) (by omega)
      have o3 := old _ hlt hq (7 + p) (by omega)
      rw [← Nat.add_assoc] at o2 o3
      exact ⟨o2.trans y.1, o3.trans y.2⟩
  · have en : n = 24 := by omega
    subst en
    have e1 : (if 24 + 1 < 24 then 24 + 1 else 24) = 24 := rfl
    rw [e1] at hi ⊢
    by_cases hin : i = 23
    · have e2 : ((fr + 1) % 24 + 24 - 24 + i) % 24 = fr := by omega
      have e3 : py_pa 24 As H i = H := by unfold py_pa; rw [if_neg (by decide), if_pos hin]
      rw [e2, e3]
      exact new fr rfl
    · have e2 : ((fr + 1) % 24 + 24 - 24 + i) % 24 = (fr + 24 - 24 + (i + 1)) % 24 := by omega
      have e3 : py_pa 24 As H i = As (i + 1) := by unfold py_pa; rw [if_neg (by decide), if_neg hin]
      rw [e2, e3]
      have z := a5 (i + 1) (by omega)
      have hq : (fr + 24 - 24 + (i + 1)) % 24 ≠ fr := by omega
      have hlt : (fr + 24 - 24 + (i + 1)) % 24 < 24 := Nat.mod_lt _ (by decide)
      have o0 := old _ hlt hq 0 (by decide)
      have o1 := old _ hlt hq 1 (by decide)
      rw [Nat.add_zero] at o0
      refine ⟨o0.trans z.1, o1.trans z.2.1, fun p hp => ?_⟩
      have y := z.2.2 p hp
      have o2 := old _ hlt hq (2 + p) (by omega)
      have o3 := old _ hlt hq (7 + p) (by omega)
      rw [← Nat.add_assoc] at o2 o3
      exact ⟨o2.trans y.1, o3.trans y.2⟩
theorem py_minN {a b : Nat} (ha : a < 2 ^ 31) (hb : b < 2 ^ 31) : (if nI b < nI a then nI b else nI a) = nI (if a < b then a else b) := by
  by_cases h : b < a
  · rw [if_pos (nI_lt h ha), if_neg (by omega)]
  · rw [if_neg (nI_nlt (by omega) hb)]
    by_cases h2 : a < b
    · rw [if_pos h2]
    · rw [if_neg h2, show a = b by omega]
set_option maxHeartbeats 4000000 in
set_option maxRecDepth 100000 in
theorem ev_keep {X : py_X} {σ : py_H} {H : Nat → Nat} {n fr : Nat} {As : Nat → Nat → Nat} (hc : py_hd σ 7 H) (h5 : H 12 ≤ 5) (ha : py_ac σ n fr As (H 12)) : py_Ev X 1 yX0_keep cX0_keep 3 none [.ref 35, .ref 7] σ (py_vs none (fun s => (∃ n2 fr2, n2 = (if n + 1 < 24 then n + 1 else 24) ∧ py_ac s n2 fr2 (py_pa n As H) (H 12)) ∧ py_fr [35, 36] [] σ s)) := by
  have hn24 := ha.2.2.1
  have hf24 := ha.2.2.2.1
  refine py_ofV (own := RX0) YX0_keep.2.2.2.2 rfl rfl (Nat.le_of_ble_eq_true rfl)  ?_
  show py_Go X RX0 cX0_keep 3 1 0 [some (.ref 35), some (.ref 7), none] [] σ (py_vs none (fun s => (∃ n2 fr2, n2 = (if n + 1 < 24 then n + 1 else 24) ∧ py_ac s n2 fr2 (py_pa n As H) (H 12)) ∧ py_fr [35, 36] [] σ s))
  refine go_aload_n (pc := 0) dX0_keep_0 rfl ?_
  refine go_getI (x := (nI fr)) (pc := 1) dX0_keep_1 fX0_19 rfl rfl ha.2.1 ?_
  refine go_bipush (v := nI 12) (pc := 4) dX0_keep_4 (by decide) ?_
  refine go_imulN (pc := 6) dX0_keep_6  ?_
  refine go_istore_n (pc := 7) dX0_keep_7 (by decide) rfl ?_
  refine go_aload_n (pc := 8) dX0_keep_8 rfl ?_
  refine go_getR (pc := 9) dX0_keep_9 fX0_11 rfl rfl ?_
  refine go_iload_n (pc := 12) dX0_keep_12 rfl ?_
  refine go_aload_n (pc := 13) dX0_keep_13 rfl ?_
  refine go_getI (x := (nI (H 2))) (pc := 14) dX0_keep_14 fX0_22 rfl rfl hc.2.2.1 ?_
  refine go_astN (pc := 17) dX0_keep_17 rfl (by show fr * 12 < 288; omega) ?_
  refine go_aload_n (pc := 18) dX0_keep_18 rfl ?_
  refine go_getR (pc := 19) dX0_keep_19 fX0_11 rfl rfl ?_
  refine go_iload_n (pc := 22) dX0_keep_22 rfl ?_
  refine go_iconst (v := nI 1) (pc := 23) dX0_keep_23 (by decide) ?_
  refine go_iaddN (pc := 24) dX0_keep_24  ?_
  refine go_aload_n (pc := 25) dX0_keep_25 rfl ?_
  refine go_getI (x := (nI (H 1))) (pc := 26) dX0_keep_26 fX0_27 rfl rfl (by (repeat first | rw [py_up_k _ _ _ (by decide)] | rw [py_row_ne _ _ (by decide)] | rw [py_up_j _ _ _ (by decide)]); exact hc.2.1) ?_
  refine go_astN (pc := 29) dX0_keep_29 rfl (by show (fr * 12) + 1 < 288; omega) ?_
  refine go_aload_n (pc := 30) dX0_keep_30 rfl ?_
  refine go_getR (pc := 31) dX0_keep_31 fX0_30 rfl rfl ?_
  refine go_iconst (v := nI 0) (pc := 34) dX0_keep_34 (by decide) ?_
  refine go_aload_n (pc := 35) dX0_keep_35 rfl ?_
  refine go_getR (pc := 36) dX0_keep_36 fX0_11 rfl rfl ?_
  refine go_iload_n (pc := 39) dX0_keep_39 rfl ?_
  refine go_iconst (v := nI 2) (pc := 40) dX0_keep_40 (by decide) ?_
  refine go_iaddN (pc := 41) dX0_keep_41  ?_
  refine go_iconst (v := nI 5) (pc := 42) dX0_keep_42 (by decide) ?_
  refine go_copy (pc := 43) dX0_keep_43 lX0_33 Ncpy Scpy Isys (by decide) (Nat.le_of_ble_eq_true rfl) rfl rfl (nI_pos (by omega)) (nI_pos (by omega)) (nI_pos (by omega)) (by rw [nI_clamp (by omega), nI_clamp (by omega)]; show 0 + (5) ≤ 5; omega) (by rw [nI_clamp (by omega), nI_clamp (by omega)]; show (fr * 12) + 2 + (5) ≤ 288; omega) ?_
  rw [nI_clamp (by omega), nI_clamp (by omega), nI_clamp (by omega)]
  refine go_aload_n (pc := 46) dX0_keep_46 rfl ?_
  refine go_getR (pc := 47) dX0_keep_47 fX0_39 rfl rfl ?_
  refine go_iconst (v := nI 0) (pc := 50) dX0_keep_50 (by decide) ?_
  refine go_aload_n (pc := 51) dX0_keep_51 rfl ?_
  refine go_getR (pc := 52) dX0_keep_52 fX0_11 rfl rfl ?_
  refine go_iload_n (pc := 55) dX0_keep_55 rfl ?_
  refine go_bipush (v := nI 7) (pc := 56) dX0_keep_56 (by decide) ?_
  refine go_iaddN (pc := 58) dX0_keep_58  ?_
  refine go_iconst (v := nI 5) (pc := 59) dX0_keep_59 (by decide) ?_
  refine go_copy (pc := 60) dX0_keep_60 lX0_33 Ncpy Scpy Isys (by decide) (Nat.le_of_ble_eq_true rfl) rfl rfl (nI_pos (by omega)) (nI_pos (by omega)) (nI_pos (by omega)) (by rw [nI_clamp (by omega), nI_clamp (by omega)]; show 0 + (5) ≤ 5; omega) (by rw [nI_clamp (by omega), nI_clamp (by omega)]; show (fr * 12) + 7 + (5) ≤ 288; omega) ?_
  rw [nI_clamp (by omega), nI_clamp (by omega), nI_clamp (by omega)]
  refine go_aload_n (pc := 63) dX0_keep_63 rfl ?_
  refine go_aload_n (pc := 64) dX0_keep_64 rfl ?_
  refine go_getI (x := (nI fr)) (pc := 65) dX0_keep_65 fX0_19 rfl rfl (by (repeat first | rw [py_up_k _ _ _ (by decide)] | rw [py_row_ne _ _ (by decide)] | rw [py_up_j _ _ _ (by decide)]); exact ha.2.1) ?_
  refine go_iconst (v := nI 1) (pc := 68) dX0_keep_68 (by decide) ?_
  refine go_iaddN (pc := 69) dX0_keep_69  ?_
  refine go_bipush (v := nI 24) (pc := 70) dX0_keep_70 (by decide) ?_
  refine go_iremN (pc := 72) dX0_keep_72 (by omega) (by omega) (by omega) ?_
  refine go_putI (pc := 73) dX0_keep_73 fX0_19 rfl rfl ?_
  refine go_aload_n (pc := 76) dX0_keep_76 rfl ?_
  refine go_aload_n (pc := 77) dX0_keep_77 rfl ?_
  refine go_getI (x := (nI n)) (pc := 78) dX0_keep_78 fX0_15 rfl rfl (by (repeat first | rw [py_up_k _ _ _ (by decide)] | rw [py_row_ne _ _ (by decide)] | rw [py_up_j _ _ _ (by decide)]); exact ha.1) ?_
  refine go_iconst (v := nI 1) (pc := 81) dX0_keep_81 (by decide) ?_
  refine go_iaddN (pc := 82) dX0_keep_82  ?_
  refine go_bipush (v := nI 24) (pc := 83) dX0_keep_83 (by decide) ?_
  refine go_mmin (pc := 85) dX0_keep_85 lX0_42 Smin Imath Cmin (by decide) (Nat.le_of_ble_eq_true rfl) ?_
  refine go_top (y := (nI (if n + 1 < 24 then n + 1 else 24))) (py_minN (by omega) (by omega)) ?_
  refine go_putI (pc := 88) dX0_keep_88 fX0_15 rfl rfl ?_
  refine go_retV (pc := 91) dX0_keep_91 ?_
  refine ⟨py_ac_keep hc h5 ha ?_ ?_ ?_ ?_ ?_ ?_, (((((((py_fr.rf [35, 36] [] σ).up (by decide) _).up (by decide) _).row (by decide) _).row (by decide) _).up (by decide) _).up (by decide) _)⟩
  · rw [py_up_s]
  · rw [py_up_j _ _ _ (by decide), py_up_s]
  · rw [py_up_k _ _ _ (by decide), py_up_k _ _ _ (by decide), py_row_self, pk_cpy_out (by omega), py_row_self, pk_cpy_out (by omega), py_up_j _ _ _ (by omega), py_up_s]
  · rw [py_up_k _ _ _ (by decide), py_up_k _ _ _ (by decide), py_row_self, pk_cpy_out (by omega), py_row_self, pk_cpy_out (by omega), py_up_s]
  · intro p hp
    refine ⟨?_, ?_⟩
    · rw [py_up_k _ _ _ (by decide), py_up_k _ _ _ (by decide), py_row_self, pk_cpy_out (by omega), py_row_self, pk_cpy_in (by omega) (by omega), py_up_k _ _ _ (by decide), py_up_k _ _ _ (by decide)]
      congr 1
      omega
    · rw [py_up_k _ _ _ (by decide), py_up_k _ _ _ (by decide), py_row_self, pk_cpy_in (by omega) (by omega), py_row_ne _ _ (by decide), py_up_k _ _ _ (by decide), py_up_k _ _ _ (by decide)]
      congr 1
      omega
  · intro j hj
    rw [py_up_k _ _ _ (by decide), py_up_k _ _ _ (by decide), py_row_self, pk_cpy_out (by omega), py_row_self, pk_cpy_out (by omega), py_up_j _ _ _ (by omega), py_up_j _ _ _ (by omega)]
set_option maxHeartbeats 4000000 in
set_option maxRecDepth 100000 in
theorem ev_forget {X : py_X} {σ : py_H} : py_Ev X 0 yX0_forget cX0_forget 1 none [.ref 35] σ (py_vs none (fun s => s = (py_up (py_up σ 35 1 (nI 0)) 35 2 (nI 0)))) := by
  refine py_ofV (own := RX0) YX0_forget.2.2.2.2 rfl rfl (Nat.le_of_ble_eq_true rfl)  ?_
  show py_Go X RX0 cX0_forget 1 0 0 [some (.ref 35)] [] σ (py_vs none (fun s => s = (py_up (py_up σ 35 1 (nI 0)) 35 2 (nI 0))))
  refine go_aload_n (pc := 0) dX0_forget_0 rfl ?_
  refine go_iconst (v := nI 0) (pc := 1) dX0_forget_1 (by decide) ?_
  refine go_putI (pc := 2) dX0_forget_2 fX0_15 rfl rfl ?_
  refine go_aload_n (pc := 5) dX0_forget_5 rfl ?_
  refine go_iconst (v := nI 0) (pc := 6) dX0_forget_6 (by decide) ?_
  refine go_putI (pc := 7) dX0_forget_7 fX0_19 rfl rfl ?_
  exact go_retV (pc := 10) dX0_forget_10 rfl
set_option maxHeartbeats 4000000 in
set_option maxRecDepth 100000 in
theorem ev_takeBack0 {X : py_X} {σ : py_H} {fr m : Nat} {As : Nat → Nat → Nat} (ha : py_ac σ 0 fr As m) : py_Ev X 0 yX0_takeBack cX0_takeBack 3 (some .boolean) [.ref 35, .ref 7] σ (py_ret (.int (nI 0)) σ) := by
  refine py_ofZ (own := RX0) YX0_takeBack.2.2.2.2 rfl rfl (Nat.le_of_ble_eq_true rfl) (Or.inl (by decide)) ?_
  show py_Go X RX0 cX0_takeBack 3 0 0 [some (.ref 35), some (.ref 7), none] [] σ (py_ret (.int (nI 0)) σ)
  refine go_aload_n (pc := 0) dX0_takeBack_0 rfl ?_
  refine go_getI (x := (nI 0)) (pc := 1) dX0_takeBack_1 fX0_15 rfl rfl ha.1 ?_
  refine go_iconst (v := nI 1) (pc := 4) dX0_takeBack_4 (by decide) ?_
  refine go_icmp_geN (tgt := 10) (pc := 5) dX0_takeBack_5 (by omega) (by omega) (by decide) (fun c_5 => ?_) (fun c_5 => ?_)
  · exact absurd c_5 (by decide)
  · refine go_iconst (v := nI 0) (pc := 8) dX0_takeBack_8 (by decide) ?_
    exact go_retI (pc := 9) dX0_takeBack_9 rfl rfl
/-- A is H but for the year, the purse, cells and walls -/
def py_st (A H : Nat → Nat) : Prop := A 0 = H 0 ∧ A 3 = H 3 ∧ A 12 = H 12 ∧ (∀ w, w < H 3 → A (4 + 2 * w) = H (4 + 2 * w) ∧ A (5 + 2 * w) = H (5 + 2 * w)) ∧ (∀ p, p < H 12 → A (13 + 4 * p) = H (13 + 4 * p) ∧ A (14 + 4 * p) = H (14 + 4 * p))
theorem py_ac_back {σ s : py_H} {n fr : Nat} {As : Nat → Nat → Nat} {H : Nat → Nat} (hc : py_hd σ 7 H) (h5 : H 12 ≤ 5) (ha : py_ac σ (n + 1) fr As (H 12)) (hst : py_st (As n) H) (h1 : s 35 1 = nI n) (h2 : s 35 2 = nI ((fr + 24 - 1) % 24)) (k36 : s 36 = σ 36)
    (k3 : s 7 3 = σ 36 (((fr + 24 - 1) % 24) * 12)) (k2 : s 7 2 = σ 36 (((fr + 24 - 1) % 24) * 12 + 1)) (k1 : s 7 1 = σ 7 1) (k4 : s 7 4 = σ 7 4) (k5 : s 7 5 = σ 7 5)
    (kc : ∀ p, p < 5 → s 12 p = σ 36 (((fr + 24 - 1) % 24) * 12 + 2 + p) ∧ s 13 p = σ 36 (((fr + 24 - 1) % 24) * 12 + 7 + p)) (k8 : s 8 = σ 8) (k9 : s 9 = σ 9) (k10 : s 10 = σ 10) (k11 : s 11 = σ 11) :
    (∃ fr2, py_ac s n fr2 As (H 12)) ∧ py_hd s 7 (As n) := by
  obtain ⟨a1, a2, a3, a4, a5⟩ := ha
  obtain ⟨t0, t3, t12, tw, tp⟩ := hst
  have e : (fr + 24 - (n + 1) + n) % 24 = (fr + 24 - 1) % 24 := by omega
  have z := a5 n (by omega)
  rw [e, Nat.mul_comm] at z
  refine ⟨⟨(fr + 24 - 1) % 24, h1, h2, by omega, Nat.mod_lt _ (by decide), fun i hi => ?_⟩, ?_, ?_, ?_, ?_, ?_, fun w hw => ?_, fun p hp => ?_⟩
  · have y := a5 i (by omega)
    have e2 : ((fr + 24 - 1) % 24 + 24 - n + i) % 24 = (fr + 24 - (n + 1) + i) % 24 := by omega
    rw [e2, k36]
    exact y
  · rw [k1, t0]; exact hc.1
  · rw [k2]; exact z.2.1
  · rw [k3]; exact z.1
  · rw [k4, t3]; exact hc.2.2.2.1
  · rw [k5, t12]; exact hc.2.2.2.2.1
  · rw [t3] at hw
    have y := hc.2.2.2.2.2.1 w hw
    rw [(tw w hw).1, (tw w hw).2, show s (7 + 1) = σ (7 + 1) from k8, show s (7 + 2) = σ (7 + 2) from k9]
    exact y
  · rw [t12] at hp
    have y := hc.2.2.2.2.2.2 p hp
    have x := kc p (by omega)
    have zz := z.2.2 p hp
    rw [(tp p hp).1, (tp p hp).2, show s (7 + 3) = σ (7 + 3) from k10, show s (7 + 4) = σ (7 + 4) from k11]
    exact ⟨y.1, y.2.1, x.1.trans zz.1, x.2.trans zz.2⟩
set_option maxHeartbeats 4000000 in
set_option maxRecDepth 100000 in
theorem ev_takeBack1 {X : py_X} {σ : py_H} {H : Nat → Nat} {n fr : Nat} {As : Nat → Nat → Nat} (hc : py_hd σ 7 H) (h5 : H 12 ≤ 5) (ha : py_ac σ (n + 1) fr As (H 12)) (hst : py_st (As n) H) : py_Ev X 1 yX0_takeBack cX0_takeBack 3 (some .boolean) [.ref 35, .ref 7] σ (py_vs (some (.int (nI 1))) (fun s => (∃ fr2, py_ac s n fr2 As (H 12)) ∧ py_hd s 7 (As n) ∧ py_fr [12, 13, 35] [(7, 2), (7, 3)] σ s)) := by
  have hn24 := ha.2.2.1
  have hf24 := ha.2.2.2.1
  have hm24 : (fr + 24 - 1) % 24 < 24 := Nat.mod_lt _ (by decide)
  refine py_ofZ (own := RX0) YX0_takeBack.2.2.2.2 rfl rfl (Nat.le_of_ble_eq_true rfl) (Or.inr (by decide)) ?_
  show py_Go X RX0 cX0_takeBack 3 1 0 [some (.ref 35), some (.ref 7), none] [] σ (py_vs (some (.int (nI 1))) (fun s => (∃ fr2, py_ac s n fr2 As (H 12)) ∧ py_hd s 7 (As n) ∧ py_fr [12, 13, 35] [(7, 2), (7, 3)] σ s))
  refine go_aload_n (pc := 0) dX0_takeBack_0 rfl ?_
  refine go_getI (x := (nI (n + 1))) (pc := 1) dX0_takeBack_1 fX0_15 rfl rfl ha.1 ?_
  refine go_iconst (v := nI 1) (pc := 4) dX0_takeBack_4 (by decide) ?_
  refine go_icmp_geN (tgt := 10) (pc := 5) dX0_takeBack_5 (by omega) (by omega) (by decide) (fun c_5 => ?_) (fun c_5 => ?_)
  · refine go_aload_n (pc := 10) dX0_takeBack_10 rfl ?_
    refine go_dup (pc := 11) dX0_takeBack_11 rfl ?_
    refine go_getI (x := (nI (n + 1))) (pc := 12) dX0_takeBack_12 fX0_15 rfl rfl ha.1 ?_
    refine go_iconst (v := nI 1) (pc := 15) dX0_takeBack_15 (by decide) ?_
    refine go_isubN (pc := 16) dX0_takeBack_16 (by omega) ?_
    refine go_putI (pc := 17) dX0_takeBack_17 fX0_15 rfl rfl ?_
    refine go_aload_n (pc := 20) dX0_takeBack_20 rfl ?_
    refine go_aload_n (pc := 21) dX0_takeBack_21 rfl ?_
    refine go_getI (x := (nI fr)) (pc := 22) dX0_takeBack_22 fX0_19 rfl rfl (by (repeat first | rw [py_up_k _ _ _ (by decide)] | rw [py_row_ne _ _ (by decide)] | rw [py_up_j _ _ _ (by decide)]); exact ha.2.1) ?_
    refine go_bipush (v := nI 24) (pc := 25) dX0_takeBack_25 (by decide) ?_
    refine go_iaddN (pc := 27) dX0_takeBack_27  ?_
    refine go_iconst (v := nI 1) (pc := 28) dX0_takeBack_28 (by decide) ?_
    refine go_isubN (pc := 29) dX0_takeBack_29 (by omega) ?_
    refine go_bipush (v := nI 24) (pc := 30) dX0_takeBack_30 (by decide) ?_
    refine go_iremN (pc := 32) dX0_takeBack_32 (by omega) (by omega) (by omega) ?_
    refine go_putI (pc := 33) dX0_takeBack_33 fX0_19 rfl rfl ?_
    refine go_aload_n (pc := 36) dX0_takeBack_36 rfl ?_
    refine go_getI (x := (nI ((fr + 24 - 1) % 24))) (pc := 37) dX0_takeBack_37 fX0_19 rfl rfl (py_up_s _ _ _ _) ?_
    refine go_bipush (v := nI 12) (pc := 40) dX0_takeBack_40 (by decide) ?_
    refine go_imulN (pc := 42) dX0_takeBack_42  ?_
    refine go_istore_n (pc := 43) dX0_takeBack_43 (by decide) rfl ?_
    refine go_aload_n (pc := 44) dX0_takeBack_44 rfl ?_
    refine go_aload_n (pc := 45) dX0_takeBack_45 rfl ?_
    refine go_getR (pc := 46) dX0_takeBack_46 fX0_11 rfl rfl ?_
    refine go_iload_n (pc := 49) dX0_takeBack_49 rfl ?_
    refine go_aldN (x := (σ 36 (((fr + 24 - 1) % 24) * 12))) (pc := 50) dX0_takeBack_50 rfl (by show ((fr + 24 - 1) % 24) * 12 < 288; omega) (by (repeat first | rw [py_up_k _ _ _ (by decide)] | rw [py_row_ne _ _ (by decide)])) ?_
    refine go_putI (pc := 51) dX0_takeBack_51 fX0_22 rfl rfl ?_
    refine go_aload_n (pc := 54) dX0_takeBack_54 rfl ?_
    refine go_aload_n (pc := 55) dX0_takeBack_55 rfl ?_
    refine go_getR (pc := 56) dX0_takeBack_56 fX0_11 rfl rfl ?_
    refine go_iload_n (pc := 59) dX0_takeBack_59 rfl ?_
    refine go_iconst (v := nI 1) (pc := 60) dX0_takeBack_60 (by decide) ?_
    refine go_iaddN (pc := 61) dX0_takeBack_61  ?_
    refine go_aldN (x := (σ 36 ((((fr + 24 - 1) % 24) * 12) + 1))) (pc := 62) dX0_takeBack_62 rfl (by show (((fr + 24 - 1) % 24) * 12) + 1 < 288; omega) (by (repeat first | rw [py_up_k _ _ _ (by decide)] | rw [py_row_ne _ _ (by decide)])) ?_
    refine go_putI (pc := 63) dX0_takeBack_63 fX0_27 rfl rfl ?_
    refine go_aload_n (pc := 66) dX0_takeBack_66 rfl ?_
    refine go_getR (pc := 67) dX0_takeBack_67 fX0_11 rfl rfl ?_
    refine go_iload_n (pc := 70) dX0_takeBack_70 rfl ?_
    refine go_iconst (v := nI 2) (pc := 71) dX0_takeBack_71 (by decide) ?_
    refine go_iaddN (pc := 72) dX0_takeBack_72  ?_
    refine go_aload_n (pc := 73) dX0_takeBack_73 rfl ?_
    refine go_getR (pc := 74) dX0_takeBack_74 fX0_30 rfl rfl ?_
    refine go_iconst (v := nI 0) (pc := 77) dX0_takeBack_77 (by decide) ?_
    refine go_iconst (v := nI 5) (pc := 78) dX0_takeBack_78 (by decide) ?_
    refine go_copy (pc := 79) dX0_takeBack_79 lX0_33 Ncpy Scpy Isys (by decide) (Nat.le_of_ble_eq_true rfl) rfl rfl (nI_pos (by omega)) (nI_pos (by omega)) (nI_pos (by omega)) (by rw [nI_clamp (by omega), nI_clamp (by omega)]; show (((fr + 24 - 1) % 24) * 12) + 2 + (5) ≤ 288; omega) (by rw [nI_clamp (by omega), nI_clamp (by omega)]; show 0 + (5) ≤ 5; omega) ?_
    rw [nI_clamp (by omega), nI_clamp (by omega), nI_clamp (by omega)]
    refine go_aload_n (pc := 82) dX0_takeBack_82 rfl ?_
    refine go_getR (pc := 83) dX0_takeBack_83 fX0_11 rfl rfl ?_
    refine go_iload_n (pc := 86) dX0_takeBack_86 rfl ?_
    refine go_bipush (v := nI 7) (pc := 87) dX0_takeBack_87 (by decide) ?_
    refine go_iaddN (pc := 89) dX0_takeBack_89  ?_
    refine go_aload_n (pc := 90) dX0_takeBack_90 rfl ?_
    refine go_getR (pc := 91) dX0_takeBack_91 fX0_39 rfl rfl ?_
    refine go_iconst (v := nI 0) (pc := 94) dX0_takeBack_94 (by decide) ?_
    refine go_iconst (v := nI 5) (pc := 95) dX0_takeBack_95 (by decide) ?_
    refine go_copy (pc := 96) dX0_takeBack_96 lX0_33 Ncpy Scpy Isys (by decide) (Nat.le_of_ble_eq_true rfl) rfl rfl (nI_pos (by omega)) (nI_pos (by omega)) (nI_pos (by omega)) (by rw [nI_clamp (by omega), nI_clamp (by omega)]; show (((fr + 24 - 1) % 24) * 12) + 7 + (5) ≤ 288; omega) (by rw [nI_clamp (by omega), nI_clamp (by omega)]; show 0 + (5) ≤ 5; omega) ?_
    rw [nI_clamp (by omega), nI_clamp (by omega), nI_clamp (by omega)]
    refine go_iconst (v := nI 1) (pc := 99) dX0_takeBack_99 (by decide) ?_
    refine go_retI (pc := 100) dX0_takeBack_100 rfl ?_
    refine And.elim (fun p1 p2 => ⟨p1, p2, ((((((py_fr.rf [12, 13, 35] [(7, 2), (7, 3)] σ).up (by decide) _).up (by decide) _).ut (by decide) _).ut (by decide) _).row (by decide) _).row (by decide) _⟩) (py_ac_back (s := (py_row (py_row (py_up (py_up (py_up (py_up σ 35 1 ((nI ((n + 1) - 1)))) 35 2 ((nI (((fr + 24) - 1) % 24)))) 7 3 ((σ 36 (((fr + 24 - 1) % 24) * 12)))) 7 2 ((σ 36 ((((fr + 24 - 1) % 24) * 12) + 1)))) 12 (va_cpy ((py_up (py_up (py_up (py_up σ 35 1 ((nI ((n + 1) - 1)))) 35 2 ((nI (((fr + 24) - 1) % 24)))) 7 3 ((σ 36 (((fr + 24 - 1) % 24) * 12)))) 7 2 ((σ 36 ((((fr + 24 - 1) % 24) * 12) + 1)))) 36) ((py_up (py_up (py_up (py_up σ 35 1 ((nI ((n + 1) - 1)))) 35 2 ((nI (((fr + 24) - 1) % 24)))) 7 3 ((σ 36 (((fr + 24 - 1) % 24) * 12)))) 7 2 ((σ 36 ((((fr + 24 - 1) % 24) * 12) + 1)))) 12) ((((fr + 24 - 1) % 24) * 12) + 2) (0) (5))) 13 (va_cpy ((py_row (py_up (py_up (py_up (py_up σ 35 1 ((nI ((n + 1) - 1)))) 35 2 ((nI (((fr + 24) - 1) % 24)))) 7 3 ((σ 36 (((fr + 24 - 1) % 24) * 12)))) 7 2 ((σ 36 ((((fr + 24 - 1) % 24) * 12) + 1)))) 12 (va_cpy ((py_up (py_up (py_up (py_up σ 35 1 ((nI ((n + 1) - 1)))) 35 2 ((nI (((fr + 24) - 1) % 24)))) 7 3 ((σ 36 (((fr + 24 - 1) % 24) * 12)))) 7 2 ((σ 36 ((((fr + 24 - 1) % 24) * 12) + 1)))) 36) ((py_up (py_up (py_up (py_up σ 35 1 ((nI ((n + 1) - 1)))) 35 2 ((nI (((fr + 24) - 1) % 24)))) 7 3 ((σ 36 (((fr + 24 - 1) % 24) * 12)))) 7 2 ((σ 36 ((((fr + 24 - 1) % 24) * 12) + 1)))) 12) ((((fr + 24 - 1) % 24) * 12) + 2) (0) (5))) 36) ((py_row (py_up (py_up (py_up (py_up σ 35 1 ((nI ((n + 1) - 1)))) 35 2 ((nI (((fr + 24) - 1) % 24)))) 7 3 ((σ 36 (((fr + 24 - 1) % 24) * 12)))) 7 2 ((σ 36 ((((fr + 24 - 1) % 24) * 12) + 1)))) 12 (va_cpy ((py_up (py_up (py_up (py_up σ 35 1 ((nI ((n + 1) - 1)))) 35 2 ((nI (((fr + 24) - 1) % 24)))) 7 3 ((σ 36 (((fr + 24 - 1) % 24) * 12)))) 7 2 ((σ 36 ((((fr + 24 - 1) % 24) * 12) + 1)))) 36) ((py_up (py_up (py_up (py_up σ 35 1 ((nI ((n + 1) - 1)))) 35 2 ((nI (((fr + 24) - 1) % 24)))) 7 3 ((σ 36 (((fr + 24 - 1) % 24) * 12)))) 7 2 ((σ 36 ((((fr + 24 - 1) % 24) * 12) + 1)))) 12) ((((fr + 24 - 1) % 24) * 12) + 2) (0) (5))) 13) ((((fr + 24 - 1) % 24) * 12) + 7) (0) (5)))) hc h5 ha hst ?_ ?_ ?_ ?_ ?_ ?_ ?_ ?_ ?_ ?_ ?_ ?_ ?_)
    · simp [py_row_ap, py_up_ap]
    · simp [py_row_ap, py_up_ap]
    · repeat first | rw [py_up_k _ _ _ (by decide)] | rw [py_row_ne _ _ (by decide)]
    · simp [py_row_ap, py_up_ap]
    · simp [py_row_ap, py_up_ap]
    · simp [py_row_ap, py_up_ap]
    · simp [py_row_ap, py_up_ap]
    · simp [py_row_ap, py_up_ap]
    · intro p hp
      refine ⟨?_, ?_⟩
      · rw [py_row_ne _ _ (by decide), py_row_self, pk_cpy_in (by omega) (by omega)]
        (repeat rw [py_up_k _ _ _ (by decide)])
        congr 1 <;> omega
      · rw [py_row_self, pk_cpy_in (by omega) (by omega), py_row_ne _ _ (by decide)]
        (repeat rw [py_up_k _ _ _ (by decide)])
        congr 1 <;> omega
    · repeat first | rw [py_up_k _ _ _ (by decide)] | rw [py_row_ne _ _ (by decide)]
    · repeat first | rw [py_up_k _ _ _ (by decide)] | rw [py_row_ne _ _ (by decide)]
    · repeat first | rw [py_up_k _ _ _ (by decide)] | rw [py_row_ne _ _ (by decide)]
    · repeat first | rw [py_up_k _ _ _ (by decide)] | rw [py_row_ne _ _ (by decide)]
  · omega
