/-! contracts: the tape and how it is read -/
/-- where the reader stands behind an answer -/
def py_ps {α : Type} (s : py_H) (r : py_Re α) : Prop := match r with
  | .inl e => s 5 4 = nI e.1 ∧ s 5 3 = nI e.2
  | .inr q => s 5 2 = nI q.1
theorem py_nx_t {B : Nat → Nat} {N a c : Nat} (hc : c ≤ 255) (hB : ∀ i, i < N → B i ≤ 255) : py_nx B N a = nI c ↔ (a < N ∧ B a = c) := by
  unfold py_nx
  by_cases h : a < N
  · have hb := hB a h
    rw [if_pos h, nI_eq (by omega) (by omega)]
    exact ⟨fun e => ⟨h, e⟩, fun e => e.2⟩
  · rw [if_neg h]
    constructor
    · intro e
      have e2 : (-1 : Int32).toInt = (nI c).toInt := by rw [e]
      rw [nI_toInt (by omega)] at e2
      have e3 : (-1 : Int32).toInt = -1 := by decide
      omega
    · intro e; exact absurd e.1 h
theorem py_nx_e {B : Nat → Nat} {N a : Nat} (hB : ∀ i, i < N → B i ≤ 255) : py_nx B N a = -1 ↔ ¬ a < N := by
  unfold py_nx
  by_cases h : a < N
  · have hb := hB a h
    rw [if_pos h]
    constructor
    · intro e
      have e2 : (nI (B a)).toInt = (-1 : Int32).toInt := by rw [e]
      rw [nI_toInt (by omega)] at e2
      have e3 : (-1 : Int32).toInt = -1 := by decide
      omega
    · intro e; exact absurd h e
  · rw [if_neg h]
    exact ⟨fun _ => h, fun _ => rfl⟩
theorem py_tc_fr {σ s : py_H} {B : Nat → Nat} {N : Nat} {S : List Nat} {T : List (Nat × Nat)} (hf : py_fr S T σ s) (h6 : 6 ∉ S) (h5 : 5 ∉ S) (ht6 : ∀ q ∈ T, q.1 ≠ 6) (ht : (5, 1) ∉ T) (hc : py_tc σ B N) : py_tc s B N := by
  have e6 := hf.at 6 h6 ht6
  refine ⟨by rw [hf 5 1 h5 ht]; exact hc.1, hc.2.1, fun i hi => ?_⟩
  rw [e6]
  exact hc.2.2 i hi
set_option maxHeartbeats 4000000 in
set_option maxRecDepth 100000 in
theorem ev_next {X : py_X} {σ : py_H} {B : Nat → Nat} {N a : Nat} (ht : py_tc σ B N) (ha : σ 5 2 = nI a) (haN : a ≤ N) : py_Ev X 0 yX6_next cX6_next 1 (some .int) [.ref 5] σ (py_ret (.int (py_nx B N a)) σ) := by
  obtain ⟨t1, t2, t3⟩ := id ht
  refine py_ofI (own := RX6) YX6_next.2.2.2.2 rfl rfl (Nat.le_of_ble_eq_true rfl)  ?_
  show py_Go X RX6 cX6_next 1 0 0 [some (.ref 5)] [] σ (py_ret (.int (py_nx B N a)) σ)
  refine go_aload_n (pc := 0) dX6_next_0 rfl ?_
  refine go_getI (x := (nI a)) (pc := 1) dX6_next_1 fX6_19 rfl rfl ha ?_
  refine go_if_ltN (tgt := 39) (pc := 4) dX6_next_4 (by omega) (by decide) ?_
  refine go_aload_n (pc := 7) dX6_next_7 rfl ?_
  refine go_getI (x := (nI a)) (pc := 8) dX6_next_8 fX6_19 rfl rfl ha ?_
  refine go_aload_n (pc := 11) dX6_next_11 rfl ?_
  refine go_getI (x := (nI N)) (pc := 12) dX6_next_12 fX6_15 rfl rfl t1 ?_
  refine go_icmp_geN (tgt := 39) (pc := 15) dX6_next_15 (by omega) (by omega) (by decide) (fun c_15 => ?_) (fun c_15 => ?_)
  · refine go_iconst (v := -1) (pc := 39) dX6_next_39 (by decide) ?_
    exact go_retI (pc := 40) dX6_next_40 (by unfold py_nx; rw [if_neg (by omega)]) rfl
  · refine go_aload_n (pc := 18) dX6_next_18 rfl ?_
    refine go_getI (x := (nI a)) (pc := 19) dX6_next_19 fX6_19 rfl rfl ha ?_
    refine go_bipush (v := nI 100) (pc := 22) dX6_next_22 (by decide) ?_
    refine go_icmp_geN (tgt := 39) (pc := 24) dX6_next_24 (by omega) (by omega) (by decide) (fun c_24 => ?_) (fun c_24 => ?_)
    · omega
    · refine go_aload_n (pc := 27) dX6_next_27 rfl ?_
      refine go_getR (pc := 28) dX6_next_28 fX6_11 rfl rfl ?_
      refine go_aload_n (pc := 31) dX6_next_31 rfl ?_
      refine go_getI (x := (nI a)) (pc := 32) dX6_next_32 fX6_19 rfl rfl ha ?_
      refine go_aldN (x := (nI (B a))) (pc := 35) dX6_next_35 rfl (by show a < 100; omega) (t3 a (by omega)).1 ?_
      refine go_goto (tgt := 40) (pc := 36) dX6_next_36 (by decide) ?_
      exact go_retI (pc := 40) dX6_next_40 (by unfold py_nx; rw [if_pos (by omega)]) rfl
set_option maxHeartbeats 4000000 in
set_option maxRecDepth 100000 in
theorem ev_isFigure {X : py_X} {σ : py_H} {x : Int32} : py_Ev X 0 yX6_isFigure cX6_isFigure 2 (some .boolean) [.ref 5, .int (x)] σ (py_ret (.int (py_b (48 ≤ x.toInt ∧ x.toInt ≤ 57))) σ) := by
  refine py_ofZ (own := RX6) YX6_isFigure.2.2.2.2 rfl rfl (Nat.le_of_ble_eq_true rfl) py_b_ok ?_
  show py_Go X RX6 cX6_isFigure 2 0 0 [some (.ref 5), some (.int (x))] [] σ (py_ret (.int (py_b (48 ≤ x.toInt ∧ x.toInt ≤ 57))) σ)
  refine go_iload_n (pc := 0) dX6_isFigure_0 rfl ?_
  refine go_bipush (v := nI 48) (pc := 1) dX6_isFigure_1 (by decide) ?_
  refine go_icmp_ltJN (tgt := 16) (pc := 3) dX6_isFigure_3 (by omega) (by decide) (fun c_3 => ?_) (fun c_3 => ?_)
  · refine go_iconst (v := nI 0) (pc := 16) dX6_isFigure_16 (by decide) ?_
    exact go_retI (pc := 17) dX6_isFigure_17 (py_b_f (by omega)).symm rfl
  · refine go_iload_n (pc := 6) dX6_isFigure_6 rfl ?_
    refine go_bipush (v := nI 57) (pc := 7) dX6_isFigure_7 (by decide) ?_
    refine go_icmp_gtJN (tgt := 16) (pc := 9) dX6_isFigure_9 (by omega) (by decide) (fun c_9 => ?_) (fun c_9 => ?_)
    · refine go_iconst (v := nI 0) (pc := 16) dX6_isFigure_16 (by decide) ?_
      exact go_retI (pc := 17) dX6_isFigure_17 (py_b_f (by omega)).symm rfl
    · refine go_iconst (v := nI 1) (pc := 12) dX6_isFigure_12 (by decide) ?_
      refine go_goto (tgt := 17) (pc := 13) dX6_isFigure_13 (by decide) ?_
      exact go_retI (pc := 17) dX6_isFigure_17 (py_b_t (by omega)).symm rfl
set_option maxHeartbeats 4000000 in
set_option maxRecDepth 100000 in
theorem ev_failAt {X : py_X} {σ : py_H} {p k : Nat} : py_Ev X 0 yX6_failAt cX6_failAt 3 (some .boolean) [.ref 5, .int (nI p), .int (nI k)] σ (py_ret (.int (nI 0)) (py_up (py_up σ 5 4 (nI p)) 5 3 (nI k))) := by
  refine py_ofZ (own := RX6) YX6_failAt.2.2.2.2 rfl rfl (Nat.le_of_ble_eq_true rfl) (Or.inl (by decide)) ?_
  show py_Go X RX6 cX6_failAt 3 0 0 [some (.ref 5), some (.int (nI p)), some (.int (nI k))] [] σ (py_ret (.int (nI 0)) (py_up (py_up σ 5 4 (nI p)) 5 3 (nI k)))
  refine go_aload_n (pc := 0) dX6_failAt_0 rfl ?_
  refine go_iload_n (pc := 1) dX6_failAt_1 rfl ?_
  refine go_putI (pc := 2) dX6_failAt_2 fX6_101 rfl rfl ?_
  refine go_aload_n (pc := 5) dX6_failAt_5 rfl ?_
  refine go_iload_n (pc := 6) dX6_failAt_6 rfl ?_
  refine go_putI (pc := 7) dX6_failAt_7 fX6_104 rfl rfl ?_
  refine go_iconst (v := nI 0) (pc := 10) dX6_failAt_10 (by decide) ?_
  exact go_retI (pc := 11) dX6_failAt_11 rfl rfl
set_option maxHeartbeats 4000000 in
set_option maxRecDepth 100000 in
theorem ev_take {X : py_X} {σ : py_H} {B : Nat → Nat} {N a : Nat} (ht : py_tc σ B N) (ha : σ 5 2 = nI a) (haN : a ≤ N) {c : Nat} (hc2 : c ≤ 255) : py_Ev X 1 yX6_take cX6_take 2 (some .boolean) [.ref 5, .int (nI c)] σ (py_vs (some (.int (py_b (py_isok (py_chr B N a c) = true)))) (fun s => py_ps s (py_chr B N a c) ∧ py_fr [] [(5, 2), (5, 3), (5, 4)] σ s)) := by
  obtain ⟨t1, t2, t3⟩ := id ht
  refine py_ofZ (own := RX6) YX6_take.2.2.2.2 rfl rfl (Nat.le_of_ble_eq_true rfl) py_b_ok ?_
  show py_Go X RX6 cX6_take 2 1 0 [some (.ref 5), some (.int (nI c))] [] σ (py_vs (some (.int (py_b (py_isok (py_chr B N a c) = true)))) (fun s => py_ps s (py_chr B N a c) ∧ py_fr [] [(5, 2), (5, 3), (5, 4)] σ s))
  refine go_aload_n (pc := 0) dX6_take_0 rfl ?_
  refine go_cV (pc := 1) dX6_take_1 (ev_next ht ha haN) lX6_55 YX6_next VX6_next rfl rfl rfl (by decide) rfl (Nat.le_of_ble_eq_true rfl) ?_
  refine go_iload_n (pc := 4) dX6_take_4 rfl ?_
  refine go_icmp_eq (tgt := 18) (pc := 5) dX6_take_5 (by decide) (fun c_5 => ?_) (fun c_5 => ?_)
  · refine go_aload_n (pc := 18) dX6_take_18 rfl ?_
    refine go_dup (pc := 19) dX6_take_19 rfl ?_
    refine go_getI (x := (nI a)) (pc := 20) dX6_take_20 fX6_19 rfl rfl ha ?_
    refine go_iconst (v := nI 1) (pc := 23) dX6_take_23 (by decide) ?_
    refine go_iaddN (pc := 24) dX6_take_24  ?_
    refine go_putI (pc := 25) dX6_take_25 fX6_19 rfl rfl ?_
    refine go_iconst (v := nI 1) (pc := 28) dX6_take_28 (by decide) ?_
    have hr : py_chr B N a c = .inr (a + 1, 0) := by unfold py_chr; rw [if_pos ((py_nx_t hc2 (fun i hi => (t3 i hi).2)).mp c_5)]
    exact go_retI (pc := 29) dX6_take_29 (by rw [hr]; rfl) ⟨by rw [hr]; exact py_up_s _ _ _ _, (py_fr.rf [] [(5, 2), (5, 3), (5, 4)] σ).ut (by decide) _⟩
  · refine go_aload_n (pc := 8) dX6_take_8 rfl ?_
    refine go_aload_n (pc := 9) dX6_take_9 rfl ?_
    refine go_getI (x := (nI a)) (pc := 10) dX6_take_10 fX6_19 rfl rfl ha ?_
    refine go_iconst (v := nI 1) (pc := 13) dX6_take_13 (by decide) ?_
    refine go_cVi (pc := 14) dX6_take_14 ev_failAt lX6_65 YX6_failAt VX6_failAt rfl rfl rfl (by decide) rfl (Nat.le_of_ble_eq_true rfl) (fun s1 e1 => ?_)
    subst e1
    have hr : py_chr B N a c = .inl (a, 1) := by unfold py_chr; rw [if_neg (fun z => c_5 ((py_nx_t hc2 (fun i hi => (t3 i hi).2)).mpr z))]
    exact go_retI (pc := 17) dX6_take_17 (by rw [hr]; rfl) ⟨by rw [hr]; exact ⟨by rw [py_up_j _ _ _ (by decide), py_up_s], py_up_s _ _ _ _⟩, (((py_fr.rf [] [(5, 2), (5, 3), (5, 4)] σ).ut (by decide) _).ut (by decide) _)⟩
/-- the value of k figures from a on -/
def py_dv (B : Nat → Nat) (a : Nat) : Nat → Nat
  | 0 => 0
  | k + 1 => py_dv B a k * 10 + (B (a + k) - 48)
theorem py_dv_lt {B : Nat → Nat} {N a : Nat} : ∀ {k : Nat}, (∀ i, i < k → py_isd B N (a + i) = true) → py_dv B a k < 10 ^ k
  | 0, _ => Nat.one_pos
  | k + 1, h => by
    have ih := py_dv_lt (k := k) (fun i hi => h i (by omega))
    have h1 := (py_isd_iff B N (a + k)).mp (h k (by omega))
    show py_dv B a k * 10 + (B (a + k) - 48) < 10 ^ (k + 1)
    rw [Nat.pow_succ]
    omega
theorem py_run_k {B : Nat → Nat} {N : Nat} (hN : N ≤ 100) : ∀ {k a : Nat}, (∀ i, i < k → py_isd B N (a + i) = true) → py_run B N a = k + py_run B N (a + k)
  | 0, a, _ => by rw [Nat.zero_add, Nat.add_zero]
  | k + 1, a, h => by
    have h0 := h 0 (by omega)
    rw [Nat.add_zero] at h0
    have ih := py_run_k hN (k := k) (a := a + 1) (fun i hi => by rw [show a + 1 + i = a + (i + 1) by omega]; exact h (i + 1) (by omega))
    rw [py_run_t hN h0, ih, show a + (k + 1) = a + 1 + k by omega]
    omega
theorem py_nx_fig {B : Nat → Nat} {N a : Nat} (hB : ∀ i, i < N → B i ≤ 255) : (48 ≤ (py_nx B N a).toInt ∧ (py_nx B N a).toInt ≤ 57) ↔ py_isd B N a = true := by
  rw [py_isd_iff]
  unfold py_nx
  by_cases h : a < N
  · have := hB a h
    rw [if_pos h, nI_toInt (by omega)]
    omega
  · rw [if_neg h]
    have e3 : (-1 : Int32).toInt = -1 := by decide
    omega
set_option maxHeartbeats 4000000 in
set_option maxRecDepth 100000 in
theorem ev_takeNum {X : py_X} {σ : py_H} {B : Nat → Nat} {N a : Nat} (ht : py_tc σ B N) (ha : σ 5 2 = nI a) (haN : a ≤ N) {lo hi9 : Int32} {lo9 hi8 : Nat} (hlo : lo.toInt = (lo9 : Int)) (hhi : hi9.toInt = (hi8 : Int)) : py_Ev X 1 yX6_takeNumber cX6_takeNumber 6 (some .int) [.ref 5, .int (lo), .int (hi9)] σ (py_vs (some (.int (py_rv (py_num B N a lo9 hi8)))) (fun s => py_ps s (py_num B N a lo9 hi8) ∧ py_fr [] [(5, 2), (5, 3), (5, 4)] σ s)) := by
  obtain ⟨t1, t2, t3⟩ := id ht
  have hN := t2
  have hB : ∀ i, i < N → B i ≤ 255 := fun i hi => (t3 i hi).2
  refine py_ofI (own := RX6) YX6_takeNumber.2.2.2.2 rfl rfl (Nat.le_of_ble_eq_true rfl)  ?_
  show py_Go X RX6 cX6_takeNumber 6 1 0 [some (.ref 5), some (.int (lo)), some (.int (hi9)), none, none, none] [] σ (py_vs (some (.int (py_rv (py_num B N a lo9 hi8)))) (fun s => py_ps s (py_num B N a lo9 hi8) ∧ py_fr [] [(5, 2), (5, 3), (5, 4)] σ s))
  have loop : ∀ k, k ≤ 3 → ∀ s, (∀ i, i < k → py_isd B N (a + i) = true) → a + k ≤ N → s 5 2 = nI (a + k) → py_fr [] [(5, 2), (5, 3), (5, 4)] σ s → py_Go X RX6 cX6_takeNumber 6 1 8 [some (.ref 5), some (.int (lo)), some (.int (hi9)), some (.int (nI a)), some (.int (nI (py_dv B a k))), none] [] s (py_vs (some (.int (py_rv (py_num B N a lo9 hi8)))) (fun s => py_ps s (py_num B N a lo9 hi8) ∧ py_fr [] [(5, 2), (5, 3), (5, 4)] σ s)) := by
    refine py_loop _ (3) (fun k hi ih s hdg hakN hat hs => ?_)
    have hk3 := hi
    have hts := py_tc_fr hs (by decide) (by decide) (by decide) (by decide) ht
    refine go_aload_n (pc := 8) dX6_takeNumber_8 rfl ?_
    refine go_getI (x := (nI (a + k))) (pc := 9) dX6_takeNumber_9 fX6_19 rfl rfl hat ?_
    refine go_aload_n (pc := 12) dX6_takeNumber_12 rfl ?_
    refine go_getI (x := (nI N)) (pc := 13) dX6_takeNumber_13 fX6_15 rfl rfl hts.1 ?_
    refine go_icmp_geN (tgt := 68) (pc := 16) dX6_takeNumber_16 (by omega) (by omega) (by decide) (fun c_16 => ?_) (fun c_16 => ?_)
    · have hrun : py_run B N a = k ∨ (k = 3 ∧ 3 ≤ py_run B N a) := by
        have e1 := py_run_k hN hdg
        by_cases h3 : k = 3
        · right; omega
        · left
          have e2 : ¬ py_isd B N (a + k) = true := by
            first
              | exact c_37
              | (intro z; have z2 := (py_isd_iff B N (a + k)).mp z; omega)
          have e3 := py_run_f e2
          omega
      have hdvl := py_dv_lt (B := B) (N := N) (a := a) (k := k) hdg
      have h10k : 10 ^ k ≤ 10 ^ 3 := Nat.pow_le_pow_right (by decide) hk3
      refine go_aload_n (pc := 68) dX6_takeNumber_68 rfl ?_
      refine go_getI (x := (nI (a + k))) (pc := 69) dX6_takeNumber_69 fX6_19 rfl rfl hat ?_
      refine go_iload_n (pc := 72) dX6_takeNumber_72 rfl ?_
      refine go_isubN (pc := 73) dX6_takeNumber_73 (by omega) ?_
      refine go_istore (pc := 74) dX6_takeNumber_74 (by decide) rfl ?_
      refine go_iload (pc := 76) dX6_takeNumber_76 rfl ?_
      refine go_iconst (v := nI 1) (pc := 78) dX6_takeNumber_78 (by decide) ?_
      refine go_icmp_ltN (tgt := 88) (pc := 79) dX6_takeNumber_79 (by omega) (by omega) (by decide) (fun c_79 => ?_) (fun c_79 => ?_)
      · refine go_aload_n (pc := 88) dX6_takeNumber_88 rfl ?_
        refine go_iload_n (pc := 89) dX6_takeNumber_89 rfl ?_
        refine go_iconst (v := nI 1) (pc := 90) dX6_takeNumber_90 (by decide) ?_
        refine go_cVi (pc := 91) dX6_takeNumber_91 ev_failAt lX6_65 YX6_failAt VX6_failAt rfl rfl rfl (by decide) rfl (Nat.le_of_ble_eq_true rfl) (fun s1 e1 => ?_)
        subst e1
        refine go_pop (pc := 94) dX6_takeNumber_94 rfl ?_
        refine go_iconst (v := -1) (pc := 95) dX6_takeNumber_95 (by decide) ?_
        have hr : py_num B N a lo9 hi8 = .inl (a, 1) := by unfold py_num; rw [if_neg (by omega)]
        exact go_retI (pc := 96) dX6_takeNumber_96 (by rw [hr]; rfl) ⟨by rw [hr]; exact ⟨by rw [py_up_j _ _ _ (by decide), py_up_s], py_up_s _ _ _ _⟩, ((hs.ut (by decide) _).ut (by decide) _)⟩
      · refine go_iload (pc := 82) dX6_takeNumber_82 rfl ?_
        refine go_iconst (v := nI 2) (pc := 84) dX6_takeNumber_84 (by decide) ?_
        refine go_icmp_leN (tgt := 97) (pc := 85) dX6_takeNumber_85 (by omega) (by omega) (by decide) (fun c_85 => ?_) (fun c_85 => ?_)
        · refine go_iload (pc := 97) dX6_takeNumber_97 rfl ?_
          refine go_iload_n (pc := 99) dX6_takeNumber_99 rfl ?_
          refine go_iload_n (pc := 100) dX6_takeNumber_100 rfl ?_
          refine go_cN (pc := 101) dX6_takeNumber_101 ev_isWithin nX6_97 YX7_isWithin SX7_isWithin rfl (by decide) rfl (Nat.le_of_ble_eq_true rfl) ?_
          refine go_if_neB (tgt := 116) (pc := 104) dX6_takeNumber_104 (by decide) (fun c_104 => ?_) (fun c_104 => ?_)
          · refine go_iload (pc := 116) dX6_takeNumber_116 rfl ?_
            have hnv : py_nv B N a = py_dv B a k := by
              unfold py_nv
              rcases (show k = 1 ∨ k = 2 by omega) with e | e
              · subst e; rw [if_pos (by omega)]; show _ = 0 * 10 + (B (a + 0) - 48); have e0 : B (a + 0) = B a := rfl; omega
              · subst e; rw [if_neg (by omega)]; show _ = (0 * 10 + (B (a + 0) - 48)) * 10 + (B (a + 1) - 48); have e0 : B (a + 0) = B a := rfl; omega
            have hr : py_num B N a lo9 hi8 = .inr (a + py_run B N a, py_nv B N a) := by unfold py_num; rw [if_pos (by omega), if_pos (by rw [hnv]; rw [nI_toInt (by omega), hlo, hhi] at c_104; omega)]
            exact go_retI (pc := 118) dX6_takeNumber_118 (by rw [hr]; show nI _ = nI (py_nv B N a); rw [hnv]) ⟨by rw [hr]; show s 5 2 = nI (a + py_run B N a); rw [hat, show py_run B N a = k by omega], hs⟩
          · refine go_aload_n (pc := 107) dX6_takeNumber_107 rfl ?_
            refine go_iload_n (pc := 108) dX6_takeNumber_108 rfl ?_
            refine go_iconst (v := nI 2) (pc := 109) dX6_takeNumber_109 (by decide) ?_
            refine go_cVi (pc := 110) dX6_takeNumber_110 ev_failAt lX6_65 YX6_failAt VX6_failAt rfl rfl rfl (by decide) rfl (Nat.le_of_ble_eq_true rfl) (fun s1 e1 => ?_)
            subst e1
            refine go_pop (pc := 113) dX6_takeNumber_113 rfl ?_
            refine go_iconst (v := -1) (pc := 114) dX6_takeNumber_114 (by decide) ?_
            have hnv : py_nv B N a = py_dv B a k := by
              unfold py_nv
              rcases (show k = 1 ∨ k = 2 by omega) with e | e
              · subst e; rw [if_pos (by omega)]; show _ = 0 * 10 + (B (a + 0) - 48); have e0 : B (a + 0) = B a := rfl; omega
              · subst e; rw [if_neg (by omega)]; show _ = (0 * 10 + (B (a + 0) - 48)) * 10 + (B (a + 1) - 48); have e0 : B (a + 0) = B a := rfl; omega
            have hr : py_num B N a lo9 hi8 = .inl (a, 2) := by unfold py_num; rw [if_pos (by omega), if_neg (by rw [hnv]; rw [nI_toInt (by omega), hlo, hhi] at c_104; omega)]
            exact go_retI (pc := 115) dX6_takeNumber_115 (by rw [hr]; rfl) ⟨by rw [hr]; exact ⟨by rw [py_up_j _ _ _ (by decide), py_up_s], py_up_s _ _ _ _⟩, ((hs.ut (by decide) _).ut (by decide) _)⟩
        · refine go_aload_n (pc := 88) dX6_takeNumber_88 rfl ?_
          refine go_iload_n (pc := 89) dX6_takeNumber_89 rfl ?_
          refine go_iconst (v := nI 1) (pc := 90) dX6_takeNumber_90 (by decide) ?_
          refine go_cVi (pc := 91) dX6_takeNumber_91 ev_failAt lX6_65 YX6_failAt VX6_failAt rfl rfl rfl (by decide) rfl (Nat.le_of_ble_eq_true rfl) (fun s1 e1 => ?_)
          subst e1
          refine go_pop (pc := 94) dX6_takeNumber_94 rfl ?_
          refine go_iconst (v := -1) (pc := 95) dX6_takeNumber_95 (by decide) ?_
          have hr : py_num B N a lo9 hi8 = .inl (a, 1) := by unfold py_num; rw [if_neg (by omega)]
          exact go_retI (pc := 96) dX6_takeNumber_96 (by rw [hr]; rfl) ⟨by rw [hr]; exact ⟨by rw [py_up_j _ _ _ (by decide), py_up_s], py_up_s _ _ _ _⟩, ((hs.ut (by decide) _).ut (by decide) _)⟩
    · refine go_aload_n (pc := 19) dX6_takeNumber_19 rfl ?_
      refine go_getI (x := (nI (a + k))) (pc := 20) dX6_takeNumber_20 fX6_19 rfl rfl hat ?_
      refine go_iload_n (pc := 23) dX6_takeNumber_23 rfl ?_
      refine go_iconst (v := nI 3) (pc := 24) dX6_takeNumber_24 (by decide) ?_
      refine go_iaddN (pc := 25) dX6_takeNumber_25  ?_
      refine go_icmp_geN (tgt := 68) (pc := 26) dX6_takeNumber_26 (by omega) (by omega) (by decide) (fun c_26 => ?_) (fun c_26 => ?_)
      · have hrun : py_run B N a = k ∨ (k = 3 ∧ 3 ≤ py_run B N a) := by
          have e1 := py_run_k hN hdg
          by_cases h3 : k = 3
          · right; omega
          · left
            have e2 : ¬ py_isd B N (a + k) = true := by
              first
                | exact c_37
                | (intro z; have z2 := (py_isd_iff B N (a + k)).mp z; omega)
            have e3 := py_run_f e2
            omega
        have hdvl := py_dv_lt (B := B) (N := N) (a := a) (k := k) hdg
        have h10k : 10 ^ k ≤ 10 ^ 3 := Nat.pow_le_pow_right (by decide) hk3
        refine go_aload_n (pc := 68) dX6_takeNumber_68 rfl ?_
        refine go_getI (x := (nI (a + k))) (pc := 69) dX6_takeNumber_69 fX6_19 rfl rfl hat ?_
        refine go_iload_n (pc := 72) dX6_takeNumber_72 rfl ?_
        refine go_isubN (pc := 73) dX6_takeNumber_73 (by omega) ?_
        refine go_istore (pc := 74) dX6_takeNumber_74 (by decide) rfl ?_
        refine go_iload (pc := 76) dX6_takeNumber_76 rfl ?_
        refine go_iconst (v := nI 1) (pc := 78) dX6_takeNumber_78 (by decide) ?_
        refine go_icmp_ltN (tgt := 88) (pc := 79) dX6_takeNumber_79 (by omega) (by omega) (by decide) (fun c_79 => ?_) (fun c_79 => ?_)
        · refine go_aload_n (pc := 88) dX6_takeNumber_88 rfl ?_
          refine go_iload_n (pc := 89) dX6_takeNumber_89 rfl ?_
          refine go_iconst (v := nI 1) (pc := 90) dX6_takeNumber_90 (by decide) ?_
          refine go_cVi (pc := 91) dX6_takeNumber_91 ev_failAt lX6_65 YX6_failAt VX6_failAt rfl rfl rfl (by decide) rfl (Nat.le_of_ble_eq_true rfl) (fun s1 e1 => ?_)
          subst e1
          refine go_pop (pc := 94) dX6_takeNumber_94 rfl ?_
          refine go_iconst (v := -1) (pc := 95) dX6_takeNumber_95 (by decide) ?_
          have hr : py_num B N a lo9 hi8 = .inl (a, 1) := by unfold py_num; rw [if_neg (by omega)]
          exact go_retI (pc := 96) dX6_takeNumber_96 (by rw [hr]; rfl) ⟨by rw [hr]; exact ⟨by rw [py_up_j _ _ _ (by decide), py_up_s], py_up_s _ _ _ _⟩, ((hs.ut (by decide) _).ut (by decide) _)⟩
        · refine go_iload (pc := 82) dX6_takeNumber_82 rfl ?_
          refine go_iconst (v := nI 2) (pc := 84) dX6_takeNumber_84 (by decide) ?_
          refine go_icmp_leN (tgt := 97) (pc := 85) dX6_takeNumber_85 (by omega) (by omega) (by decide) (fun c_85 => ?_) (fun c_85 => ?_)
          · refine go_iload (pc := 97) dX6_takeNumber_97 rfl ?_
            refine go_iload_n (pc := 99) dX6_takeNumber_99 rfl ?_
            refine go_iload_n (pc := 100) dX6_takeNumber_100 rfl ?_
            refine go_cN (pc := 101) dX6_takeNumber_101 ev_isWithin nX6_97 YX7_isWithin SX7_isWithin rfl (by decide) rfl (Nat.le_of_ble_eq_true rfl) ?_
            refine go_if_neB (tgt := 116) (pc := 104) dX6_takeNumber_104 (by decide) (fun c_104 => ?_) (fun c_104 => ?_)
            · refine go_iload (pc := 116) dX6_takeNumber_116 rfl ?_
              have hnv : py_nv B N a = py_dv B a k := by
                unfold py_nv
                rcases (show k = 1 ∨ k = 2 by omega) with e | e
                · subst e; rw [if_pos (by omega)]; show _ = 0 * 10 + (B (a + 0) - 48); have e0 : B (a + 0) = B a := rfl; omega
                · subst e; rw [if_neg (by omega)]; show _ = (0 * 10 + (B (a + 0) - 48)) * 10 + (B (a + 1) - 48); have e0 : B (a + 0) = B a := rfl; omega
              have hr : py_num B N a lo9 hi8 = .inr (a + py_run B N a, py_nv B N a) := by unfold py_num; rw [if_pos (by omega), if_pos (by rw [hnv]; rw [nI_toInt (by omega), hlo, hhi] at c_104; omega)]
              exact go_retI (pc := 118) dX6_takeNumber_118 (by rw [hr]; show nI _ = nI (py_nv B N a); rw [hnv]) ⟨by rw [hr]; show s 5 2 = nI (a + py_run B N a); rw [hat, show py_run B N a = k by omega], hs⟩
            · refine go_aload_n (pc := 107) dX6_takeNumber_107 rfl ?_
              refine go_iload_n (pc := 108) dX6_takeNumber_108 rfl ?_
              refine go_iconst (v := nI 2) (pc := 109) dX6_takeNumber_109 (by decide) ?_
              refine go_cVi (pc := 110) dX6_takeNumber_110 ev_failAt lX6_65 YX6_failAt VX6_failAt rfl rfl rfl (by decide) rfl (Nat.le_of_ble_eq_true rfl) (fun s1 e1 => ?_)
              subst e1
              refine go_pop (pc := 113) dX6_takeNumber_113 rfl ?_
              refine go_iconst (v := -1) (pc := 114) dX6_takeNumber_114 (by decide) ?_
              have hnv : py_nv B N a = py_dv B a k := by
                unfold py_nv
                rcases (show k = 1 ∨ k = 2 by omega) with e | e
                · subst e; rw [if_pos (by omega)]; show _ = 0 * 10 + (B (a + 0) - 48); have e0 : B (a + 0) = B a := rfl; omega
                · subst e; rw [if_neg (by omega)]; show _ = (0 * 10 + (B (a + 0) - 48)) * 10 + (B (a + 1) - 48); have e0 : B (a + 0) = B a := rfl; omega
              have hr : py_num B N a lo9 hi8 = .inl (a, 2) := by unfold py_num; rw [if_pos (by omega), if_neg (by rw [hnv]; rw [nI_toInt (by omega), hlo, hhi] at c_104; omega)]
              exact go_retI (pc := 115) dX6_takeNumber_115 (by rw [hr]; rfl) ⟨by rw [hr]; exact ⟨by rw [py_up_j _ _ _ (by decide), py_up_s], py_up_s _ _ _ _⟩, ((hs.ut (by decide) _).ut (by decide) _)⟩
          · refine go_aload_n (pc := 88) dX6_takeNumber_88 rfl ?_
            refine go_iload_n (pc := 89) dX6_takeNumber_89 rfl ?_
            refine go_iconst (v := nI 1) (pc := 90) dX6_takeNumber_90 (by decide) ?_
            refine go_cVi (pc := 91) dX6_takeNumber_91 ev_failAt lX6_65 YX6_failAt VX6_failAt rfl rfl rfl (by decide) rfl (Nat.le_of_ble_eq_true rfl) (fun s1 e1 => ?_)
            subst e1
            refine go_pop (pc := 94) dX6_takeNumber_94 rfl ?_
            refine go_iconst (v := -1) (pc := 95) dX6_takeNumber_95 (by decide) ?_
            have hr : py_num B N a lo9 hi8 = .inl (a, 1) := by unfold py_num; rw [if_neg (by omega)]
            exact go_retI (pc := 96) dX6_takeNumber_96 (by rw [hr]; rfl) ⟨by rw [hr]; exact ⟨by rw [py_up_j _ _ _ (by decide), py_up_s], py_up_s _ _ _ _⟩, ((hs.ut (by decide) _).ut (by decide) _)⟩
      · refine go_aload_n (pc := 29) dX6_takeNumber_29 rfl ?_
        refine go_aload_n (pc := 30) dX6_takeNumber_30 rfl ?_
        refine go_cV (pc := 31) dX6_takeNumber_31 (ev_next hts hat (by omega)) lX6_55 YX6_next VX6_next rfl rfl rfl (by decide) rfl (Nat.le_of_ble_eq_true rfl) ?_
        refine go_cV (pc := 34) dX6_takeNumber_34 ev_isFigure lX6_94 YX6_isFigure VX6_isFigure rfl rfl rfl (by decide) rfl (Nat.le_of_ble_eq_true rfl) ?_
        refine go_top (y := py_b (py_isd B N (a + k) = true)) (py_b_c (py_nx_fig hB)) ?_
        refine go_if_eqB (tgt := 68) (pc := 37) dX6_takeNumber_37 (by decide) (fun c_37 => ?_) (fun c_37 => ?_)
        · have hrun : py_run B N a = k ∨ (k = 3 ∧ 3 ≤ py_run B N a) := by
            have e1 := py_run_k hN hdg
            by_cases h3 : k = 3
            · right; omega
            · left
              have e2 : ¬ py_isd B N (a + k) = true := by
                first
                  | exact c_37
                  | (intro z; have z2 := (py_isd_iff B N (a + k)).mp z; omega)
              have e3 := py_run_f e2
              omega
          have hdvl := py_dv_lt (B := B) (N := N) (a := a) (k := k) hdg
          have h10k : 10 ^ k ≤ 10 ^ 3 := Nat.pow_le_pow_right (by decide) hk3
          refine go_aload_n (pc := 68) dX6_takeNumber_68 rfl ?_
          refine go_getI (x := (nI (a + k))) (pc := 69) dX6_takeNumber_69 fX6_19 rfl rfl hat ?_
          refine go_iload_n (pc := 72) dX6_takeNumber_72 rfl ?_
          refine go_isubN (pc := 73) dX6_takeNumber_73 (by omega) ?_
          refine go_istore (pc := 74) dX6_takeNumber_74 (by decide) rfl ?_
          refine go_iload (pc := 76) dX6_takeNumber_76 rfl ?_
          refine go_iconst (v := nI 1) (pc := 78) dX6_takeNumber_78 (by decide) ?_
          refine go_icmp_ltN (tgt := 88) (pc := 79) dX6_takeNumber_79 (by omega) (by omega) (by decide) (fun c_79 => ?_) (fun c_79 => ?_)
          · refine go_aload_n (pc := 88) dX6_takeNumber_88 rfl ?_
            refine go_iload_n (pc := 89) dX6_takeNumber_89 rfl ?_
            refine go_iconst (v := nI 1) (pc := 90) dX6_takeNumber_90 (by decide) ?_
            refine go_cVi (pc := 91) dX6_takeNumber_91 ev_failAt lX6_65 YX6_failAt VX6_failAt rfl rfl rfl (by decide) rfl (Nat.le_of_ble_eq_true rfl) (fun s1 e1 => ?_)
            subst e1
            refine go_pop (pc := 94) dX6_takeNumber_94 rfl ?_
            refine go_iconst (v := -1) (pc := 95) dX6_takeNumber_95 (by decide) ?_
            have hr : py_num B N a lo9 hi8 = .inl (a, 1) := by unfold py_num; rw [if_neg (by omega)]
            exact go_retI (pc := 96) dX6_takeNumber_96 (by rw [hr]; rfl) ⟨by rw [hr]; exact ⟨by rw [py_up_j _ _ _ (by decide), py_up_s], py_up_s _ _ _ _⟩, ((hs.ut (by decide) _).ut (by decide) _)⟩
          · refine go_iload (pc := 82) dX6_takeNumber_82 rfl ?_
            refine go_iconst (v := nI 2) (pc := 84) dX6_takeNumber_84 (by decide) ?_
            refine go_icmp_leN (tgt := 97) (pc := 85) dX6_takeNumber_85 (by omega) (by omega) (by decide) (fun c_85 => ?_) (fun c_85 => ?_)
            · refine go_iload (pc := 97) dX6_takeNumber_97 rfl ?_
              refine go_iload_n (pc := 99) dX6_takeNumber_99 rfl ?_
              refine go_iload_n (pc := 100) dX6_takeNumber_100 rfl ?_
              refine go_cN (pc := 101) dX6_takeNumber_101 ev_isWithin nX6_97 YX7_isWithin SX7_isWithin rfl (by decide) rfl (Nat.le_of_ble_eq_true rfl) ?_
              refine go_if_neB (tgt := 116) (pc := 104) dX6_takeNumber_104 (by decide) (fun c_104 => ?_) (fun c_104 => ?_)
              · refine go_iload (pc := 116) dX6_takeNumber_116 rfl ?_
                have hnv : py_nv B N a = py_dv B a k := by
                  unfold py_nv
                  rcases (show k = 1 ∨ k = 2 by omega) with e | e
                  · subst e; rw [if_pos (by omega)]; show _ = 0 * 10 + (B (a + 0) - 48); have e0 : B (a + 0) = B a := rfl; omega
                  · subst e; rw [if_neg (by omega)]; show _ = (0 * 10 + (B (a + 0) - 48)) * 10 + (B (a + 1) - 48); have e0 : B (a + 0) = B a := rfl; omega
                have hr : py_num B N a lo9 hi8 = .inr (a + py_run B N a, py_nv B N a) := by unfold py_num; rw [if_pos (by omega), if_pos (by rw [hnv]; rw [nI_toInt (by omega), hlo, hhi] at c_104; omega)]
                exact go_retI (pc := 118) dX6_takeNumber_118 (by rw [hr]; show nI _ = nI (py_nv B N a); rw [hnv]) ⟨by rw [hr]; show s 5 2 = nI (a + py_run B N a); rw [hat, show py_run B N a = k by omega], hs⟩
              · refine go_aload_n (pc := 107) dX6_takeNumber_107 rfl ?_
                refine go_iload_n (pc := 108) dX6_takeNumber_108 rfl ?_
                refine go_iconst (v := nI 2) (pc := 109) dX6_takeNumber_109 (by decide) ?_
                refine go_cVi (pc := 110) dX6_takeNumber_110 ev_failAt lX6_65 YX6_failAt VX6_failAt rfl rfl rfl (by decide) rfl (Nat.le_of_ble_eq_true rfl) (fun s1 e1 => ?_)
                subst e1
                refine go_pop (pc := 113) dX6_takeNumber_113 rfl ?_
                refine go_iconst (v := -1) (pc := 114) dX6_takeNumber_114 (by decide) ?_
                have hnv : py_nv B N a = py_dv B a k := by
                  unfold py_nv
                  rcases (show k = 1 ∨ k = 2 by omega) with e | e
                  · subst e; rw [if_pos (by omega)]; show _ = 0 * 10 + (B (a + 0) - 48); have e0 : B (a + 0) = B a := rfl; omega
                  · subst e; rw [if_neg (by omega)]; show _ = (0 * 10 + (B (a + 0) - 48)) * 10 + (B (a + 1) - 48); have e0 : B (a + 0) = B a := rfl; omega
                have hr : py_num B N a lo9 hi8 = .inl (a, 2) := by unfold py_num; rw [if_pos (by omega), if_neg (by rw [hnv]; rw [nI_toInt (by omega), hlo, hhi] at c_104; omega)]
                exact go_retI (pc := 115) dX6_takeNumber_115 (by rw [hr]; rfl) ⟨by rw [hr]; exact ⟨by rw [py_up_j _ _ _ (by decide), py_up_s], py_up_s _ _ _ _⟩, ((hs.ut (by decide) _).ut (by decide) _)⟩
            · refine go_aload_n (pc := 88) dX6_takeNumber_88 rfl ?_
              refine go_iload_n (pc := 89) dX6_takeNumber_89 rfl ?_
              refine go_iconst (v := nI 1) (pc := 90) dX6_takeNumber_90 (by decide) ?_
              refine go_cVi (pc := 91) dX6_takeNumber_91 ev_failAt lX6_65 YX6_failAt VX6_failAt rfl rfl rfl (by decide) rfl (Nat.le_of_ble_eq_true rfl) (fun s1 e1 => ?_)
              subst e1
              refine go_pop (pc := 94) dX6_takeNumber_94 rfl ?_
              refine go_iconst (v := -1) (pc := 95) dX6_takeNumber_95 (by decide) ?_
              have hr : py_num B N a lo9 hi8 = .inl (a, 1) := by unfold py_num; rw [if_neg (by omega)]
              exact go_retI (pc := 96) dX6_takeNumber_96 (by rw [hr]; rfl) ⟨by rw [hr]; exact ⟨by rw [py_up_j _ _ _ (by decide), py_up_s], py_up_s _ _ _ _⟩, ((hs.ut (by decide) _).ut (by decide) _)⟩
        · have hfig := c_37
          have hdvs := py_dv_lt (B := B) (N := N) (a := a) (k := k) hdg
          have h10k : 10 ^ k ≤ 10 ^ 3 := Nat.pow_le_pow_right (by decide) hk3
          refine go_iload (pc := 40) dX6_takeNumber_40 rfl ?_
          refine go_bipush (v := nI 10) (pc := 42) dX6_takeNumber_42 (by decide) ?_
          refine go_imulN (pc := 44) dX6_takeNumber_44  ?_
          refine go_aload_n (pc := 45) dX6_takeNumber_45 rfl ?_
          refine go_cV (pc := 46) dX6_takeNumber_46 (ev_next hts hat (by omega)) lX6_55 YX6_next VX6_next rfl rfl rfl (by decide) rfl (Nat.le_of_ble_eq_true rfl) ?_
          have hbd := (py_isd_iff B N (a + k)).mp hfig
          refine go_top (y := nI (B (a + k))) (by unfold py_nx; rw [if_pos (by omega)]) ?_
          refine go_iaddN (pc := 49) dX6_takeNumber_49  ?_
          refine go_bipush (v := nI 48) (pc := 50) dX6_takeNumber_50 (by decide) ?_
          refine go_isubN (pc := 52) dX6_takeNumber_52 (by omega) ?_
          refine go_istore (pc := 53) dX6_takeNumber_53 (by decide) rfl ?_
          refine go_aload_n (pc := 55) dX6_takeNumber_55 rfl ?_
          refine go_dup (pc := 56) dX6_takeNumber_56 rfl ?_
          refine go_getI (x := (nI (a + k))) (pc := 57) dX6_takeNumber_57 fX6_19 rfl rfl hat ?_
          refine go_iconst (v := nI 1) (pc := 60) dX6_takeNumber_60 (by decide) ?_
          refine go_iaddN (pc := 61) dX6_takeNumber_61  ?_
          refine go_putI (pc := 62) dX6_takeNumber_62 fX6_19 rfl rfl ?_
          refine go_goto (tgt := 8) (pc := 65) dX6_takeNumber_65 (by decide) ?_
          have hdg2 : ∀ i, i < k + 1 → py_isd B N (a + i) = true := fun i hi => by
            by_cases hik : i = k
            · subst hik; exact hfig
            · exact hdg i (by omega)
          have hs2 := hs.ut (k := 5) (j := 2) (by decide) (nI ((a + k) + 1))
          have e8 := ih (by omega) (py_up s 5 2 (nI ((a + k) + 1))) hdg2 (by omega) (py_up_s _ _ _ _) hs2
          rw [show py_dv B a (k + 1) = (((py_dv B a k) * 10) + (B (a + k))) - 48 by show py_dv B a k * 10 + (B (a + k) - 48) = _; omega] at e8
          exact e8
  refine go_aload_n (pc := 0) dX6_takeNumber_0 rfl ?_
  refine go_getI (x := (nI a)) (pc := 1) dX6_takeNumber_1 fX6_19 rfl rfl ha ?_
  refine go_istore_n (pc := 4) dX6_takeNumber_4 (by decide) rfl ?_
  refine go_iconst (v := nI 0) (pc := 5) dX6_takeNumber_5 (by decide) ?_
  refine go_istore (pc := 6) dX6_takeNumber_6 (by decide) rfl ?_
  exact loop 0 (Nat.zero_le _) σ (fun i hi => absurd hi (Nat.not_lt_zero i)) haN ha (py_fr.rf _ _ σ)
theorem py_hd_tp {σ s : py_H} {H : Nat → Nat} (hf : py_fr [] [(5, 2), (5, 3), (5, 4)] σ s) (hc : py_hd σ 14 H) : py_hd s 14 H := py_hd_fr hf (by decide) (by decide) hc
theorem py_hd_law {s : py_H} (hc : py_hd s 14 (fun _ => 0)) (r q : Nat) : py_hd (py_up (py_up s 14 1 (nI r)) 14 2 (nI q)) 14 (py_law r q) := by
  obtain ⟨c1, c2, c3, c4, c5, c6, c7⟩ := hc
  refine ⟨?_, ?_, ?_, ?_, ?_, fun w hw => absurd hw (Nat.not_lt_zero w), fun p hp => absurd hp (Nat.not_lt_zero p)⟩
  · rw [py_up_j _ _ _ (by decide), py_up_s]; rfl
  · rw [py_up_s]; rfl
  · rw [py_up_j _ _ _ (by decide), py_up_j _ _ _ (by decide)]; exact c3
  · rw [py_up_j _ _ _ (by decide), py_up_j _ _ _ (by decide)]; exact c4
  · rw [py_up_j _ _ _ (by decide), py_up_j _ _ _ (by decide)]; exact c5
set_option maxHeartbeats 4000000 in
set_option maxRecDepth 100000 in
theorem ev_readLaw {X : py_X} {σ : py_H} {B : Nat → Nat} {N : Nat} (ht : py_tc σ B N) (ha : σ 5 2 = nI 0) (hc : py_hd σ 14 (fun _ => 0)) : py_Ev X 2 yX6_readLaw cX6_readLaw 2 (some .boolean) [.ref 5, .ref 14] σ (py_vs (some (.int (py_b (py_isok (py_plaw B N) = true)))) (fun s => py_ps s (py_plaw B N) ∧ (∀ a H, py_plaw B N = .inr (a, H) → py_hd s 14 H) ∧ py_fr [] [(5, 2), (5, 3), (5, 4), (14, 1), (14, 2)] σ s)) := by
  have hN := ht.2.1
  have ht0 := ht
  have hat0 := ha
  have haN0 : 0 ≤ N := Nat.zero_le N
  have hs0 := py_fr.rf [] [(5, 2), (5, 3), (5, 4), (14, 1), (14, 2)] σ
  have hd0 := hc
  refine py_ofZ (own := RX6) YX6_readLaw.2.2.2.2 rfl rfl (Nat.le_of_ble_eq_true rfl) py_b_ok ?_
  show py_Go X RX6 cX6_readLaw 2 2 0 [some (.ref 5), some (.ref 14)] [] σ (py_vs (some (.int (py_b (py_isok (py_plaw B N) = true)))) (fun s => py_ps s (py_plaw B N) ∧ (∀ a H, py_plaw B N = .inr (a, H) → py_hd s 14 H) ∧ py_fr [] [(5, 2), (5, 3), (5, 4), (14, 1), (14, 2)] σ s))
  refine go_aload_n (pc := 0) dX6_readLaw_0 rfl ?_
  refine go_bipush (v := nI 103) (pc := 1) dX6_readLaw_1 (by decide) ?_
  refine go_cVi (pc := 3) dX6_readLaw_3 (ev_take ht0 hat0 haN0 (by decide)) lX6_41 YX6_take VX6_take rfl rfl rfl (by decide) rfl (Nat.le_of_ble_eq_true rfl) (fun s1 e1 => ?_)
  refine go_if_neB (tgt := 11) (pc := 6) dX6_readLaw_6 (by decide) (fun c_6 => ?_) (fun c_6 => ?_)
  · obtain ⟨a1, v1, hr1⟩ := py_ok_t c_6
    have hat10 : s1 5 2 = nI a1 := by have z := e1.1; rw [hr1] at z; exact z
    have haN1 : a1 ≤ N := (py_chr_v hr1).2.1
    have hs10 : py_fr [] [(5, 2), (5, 3), (5, 4), (14, 1), (14, 2)] σ s1 := hs0.tr e1.2 (by decide) (by decide)
    have hs1 := hs10
    have hat1 := hat10
    have ht1 := py_tc_fr hs1 (by decide) (by decide) (by decide) (by decide) ht
    refine go_aload_n (pc := 11) dX6_readLaw_11 rfl ?_
    refine go_aload_n (pc := 12) dX6_readLaw_12 rfl ?_
    refine go_iconst (v := nI 1) (pc := 13) dX6_readLaw_13 (by decide) ?_
    refine go_iconst (v := nI 5) (pc := 14) dX6_readLaw_14 (by decide) ?_
    refine go_cVi (pc := 15) dX6_readLaw_15 (ev_takeNum (lo9 := 1) (hi8 := 5) ht1 hat1 haN1 (nI_toInt (by decide)) (nI_toInt (by decide))) lX6_45 YX6_takeNumber VX6_takeNumber rfl rfl rfl (by decide) rfl (Nat.le_of_ble_eq_true rfl) (fun s2 e2 => ?_)
    refine go_putI (pc := 18) dX6_readLaw_18 fX6_49 rfl rfl ?_
    refine go_aload_n (pc := 21) dX6_readLaw_21 rfl ?_
    refine go_getI (x := (py_rv (py_num B N a1 1 (5)))) (pc := 22) dX6_readLaw_22 fX6_49 rfl rfl (py_up_s _ _ _ _) ?_
    refine go_if_ltJ (tgt := 37) (pc := 25) dX6_readLaw_25 (by decide) (fun c_25 => ?_) (fun c_25 => ?_)
    · obtain ⟨p9, k9, hr2⟩ := py_rv_n c_25 (fun a v q => by have z := py_num_v hN q; omega)
      have hR : py_plaw B N = .inl (p9, k9) := by simp only [py_plaw, hr1, hr2, py_bi]
      have hp9 : s2 5 4 = nI p9 ∧ s2 5 3 = nI k9 := by have z := e2.1; rw [hr2] at z; exact z
      have hs20 : py_fr [] [(5, 2), (5, 3), (5, 4), (14, 1), (14, 2)] σ s2 := hs1.tr e2.2 (by decide) (by decide)
      have hp9b := hp9
      have hs21 := hs20.ut (k := 14) (j := 1) (by decide) (py_rv (py_num B N a1 1 (5)))
      refine go_iconst (v := nI 0) (pc := 37) dX6_readLaw_37 (by decide) ?_
      exact go_retI (pc := 38) dX6_readLaw_38 (by rw [hR]; rfl) ⟨by rw [hR]; exact ⟨by rw [py_up_k _ _ _ (by decide)]; exact hp9.1, by rw [py_up_k _ _ _ (by decide)]; exact hp9.2⟩, (fun a H q => by rw [hR] at q; cases q), hs21⟩
    · obtain ⟨a2, v2, hr2⟩ := py_rv_p c_25
      have hat20 : s2 5 2 = nI a2 := by have z := e2.1; rw [hr2] at z; exact z
      have hnv2 := py_num_v hN hr2
      have haN2 : a2 ≤ N := hnv2.2.2.2.1
      have hs20 : py_fr [] [(5, 2), (5, 3), (5, 4), (14, 1), (14, 2)] σ s2 := hs1.tr e2.2 (by decide) (by decide)
      have hv2 : py_rv (py_num B N a1 1 (5)) = nI v2 := by rw [hr2]; rfl
      rw [hv2]
      have hs2 : py_fr [] [(5, 2), (5, 3), (5, 4), (14, 1), (14, 2)] σ (py_up s2 14 1 (nI v2)) := hs20.ut (by decide) _
      have hat2 : (py_up s2 14 1 (nI v2)) 5 2 = nI a2 := by rw [py_up_k _ _ _ (by decide)]; exact hat20
      have ht2 := py_tc_fr hs2 (by decide) (by decide) (by decide) (by decide) ht
      refine go_aload_n (pc := 28) dX6_readLaw_28 rfl ?_
      refine go_bipush (v := nI 44) (pc := 29) dX6_readLaw_29 (by decide) ?_
      refine go_cVi (pc := 31) dX6_readLaw_31 (ev_take ht2 hat2 haN2 (by decide)) lX6_41 YX6_take VX6_take rfl rfl rfl (by decide) rfl (Nat.le_of_ble_eq_true rfl) (fun s3 e3 => ?_)
      refine go_if_neB (tgt := 39) (pc := 34) dX6_readLaw_34 (by decide) (fun c_34 => ?_) (fun c_34 => ?_)
      · obtain ⟨a3, v3, hr3⟩ := py_ok_t c_34
        have hat30 : s3 5 2 = nI a3 := by have z := e3.1; rw [hr3] at z; exact z
        have haN3 : a3 ≤ N := (py_chr_v hr3).2.1
        have hs30 : py_fr [] [(5, 2), (5, 3), (5, 4), (14, 1), (14, 2)] σ s3 := hs2.tr e3.2 (by decide) (by decide)
        have hs3 := hs30
        have hat3 := hat30
        have ht3 := py_tc_fr hs3 (by decide) (by decide) (by decide) (by decide) ht
        refine go_aload_n (pc := 39) dX6_readLaw_39 rfl ?_
        refine go_aload_n (pc := 40) dX6_readLaw_40 rfl ?_
        refine go_iconst (v := nI 0) (pc := 41) dX6_readLaw_41 (by decide) ?_
        refine go_bipush (v := nI 99) (pc := 42) dX6_readLaw_42 (by decide) ?_
        refine go_cVi (pc := 44) dX6_readLaw_44 (ev_takeNum (lo9 := 0) (hi8 := 99) ht3 hat3 haN3 (nI_toInt (by decide)) (nI_toInt (by decide))) lX6_45 YX6_takeNumber VX6_takeNumber rfl rfl rfl (by decide) rfl (Nat.le_of_ble_eq_true rfl) (fun s4 e4 => ?_)
        refine go_putI (pc := 47) dX6_readLaw_47 fX6_52 rfl rfl ?_
        refine go_aload_n (pc := 50) dX6_readLaw_50 rfl ?_
        refine go_getI (x := (py_rv (py_num B N a3 0 (99)))) (pc := 51) dX6_readLaw_51 fX6_52 rfl rfl (py_up_s _ _ _ _) ?_
        refine go_if_ltJ (tgt := 70) (pc := 54) dX6_readLaw_54 (by decide) (fun c_54 => ?_) (fun c_54 => ?_)
        · obtain ⟨p9, k9, hr4⟩ := py_rv_n c_54 (fun a v q => by have z := py_num_v hN q; omega)
          have hR : py_plaw B N = .inl (p9, k9) := by simp only [py_plaw, hr1, hr2, hr3, hr4, py_bi]
          have hp9 : s4 5 4 = nI p9 ∧ s4 5 3 = nI k9 := by have z := e4.1; rw [hr4] at z; exact z
          have hs40 : py_fr [] [(5, 2), (5, 3), (5, 4), (14, 1), (14, 2)] σ s4 := hs3.tr e4.2 (by decide) (by decide)
          have hp9b := hp9
          have hs41 := hs40.ut (k := 14) (j := 2) (by decide) (py_rv (py_num B N a3 0 (99)))
          refine go_iconst (v := nI 0) (pc := 70) dX6_readLaw_70 (by decide) ?_
          exact go_retI (pc := 71) dX6_readLaw_71 (by rw [hR]; rfl) ⟨by rw [hR]; exact ⟨by rw [py_up_k _ _ _ (by decide)]; exact hp9.1, by rw [py_up_k _ _ _ (by decide)]; exact hp9.2⟩, (fun a H q => by rw [hR] at q; cases q), hs41⟩
        · obtain ⟨a4, v4, hr4⟩ := py_rv_p c_54
          have hat40 : s4 5 2 = nI a4 := by have z := e4.1; rw [hr4] at z; exact z
          have hnv4 := py_num_v hN hr4
          have haN4 : a4 ≤ N := hnv4.2.2.2.1
          have hs40 : py_fr [] [(5, 2), (5, 3), (5, 4), (14, 1), (14, 2)] σ s4 := hs3.tr e4.2 (by decide) (by decide)
          have hv4 : py_rv (py_num B N a3 0 (99)) = nI v4 := by rw [hr4]; rfl
          rw [hv4]
          have hs4 : py_fr [] [(5, 2), (5, 3), (5, 4), (14, 1), (14, 2)] σ (py_up s4 14 2 (nI v4)) := hs40.ut (by decide) _
          have hat4 : (py_up s4 14 2 (nI v4)) 5 2 = nI a4 := by rw [py_up_k _ _ _ (by decide)]; exact hat40
          have ht4 := py_tc_fr hs4 (by decide) (by decide) (by decide) (by decide) ht
          refine go_aload_n (pc := 57) dX6_readLaw_57 rfl ?_
          refine go_bipush (v := nI 59) (pc := 58) dX6_readLaw_58 (by decide) ?_
          refine go_cVi (pc := 60) dX6_readLaw_60 (ev_take ht4 hat4 haN4 (by decide)) lX6_41 YX6_take VX6_take rfl rfl rfl (by decide) rfl (Nat.le_of_ble_eq_true rfl) (fun s5 e5 => ?_)
          refine go_if_eqB (tgt := 70) (pc := 63) dX6_readLaw_63 (by decide) (fun c_63 => ?_) (fun c_63 => ?_)
          · obtain ⟨p9, k9, hr5⟩ := py_ok_f c_63
            have hR : py_plaw B N = .inl (p9, k9) := by simp only [py_plaw, hr1, hr2, hr3, hr4, hr5, py_bi]
            have hp9 : s5 5 4 = nI p9 ∧ s5 5 3 = nI k9 := by have z := e5.1; rw [hr5] at z; exact z
            have hs50 : py_fr [] [(5, 2), (5, 3), (5, 4), (14, 1), (14, 2)] σ s5 := hs4.tr e5.2 (by decide) (by decide)
            refine go_iconst (v := nI 0) (pc := 70) dX6_readLaw_70 (by decide) ?_
            exact go_retI (pc := 71) dX6_readLaw_71 (by rw [hR]; rfl) ⟨by rw [hR]; exact hp9, (fun a H q => by rw [hR] at q; cases q), hs50⟩
          · obtain ⟨a5, v5, hr5⟩ := py_ok_t c_63
            have hat50 : s5 5 2 = nI a5 := by have z := e5.1; rw [hr5] at z; exact z
            have haN5 : a5 ≤ N := (py_chr_v hr5).2.1
            have hs50 : py_fr [] [(5, 2), (5, 3), (5, 4), (14, 1), (14, 2)] σ s5 := hs4.tr e5.2 (by decide) (by decide)
            have hs5 := hs50
            have hat5 := hat50
            have ht5 := py_tc_fr hs5 (by decide) (by decide) (by decide) (by decide) ht
            refine go_iconst (v := nI 1) (pc := 66) dX6_readLaw_66 (by decide) ?_
            refine go_goto (tgt := 71) (pc := 67) dX6_readLaw_67 (by decide) ?_
            have hR : py_plaw B N = .inr (a5, py_law v2 v4) := by simp only [py_plaw, hr1, hr2, hr3, hr4, hr5, py_bi]
            refine go_retI (pc := 71) dX6_readLaw_71 (by rw [hR]; rfl) ⟨by rw [hR]; exact hat5, ?_, hs5⟩
            intro a H q
            rw [hR] at q
            injection q with q
            injection q with q1 q2
            subst q2
            have f5 : ∀ j, s5 14 j = if j = 1 then nI v2 else if j = 2 then nI v4 else σ 14 j := by
              intro j
              rw [e5.2 14 j (by decide) (by intro z; simp at z), py_up_ap, e4.2 14 j (by decide) (by intro z; simp at z), e3.2 14 j (by decide) (by intro z; simp at z), py_up_ap, e2.2 14 j (by decide) (by intro z; simp at z), e1.2 14 j (by decide) (by intro z; simp at z)]
              by_cases h2 : j = 2
              · subst h2; simp
              · simp [h2]
            obtain ⟨c1, c2, c3, c4, c5, c6, c7⟩ := hc
            refine ⟨?_, ?_, ?_, ?_, ?_, fun w hw => absurd hw (Nat.not_lt_zero w), fun p hp => absurd hp (Nat.not_lt_zero p)⟩
            · rw [f5]; rfl
            · rw [f5]; rfl
            · rw [f5]; exact c3
            · rw [f5]; exact c4
            · rw [f5]; exact c5
      · obtain ⟨p9, k9, hr3⟩ := py_ok_f c_34
        have hR : py_plaw B N = .inl (p9, k9) := by simp only [py_plaw, hr1, hr2, hr3, py_bi]
        have hp9 : s3 5 4 = nI p9 ∧ s3 5 3 = nI k9 := by have z := e3.1; rw [hr3] at z; exact z
        have hs30 : py_fr [] [(5, 2), (5, 3), (5, 4), (14, 1), (14, 2)] σ s3 := hs2.tr e3.2 (by decide) (by decide)
        refine go_iconst (v := nI 0) (pc := 37) dX6_readLaw_37 (by decide) ?_
        exact go_retI (pc := 38) dX6_readLaw_38 (by rw [hR]; rfl) ⟨by rw [hR]; exact hp9, (fun a H q => by rw [hR] at q; cases q), hs30⟩
  · obtain ⟨p9, k9, hr1⟩ := py_ok_f c_6
    have hR : py_plaw B N = .inl (p9, k9) := by simp only [py_plaw, hr1, py_bi]
    have hp9 : s1 5 4 = nI p9 ∧ s1 5 3 = nI k9 := by have z := e1.1; rw [hr1] at z; exact z
    have hs10 : py_fr [] [(5, 2), (5, 3), (5, 4), (14, 1), (14, 2)] σ s1 := hs0.tr e1.2 (by decide) (by decide)
    refine go_iconst (v := nI 0) (pc := 9) dX6_readLaw_9 (by decide) ?_
    exact go_retI (pc := 10) dX6_readLaw_10 (by rw [hR]; rfl) ⟨by rw [hR]; exact hp9, (fun a H q => by rw [hR] at q; cases q), hs10⟩
