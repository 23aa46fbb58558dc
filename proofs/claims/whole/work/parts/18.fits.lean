/-! contracts: what fits; how likely; draws -/
set_option maxHeartbeats 4000000 in
set_option maxRecDepth 100000 in
theorem ev_kindsFit {X : py_X} {σ : py_H} {H : Nat → Nat} (hc : py_hd σ 7 H) (hw : py_wf H) {x n : Nat} (hx : x < H 12) (hn : n ≤ 16) : py_Ev X 4 yX5_kindsThatFit cX5_kindsThatFit 6 (some .int) [.ref 37, .ref 7, .int (nI x), .int (nI n)] σ (py_vs (some (.int (nI (py_bs (fun v => decide (1 ≤ v) && py_fit v (H (14 + 4 * x)) (H (15 + 4 * x)) (H (4 + 2 * H (16 + 4 * x))) (H (5 + 2 * H (16 + 4 * x))) (H 2) (σ 39) n) (6))))) (fun s => py_fr [38] [] σ s)) := by
  obtain ⟨w0, w1, w2, w3, w12, w03, w00, wW, wP, wR⟩ := id hw
  refine py_ofI (own := RX5) YX5_kindsThatFit.2.2.2.2 rfl rfl (Nat.le_of_ble_eq_true rfl)  ?_
  show py_Go X RX5 cX5_kindsThatFit 6 4 0 [some (.ref 37), some (.ref 7), some (.int (nI x)), some (.int (nI n)), none, none] [] σ (py_vs (some (.int (nI (py_bs (fun v => decide (1 ≤ v) && py_fit v (H (14 + 4 * x)) (H (15 + 4 * x)) (H (4 + 2 * H (16 + 4 * x))) (H (5 + 2 * H (16 + 4 * x))) (H 2) (σ 39) n) (6))))) (fun s => py_fr [38] [] σ s))
  refine go_iconst (v := nI 0) (pc := 0) dX5_kindsThatFit_0 (by decide) ?_
  refine go_istore (pc := 1) dX5_kindsThatFit_1 (by decide) rfl ?_
  refine go_aload_n (pc := 3) dX5_kindsThatFit_3 rfl ?_
  refine go_getR (pc := 4) dX5_kindsThatFit_4 fX5_12 rfl rfl ?_
  refine go_aload_n (pc := 7) dX5_kindsThatFit_7 rfl ?_
  refine go_iload_n (pc := 8) dX5_kindsThatFit_8 rfl ?_
  refine go_cVv (pc := 9) dX5_kindsThatFit_9 (ev_takeFrom hc hw hx) lX5_53 YX3_takeFrom VX3_takeFrom rfl rfl rfl (by decide) rfl (Nat.le_of_ble_eq_true rfl) (fun s1 e1 => ?_)
  obtain ⟨e2, e3⟩ := e1
  have hq := wP x hx
  have hbd := py_bd_of hw hx
  have hcs := py_hd_fr e3 (by decide) (by decide) hc
  have loop : ∀ i, i ≤ 6 → 1 ≤ i → ∀ s, (∃ K9, py_ol s K9 (H (14 + 4 * x)) (H (15 + 4 * x)) (H (4 + 2 * H (16 + 4 * x))) (H (5 + 2 * H (16 + 4 * x))) (H 2)) → py_fr [38] [] σ s → py_Go X RX5 cX5_kindsThatFit 6 4 15 [some (.ref 37), some (.ref 7), some (.int (nI x)), some (.int (nI n)), some (.int (nI (py_bs (fun v => decide (1 ≤ v) && py_fit v (H (14 + 4 * x)) (H (15 + 4 * x)) (H (4 + 2 * H (16 + 4 * x))) (H (5 + 2 * H (16 + 4 * x))) (H 2) (σ 39) n) i))), some (.int (nI i))] [] s (py_vs (some (.int (nI (py_bs (fun v => decide (1 ≤ v) && py_fit v (H (14 + 4 * x)) (H (15 + 4 * x)) (H (4 + 2 * H (16 + 4 * x))) (H (5 + 2 * H (16 + 4 * x))) (H 2) (σ 39) n) (6))))) (fun s => py_fr [38] [] σ s)) := by
    refine py_loop _ (6) (fun i hi ih hlo s hox hs => ?_)
    obtain ⟨K9, ho⟩ := hox
    have hcs2 := py_hd_fr hs (by decide) (by decide) hc
    refine go_iload (pc := 15) dX5_kindsThatFit_15 rfl ?_
    refine go_iconst (v := nI 5) (pc := 17) dX5_kindsThatFit_17 (by decide) ?_
    refine go_icmp_gtN (tgt := 57) (pc := 18) dX5_kindsThatFit_18 (by omega) (by omega) (by decide) (fun c_18 => ?_) (fun c_18 => ?_)
    · refine go_iload (pc := 57) dX5_kindsThatFit_57 rfl ?_
      exact go_retI (pc := 59) dX5_kindsThatFit_59 (by rw [show i = 6 by omega]) hs
    · refine go_aload_n (pc := 21) dX5_kindsThatFit_21 rfl ?_
      refine go_getR (pc := 22) dX5_kindsThatFit_22 fX5_12 rfl rfl ?_
      refine go_iload (pc := 25) dX5_kindsThatFit_25 rfl ?_
      refine go_putI (pc := 27) dX5_kindsThatFit_27 fX5_120 rfl rfl ?_
      refine go_iload (pc := 30) dX5_kindsThatFit_30 rfl ?_
      refine go_aload_n (pc := 32) dX5_kindsThatFit_32 rfl ?_
      refine go_iload_n (pc := 33) dX5_kindsThatFit_33 rfl ?_
      have ho2 := ho.k0 i
      have hs2 := hs.up (k := 38) (j := 0) (by decide) (nI i)
      have h39 : (py_up s 38 0 ((nI i))) 39 = σ 39 := hs2.at 39 (by decide) (by decide)
      refine go_cV (pc := 34) dX5_kindsThatFit_34 (ev_isAsTold ho2 hbd (by omega) hq.2.2.2.2.1 hn) lX5_123 YX5_isAsTold VX5_isAsTold rfl rfl rfl (by decide) rfl (Nat.le_of_ble_eq_true rfl) ?_
      refine go_top (y := py_b ((fun v => decide (1 ≤ v) && py_fit v (H (14 + 4 * x)) (H (15 + 4 * x)) (H (4 + 2 * H (16 + 4 * x))) (H (5 + 2 * H (16 + 4 * x))) (H 2) (σ 39) n) i = true)) (py_b_c (by rw [h39]; simp; omega)) ?_
      refine go_if_eqB (tgt := 47) (pc := 37) dX5_kindsThatFit_37 (by decide) (fun c_37 => ?_) (fun c_37 => ?_)
      · refine go_iconst (v := nI 0) (pc := 47) dX5_kindsThatFit_47 (by decide) ?_
        refine go_ior (pc := 48) dX5_kindsThatFit_48 ?_
        refine go_istore (pc := 49) dX5_kindsThatFit_49 (by decide) rfl ?_
        refine go_iincN (c := 1) (pc := 51) dX5_kindsThatFit_51 rfl (by decide) (by decide) rfl ?_
        refine go_goto (tgt := 15) (pc := 54) dX5_kindsThatFit_54 (by decide) ?_
        have e8 := ih (by omega) (by omega) _ ⟨_, ho2⟩ hs2
        rw [← py_bs_f (f := (fun v => decide (1 ≤ v) && py_fit v (H (14 + 4 * x)) (H (15 + 4 * x)) (H (4 + 2 * H (16 + 4 * x))) (H (5 + 2 * H (16 + 4 * x))) (H 2) (σ 39) n)) (p := i) (by simpa using c_37)] at e8
        rw [py_or0]
        exact e8
      · refine go_iconst (v := nI 1) (pc := 40) dX5_kindsThatFit_40 (by decide) ?_
        refine go_iload (pc := 41) dX5_kindsThatFit_41 rfl ?_
        refine go_ishl (pc := 43) dX5_kindsThatFit_43 ?_
        refine go_goto (tgt := 48) (pc := 44) dX5_kindsThatFit_44 (by decide) ?_
        refine go_ior (pc := 48) dX5_kindsThatFit_48 ?_
        refine go_istore (pc := 49) dX5_kindsThatFit_49 (by decide) rfl ?_
        refine go_iincN (c := 1) (pc := 51) dX5_kindsThatFit_51 rfl (by decide) (by decide) rfl ?_
        refine go_goto (tgt := 15) (pc := 54) dX5_kindsThatFit_54 (by decide) ?_
        have e8 := ih (by omega) (by omega) _ ⟨_, ho2⟩ hs2
        rw [py_or_add (py_bs_lt _ i) (by omega), py_bs_t (f := (fun v => decide (1 ≤ v) && py_fit v (H (14 + 4 * x)) (H (15 + 4 * x)) (H (4 + 2 * H (16 + 4 * x))) (H (5 + 2 * H (16 + 4 * x))) (H 2) (σ 39) n)) (p := i) c_37]
        exact e8
  refine go_iconst (v := nI 1) (pc := 12) dX5_kindsThatFit_12 (by decide) ?_
  refine go_istore (pc := 13) dX5_kindsThatFit_13 (by decide) rfl ?_
  exact loop 1 (by decide) (by decide) s1 ⟨_, e2⟩ e3
set_option maxHeartbeats 4000000 in
set_option maxRecDepth 100000 in
theorem ev_skillsFit {X : py_X} {σ : py_H} {H : Nat → Nat} (hc : py_hd σ 7 H) (hw : py_wf H) {x n : Nat} (hx : x < H 12) (hn : n ≤ 16) : py_Ev X 4 yX5_skillsThatFit cX5_skillsThatFit 6 (some .int) [.ref 37, .ref 7, .int (nI x), .int (nI n)] σ (py_vs (some (.int (nI (py_bs (fun v => decide (1 ≤ v) && py_fit (H (13 + 4 * x)) v (H (15 + 4 * x)) (H (4 + 2 * H (16 + 4 * x))) (H (5 + 2 * H (16 + 4 * x))) (H 2) (σ 39) n) (10))))) (fun s => py_fr [38] [] σ s)) := by
  obtain ⟨w0, w1, w2, w3, w12, w03, w00, wW, wP, wR⟩ := id hw
  refine py_ofI (own := RX5) YX5_skillsThatFit.2.2.2.2 rfl rfl (Nat.le_of_ble_eq_true rfl)  ?_
  show py_Go X RX5 cX5_skillsThatFit 6 4 0 [some (.ref 37), some (.ref 7), some (.int (nI x)), some (.int (nI n)), none, none] [] σ (py_vs (some (.int (nI (py_bs (fun v => decide (1 ≤ v) && py_fit (H (13 + 4 * x)) v (H (15 + 4 * x)) (H (4 + 2 * H (16 + 4 * x))) (H (5 + 2 * H (16 + 4 * x))) (H 2) (σ 39) n) (10))))) (fun s => py_fr [38] [] σ s))
  refine go_iconst (v := nI 0) (pc := 0) dX5_skillsThatFit_0 (by decide) ?_
  refine go_istore (pc := 1) dX5_skillsThatFit_1 (by decide) rfl ?_
  refine go_aload_n (pc := 3) dX5_skillsThatFit_3 rfl ?_
  refine go_getR (pc := 4) dX5_skillsThatFit_4 fX5_12 rfl rfl ?_
  refine go_aload_n (pc := 7) dX5_skillsThatFit_7 rfl ?_
  refine go_iload_n (pc := 8) dX5_skillsThatFit_8 rfl ?_
  refine go_cVv (pc := 9) dX5_skillsThatFit_9 (ev_takeFrom hc hw hx) lX5_53 YX3_takeFrom VX3_takeFrom rfl rfl rfl (by decide) rfl (Nat.le_of_ble_eq_true rfl) (fun s1 e1 => ?_)
  obtain ⟨e2, e3⟩ := e1
  have hq := wP x hx
  have hbd := py_bd_of hw hx
  have hcs := py_hd_fr e3 (by decide) (by decide) hc
  have loop : ∀ i, i ≤ 10 → 1 ≤ i → ∀ s, (∃ K9, py_ol s (H (13 + 4 * x)) K9 (H (15 + 4 * x)) (H (4 + 2 * H (16 + 4 * x))) (H (5 + 2 * H (16 + 4 * x))) (H 2)) → py_fr [38] [] σ s → py_Go X RX5 cX5_skillsThatFit 6 4 15 [some (.ref 37), some (.ref 7), some (.int (nI x)), some (.int (nI n)), some (.int (nI (py_bs (fun v => decide (1 ≤ v) && py_fit (H (13 + 4 * x)) v (H (15 + 4 * x)) (H (4 + 2 * H (16 + 4 * x))) (H (5 + 2 * H (16 + 4 * x))) (H 2) (σ 39) n) i))), some (.int (nI i))] [] s (py_vs (some (.int (nI (py_bs (fun v => decide (1 ≤ v) && py_fit (H (13 + 4 * x)) v (H (15 + 4 * x)) (H (4 + 2 * H (16 + 4 * x))) (H (5 + 2 * H (16 + 4 * x))) (H 2) (σ 39) n) (10))))) (fun s => py_fr [38] [] σ s)) := by
    refine py_loop _ (10) (fun i hi ih hlo s hox hs => ?_)
    obtain ⟨K9, ho⟩ := hox
    have hcs2 := py_hd_fr hs (by decide) (by decide) hc
    refine go_iload (pc := 15) dX5_skillsThatFit_15 rfl ?_
    refine go_bipush (v := nI 9) (pc := 17) dX5_skillsThatFit_17 (by decide) ?_
    refine go_icmp_gtN (tgt := 58) (pc := 19) dX5_skillsThatFit_19 (by omega) (by omega) (by decide) (fun c_19 => ?_) (fun c_19 => ?_)
    · refine go_iload (pc := 58) dX5_skillsThatFit_58 rfl ?_
      exact go_retI (pc := 60) dX5_skillsThatFit_60 (by rw [show i = 10 by omega]) hs
    · refine go_aload_n (pc := 22) dX5_skillsThatFit_22 rfl ?_
      refine go_getR (pc := 23) dX5_skillsThatFit_23 fX5_12 rfl rfl ?_
      refine go_iload (pc := 26) dX5_skillsThatFit_26 rfl ?_
      refine go_putI (pc := 28) dX5_skillsThatFit_28 fX5_127 rfl rfl ?_
      refine go_iload (pc := 31) dX5_skillsThatFit_31 rfl ?_
      refine go_aload_n (pc := 33) dX5_skillsThatFit_33 rfl ?_
      refine go_iload_n (pc := 34) dX5_skillsThatFit_34 rfl ?_
      have ho2 := ho.k1 i
      have hs2 := hs.up (k := 38) (j := 1) (by decide) (nI i)
      have h39 : (py_up s 38 1 ((nI i))) 39 = σ 39 := hs2.at 39 (by decide) (by decide)
      refine go_cV (pc := 35) dX5_skillsThatFit_35 (ev_isAsTold ho2 ⟨hlo, by omega, hbd.2.2⟩ hq.2.1 hq.2.2.2.2.1 hn) lX5_123 YX5_isAsTold VX5_isAsTold rfl rfl rfl (by decide) rfl (Nat.le_of_ble_eq_true rfl) ?_
      refine go_top (y := py_b ((fun v => decide (1 ≤ v) && py_fit (H (13 + 4 * x)) v (H (15 + 4 * x)) (H (4 + 2 * H (16 + 4 * x))) (H (5 + 2 * H (16 + 4 * x))) (H 2) (σ 39) n) i = true)) (py_b_c (by rw [h39]; simp; omega)) ?_
      refine go_if_eqB (tgt := 48) (pc := 38) dX5_skillsThatFit_38 (by decide) (fun c_38 => ?_) (fun c_38 => ?_)
      · refine go_iconst (v := nI 0) (pc := 48) dX5_skillsThatFit_48 (by decide) ?_
        refine go_ior (pc := 49) dX5_skillsThatFit_49 ?_
        refine go_istore (pc := 50) dX5_skillsThatFit_50 (by decide) rfl ?_
        refine go_iincN (c := 1) (pc := 52) dX5_skillsThatFit_52 rfl (by decide) (by decide) rfl ?_
        refine go_goto (tgt := 15) (pc := 55) dX5_skillsThatFit_55 (by decide) ?_
        have e8 := ih (by omega) (by omega) _ ⟨_, ho2⟩ hs2
        rw [← py_bs_f (f := (fun v => decide (1 ≤ v) && py_fit (H (13 + 4 * x)) v (H (15 + 4 * x)) (H (4 + 2 * H (16 + 4 * x))) (H (5 + 2 * H (16 + 4 * x))) (H 2) (σ 39) n)) (p := i) (by simpa using c_38)] at e8
        rw [py_or0]
        exact e8
      · refine go_iconst (v := nI 1) (pc := 41) dX5_skillsThatFit_41 (by decide) ?_
        refine go_iload (pc := 42) dX5_skillsThatFit_42 rfl ?_
        refine go_ishl (pc := 44) dX5_skillsThatFit_44 ?_
        refine go_goto (tgt := 49) (pc := 45) dX5_skillsThatFit_45 (by decide) ?_
        refine go_ior (pc := 49) dX5_skillsThatFit_49 ?_
        refine go_istore (pc := 50) dX5_skillsThatFit_50 (by decide) rfl ?_
        refine go_iincN (c := 1) (pc := 52) dX5_skillsThatFit_52 rfl (by decide) (by decide) rfl ?_
        refine go_goto (tgt := 15) (pc := 55) dX5_skillsThatFit_55 (by decide) ?_
        have e8 := ih (by omega) (by omega) _ ⟨_, ho2⟩ hs2
        rw [py_or_add (py_bs_lt _ i) (by omega), py_bs_t (f := (fun v => decide (1 ≤ v) && py_fit (H (13 + 4 * x)) v (H (15 + 4 * x)) (H (4 + 2 * H (16 + 4 * x))) (H (5 + 2 * H (16 + 4 * x))) (H 2) (σ 39) n)) (p := i) c_38]
        exact e8
  refine go_iconst (v := nI 1) (pc := 12) dX5_skillsThatFit_12 (by decide) ?_
  refine go_istore (pc := 13) dX5_skillsThatFit_13 (by decide) rfl ?_
  exact loop 1 (by decide) (by decide) s1 ⟨_, e2⟩ e3
set_option maxHeartbeats 4000000 in
set_option maxRecDepth 100000 in
theorem ev_wallsFit {X : py_X} {σ : py_H} {H : Nat → Nat} (hc : py_hd σ 7 H) (hw : py_wf H) {x n : Nat} (hx : x < H 12) (hn : n ≤ 16) : py_Ev X 4 yX5_wallsThatFit cX5_wallsThatFit 6 (some .int) [.ref 37, .ref 7, .int (nI x), .int (nI n)] σ (py_vs (some (.int (nI (py_bs (fun v => py_fit (H (13 + 4 * x)) (H (14 + 4 * x)) (H (15 + 4 * x)) (H (4 + 2 * v)) (H (5 + 2 * v)) (H 2) (σ 39) n) (H 3))))) (fun s => py_fr [38] [] σ s)) := by
  obtain ⟨w0, w1, w2, w3, w12, w03, w00, wW, wP, wR⟩ := id hw
  refine py_ofI (own := RX5) YX5_wallsThatFit.2.2.2.2 rfl rfl (Nat.le_of_ble_eq_true rfl)  ?_
  show py_Go X RX5 cX5_wallsThatFit 6 4 0 [some (.ref 37), some (.ref 7), some (.int (nI x)), some (.int (nI n)), none, none] [] σ (py_vs (some (.int (nI (py_bs (fun v => py_fit (H (13 + 4 * x)) (H (14 + 4 * x)) (H (15 + 4 * x)) (H (4 + 2 * v)) (H (5 + 2 * v)) (H 2) (σ 39) n) (H 3))))) (fun s => py_fr [38] [] σ s))
  refine go_iconst (v := nI 0) (pc := 0) dX5_wallsThatFit_0 (by decide) ?_
  refine go_istore (pc := 1) dX5_wallsThatFit_1 (by decide) rfl ?_
  refine go_aload_n (pc := 3) dX5_wallsThatFit_3 rfl ?_
  refine go_getR (pc := 4) dX5_wallsThatFit_4 fX5_12 rfl rfl ?_
  refine go_aload_n (pc := 7) dX5_wallsThatFit_7 rfl ?_
  refine go_iload_n (pc := 8) dX5_wallsThatFit_8 rfl ?_
  refine go_cVv (pc := 9) dX5_wallsThatFit_9 (ev_takeFrom hc hw hx) lX5_53 YX3_takeFrom VX3_takeFrom rfl rfl rfl (by decide) rfl (Nat.le_of_ble_eq_true rfl) (fun s1 e1 => ?_)
  obtain ⟨e2, e3⟩ := e1
  have hq := wP x hx
  have hbd := py_bd_of hw hx
  have hcs := py_hd_fr e3 (by decide) (by decide) hc
  have loop : ∀ i, i ≤ H 3 → ∀ s, (∃ L9 D9, py_ol s (H (13 + 4 * x)) (H (14 + 4 * x)) (H (15 + 4 * x)) L9 D9 (H 2)) → py_fr [38] [] σ s → py_Go X RX5 cX5_wallsThatFit 6 4 15 [some (.ref 37), some (.ref 7), some (.int (nI x)), some (.int (nI n)), some (.int (nI (py_bs (fun v => py_fit (H (13 + 4 * x)) (H (14 + 4 * x)) (H (15 + 4 * x)) (H (4 + 2 * v)) (H (5 + 2 * v)) (H 2) (σ 39) n) i))), some (.int (nI i))] [] s (py_vs (some (.int (nI (py_bs (fun v => py_fit (H (13 + 4 * x)) (H (14 + 4 * x)) (H (15 + 4 * x)) (H (4 + 2 * v)) (H (5 + 2 * v)) (H 2) (σ 39) n) (H 3))))) (fun s => py_fr [38] [] σ s)) := by
    refine py_loop _ (H 3) (fun i hi ih s hox hs => ?_)
    obtain ⟨L9, D9, ho⟩ := hox
    have hcs2 := py_hd_fr hs (by decide) (by decide) hc
    refine go_iload (pc := 15) dX5_wallsThatFit_15 rfl ?_
    refine go_aload_n (pc := 17) dX5_wallsThatFit_17 rfl ?_
    refine go_getI (x := (nI (H 3))) (pc := 18) dX5_wallsThatFit_18 fX5_81 rfl rfl hcs2.2.2.2.1 ?_
    refine go_icmp_geN (tgt := 61) (pc := 21) dX5_wallsThatFit_21 (by omega) (by omega) (by decide) (fun c_21 => ?_) (fun c_21 => ?_)
    · refine go_iload (pc := 61) dX5_wallsThatFit_61 rfl ?_
      exact go_retI (pc := 63) dX5_wallsThatFit_63 (by rw [show i = H 3 by omega]) hs
    · refine go_aload_n (pc := 24) dX5_wallsThatFit_24 rfl ?_
      refine go_getR (pc := 25) dX5_wallsThatFit_25 fX5_12 rfl rfl ?_
      refine go_aload_n (pc := 28) dX5_wallsThatFit_28 rfl ?_
      refine go_iload (pc := 29) dX5_wallsThatFit_29 rfl ?_
      have hwl : i < H 3 := by omega
      refine go_cVv (pc := 31) dX5_wallsThatFit_31 (ev_takeWall hcs2 hw hwl) lX5_84 YX3_takeWall VX3_takeWall rfl rfl rfl (by decide) rfl (Nat.le_of_ble_eq_true rfl) (fun s2 f1 => ?_)
      subst f1
      refine go_iload (pc := 34) dX5_wallsThatFit_34 rfl ?_
      refine go_aload_n (pc := 36) dX5_wallsThatFit_36 rfl ?_
      refine go_iload_n (pc := 37) dX5_wallsThatFit_37 rfl ?_
      have ho2 := (ho.k3 (H (4 + 2 * i))).k4 (H (5 + 2 * i))
      have hs2 := (hs.up (k := 38) (j := 3) (by decide) (nI (H (4 + 2 * i)))).up (k := 38) (j := 4) (by decide) (nI (H (5 + 2 * i)))
      have hwi := wW i (by omega)
      have h39 : (py_up (py_up s 38 3 (nI (H (4 + 2 * (i))))) 38 4 (nI (H (5 + 2 * (i))))) 39 = σ 39 := hs2.at 39 (by decide) (by decide)
      refine go_cV (pc := 38) dX5_wallsThatFit_38 (ev_isAsTold ho2 ⟨hbd.1, hbd.2.1, hwi.1, hwi.2, hbd.2.2.2.2⟩ hq.2.1 hq.2.2.2.2.1 hn) lX5_123 YX5_isAsTold VX5_isAsTold rfl rfl rfl (by decide) rfl (Nat.le_of_ble_eq_true rfl) ?_
      refine go_top (y := py_b ((fun v => py_fit (H (13 + 4 * x)) (H (14 + 4 * x)) (H (15 + 4 * x)) (H (4 + 2 * v)) (H (5 + 2 * v)) (H 2) (σ 39) n) i = true)) (py_b_c (by rw [h39])) ?_
      refine go_if_eqB (tgt := 51) (pc := 41) dX5_wallsThatFit_41 (by decide) (fun c_41 => ?_) (fun c_41 => ?_)
      · refine go_iconst (v := nI 0) (pc := 51) dX5_wallsThatFit_51 (by decide) ?_
        refine go_ior (pc := 52) dX5_wallsThatFit_52 ?_
        refine go_istore (pc := 53) dX5_wallsThatFit_53 (by decide) rfl ?_
        refine go_iincN (c := 1) (pc := 55) dX5_wallsThatFit_55 rfl (by decide) (by decide) rfl ?_
        refine go_goto (tgt := 15) (pc := 58) dX5_wallsThatFit_58 (by decide) ?_
        have e8 := ih (by omega) _ ⟨_, _, ho2⟩ hs2
        rw [← py_bs_f (f := (fun v => py_fit (H (13 + 4 * x)) (H (14 + 4 * x)) (H (15 + 4 * x)) (H (4 + 2 * v)) (H (5 + 2 * v)) (H 2) (σ 39) n)) (p := i) (by simpa using c_41)] at e8
        rw [py_or0]
        exact e8
      · refine go_iconst (v := nI 1) (pc := 44) dX5_wallsThatFit_44 (by decide) ?_
        refine go_iload (pc := 45) dX5_wallsThatFit_45 rfl ?_
        refine go_ishl (pc := 47) dX5_wallsThatFit_47 ?_
        refine go_goto (tgt := 52) (pc := 48) dX5_wallsThatFit_48 (by decide) ?_
        refine go_ior (pc := 52) dX5_wallsThatFit_52 ?_
        refine go_istore (pc := 53) dX5_wallsThatFit_53 (by decide) rfl ?_
        refine go_iincN (c := 1) (pc := 55) dX5_wallsThatFit_55 rfl (by decide) (by decide) rfl ?_
        refine go_goto (tgt := 15) (pc := 58) dX5_wallsThatFit_58 (by decide) ?_
        have e8 := ih (by omega) _ ⟨_, _, ho2⟩ hs2
        rw [py_or_add (py_bs_lt _ i) (by omega), py_bs_t (f := (fun v => py_fit (H (13 + 4 * x)) (H (14 + 4 * x)) (H (15 + 4 * x)) (H (4 + 2 * v)) (H (5 + 2 * v)) (H 2) (σ 39) n)) (p := i) c_41]
        exact e8
  refine go_iconst (v := nI 0) (pc := 12) dX5_wallsThatFit_12 (by decide) ?_
  refine go_istore (pc := 13) dX5_wallsThatFit_13 (by decide) rfl ?_
  exact loop 0 (Nat.zero_le _) s1 ⟨_, _, e2⟩ e3
set_option maxHeartbeats 4000000 in
set_option maxRecDepth 100000 in
theorem ev_deedsFit {X : py_X} {σ : py_H} {H : Nat → Nat} (hc : py_hd σ 7 H) (hw : py_wf H) {x n : Nat} (hx : x < H 12) (hn : n ≤ 16) : py_Ev X 4 yX5_deedsThatFit cX5_deedsThatFit 7 (some .int) [.ref 37, .ref 7, .int (nI x), .int (nI n)] σ (py_vs (some (.int (nI (py_bs (fun v => py_fit (H (13 + 4 * x)) (H (14 + 4 * x)) (H (15 + 4 * x) - v) (H (4 + 2 * H (16 + 4 * x))) (H (5 + 2 * H (16 + 4 * x))) (H 2) (σ 39) n) (30))))) (fun s => py_fr [38] [] σ s)) := by
  obtain ⟨w0, w1, w2, w3, w12, w03, w00, wW, wP, wR⟩ := id hw
  refine py_ofI (own := RX5) YX5_deedsThatFit.2.2.2.2 rfl rfl (Nat.le_of_ble_eq_true rfl)  ?_
  show py_Go X RX5 cX5_deedsThatFit 7 4 0 [some (.ref 37), some (.ref 7), some (.int (nI x)), some (.int (nI n)), none, none, none] [] σ (py_vs (some (.int (nI (py_bs (fun v => py_fit (H (13 + 4 * x)) (H (14 + 4 * x)) (H (15 + 4 * x) - v) (H (4 + 2 * H (16 + 4 * x))) (H (5 + 2 * H (16 + 4 * x))) (H 2) (σ 39) n) (30))))) (fun s => py_fr [38] [] σ s))
  refine go_iconst (v := nI 0) (pc := 0) dX5_deedsThatFit_0 (by decide) ?_
  refine go_istore (pc := 1) dX5_deedsThatFit_1 (by decide) rfl ?_
  refine go_aload_n (pc := 3) dX5_deedsThatFit_3 rfl ?_
  refine go_getR (pc := 4) dX5_deedsThatFit_4 fX5_12 rfl rfl ?_
  refine go_aload_n (pc := 7) dX5_deedsThatFit_7 rfl ?_
  refine go_iload_n (pc := 8) dX5_deedsThatFit_8 rfl ?_
  refine go_cVv (pc := 9) dX5_deedsThatFit_9 (ev_takeFrom hc hw hx) lX5_53 YX3_takeFrom VX3_takeFrom rfl rfl rfl (by decide) rfl (Nat.le_of_ble_eq_true rfl) (fun s1 e1 => ?_)
  obtain ⟨e2, e3⟩ := e1
  have hq := wP x hx
  have hbd := py_bd_of hw hx
  have hcs := py_hd_fr e3 (by decide) (by decide) hc
  have loop : ∀ i, i ≤ 30 → ∀ s, (∃ K9, py_ol s (H (13 + 4 * x)) (H (14 + 4 * x)) K9 (H (4 + 2 * H (16 + 4 * x))) (H (5 + 2 * H (16 + 4 * x))) (H 2)) → py_fr [38] [] σ s → py_Go X RX5 cX5_deedsThatFit 7 4 24 [some (.ref 37), some (.ref 7), some (.int (nI x)), some (.int (nI n)), some (.int (nI (py_bs (fun v => py_fit (H (13 + 4 * x)) (H (14 + 4 * x)) (H (15 + 4 * x) - v) (H (4 + 2 * H (16 + 4 * x))) (H (5 + 2 * H (16 + 4 * x))) (H 2) (σ 39) n) i))), some (.int (nI (H (15 + 4 * x)))), some (.int (nI i))] [] s (py_vs (some (.int (nI (py_bs (fun v => py_fit (H (13 + 4 * x)) (H (14 + 4 * x)) (H (15 + 4 * x) - v) (H (4 + 2 * H (16 + 4 * x))) (H (5 + 2 * H (16 + 4 * x))) (H 2) (σ 39) n) (30))))) (fun s => py_fr [38] [] σ s)) := by
    refine py_loop _ (30) (fun i hi ih s hox hs => ?_)
    obtain ⟨K9, ho⟩ := hox
    have hcs2 := py_hd_fr hs (by decide) (by decide) hc
    refine go_iload (pc := 24) dX5_deedsThatFit_24 rfl ?_
    refine go_bipush (v := nI 29) (pc := 26) dX5_deedsThatFit_26 (by decide) ?_
    refine go_icmp_gtN (tgt := 74) (pc := 28) dX5_deedsThatFit_28 (by omega) (by omega) (by decide) (fun c_28 => ?_) (fun c_28 => ?_)
    · refine go_iload (pc := 74) dX5_deedsThatFit_74 rfl ?_
      exact go_retI (pc := 76) dX5_deedsThatFit_76 (by rw [show i = 30 by omega]) hs
    · refine go_aload_n (pc := 31) dX5_deedsThatFit_31 rfl ?_
      refine go_getR (pc := 32) dX5_deedsThatFit_32 fX5_12 rfl rfl ?_
      refine go_iconst (v := nI 0) (pc := 35) dX5_deedsThatFit_35 (by decide) ?_
      refine go_iload (pc := 36) dX5_deedsThatFit_36 rfl ?_
      refine go_iload (pc := 38) dX5_deedsThatFit_38 rfl ?_
      refine go_isub (pc := 40) dX5_deedsThatFit_40  ?_
      refine go_mmax (pc := 41) dX5_deedsThatFit_41 lX5_102 Smax Imath Cmax (by decide) (Nat.le_of_ble_eq_true rfl) ?_
      refine go_top (y := (nI (H (15 + 4 * x) - i))) (py_max0 (by omega) (by omega)) ?_
      refine go_putI (pc := 44) dX5_deedsThatFit_44 fX5_100 rfl rfl ?_
      refine go_iload (pc := 47) dX5_deedsThatFit_47 rfl ?_
      refine go_aload_n (pc := 49) dX5_deedsThatFit_49 rfl ?_
      refine go_iload_n (pc := 50) dX5_deedsThatFit_50 rfl ?_
      have ho2 := ho.k2 (H (15 + 4 * x) - i)
      have hs2 := hs.up (k := 38) (j := 2) (by decide) (nI (H (15 + 4 * x) - i))
      have h39 : (py_up s 38 2 ((nI (H (15 + 4 * x) - i)))) 39 = σ 39 := hs2.at 39 (by decide) (by decide)
      refine go_cV (pc := 51) dX5_deedsThatFit_51 (ev_isAsTold ho2 hbd hq.2.1 (by omega) hn) lX5_123 YX5_isAsTold VX5_isAsTold rfl rfl rfl (by decide) rfl (Nat.le_of_ble_eq_true rfl) ?_
      refine go_top (y := py_b ((fun v => py_fit (H (13 + 4 * x)) (H (14 + 4 * x)) (H (15 + 4 * x) - v) (H (4 + 2 * H (16 + 4 * x))) (H (5 + 2 * H (16 + 4 * x))) (H 2) (σ 39) n) i = true)) (py_b_c (by rw [h39])) ?_
      refine go_if_eqB (tgt := 64) (pc := 54) dX5_deedsThatFit_54 (by decide) (fun c_54 => ?_) (fun c_54 => ?_)
      · refine go_iconst (v := nI 0) (pc := 64) dX5_deedsThatFit_64 (by decide) ?_
        refine go_ior (pc := 65) dX5_deedsThatFit_65 ?_
        refine go_istore (pc := 66) dX5_deedsThatFit_66 (by decide) rfl ?_
        refine go_iincN (c := 1) (pc := 68) dX5_deedsThatFit_68 rfl (by decide) (by decide) rfl ?_
        refine go_goto (tgt := 24) (pc := 71) dX5_deedsThatFit_71 (by decide) ?_
        have e8 := ih (by omega) _ ⟨_, ho2⟩ hs2
        rw [← py_bs_f (f := (fun v => py_fit (H (13 + 4 * x)) (H (14 + 4 * x)) (H (15 + 4 * x) - v) (H (4 + 2 * H (16 + 4 * x))) (H (5 + 2 * H (16 + 4 * x))) (H 2) (σ 39) n)) (p := i) (by simpa using c_54)] at e8
        rw [py_or0]
        exact e8
      · refine go_iconst (v := nI 1) (pc := 57) dX5_deedsThatFit_57 (by decide) ?_
        refine go_iload (pc := 58) dX5_deedsThatFit_58 rfl ?_
        refine go_ishl (pc := 60) dX5_deedsThatFit_60 ?_
        refine go_goto (tgt := 65) (pc := 61) dX5_deedsThatFit_61 (by decide) ?_
        refine go_ior (pc := 65) dX5_deedsThatFit_65 ?_
        refine go_istore (pc := 66) dX5_deedsThatFit_66 (by decide) rfl ?_
        refine go_iincN (c := 1) (pc := 68) dX5_deedsThatFit_68 rfl (by decide) (by decide) rfl ?_
        refine go_goto (tgt := 24) (pc := 71) dX5_deedsThatFit_71 (by decide) ?_
        have e8 := ih (by omega) _ ⟨_, ho2⟩ hs2
        rw [py_or_add (py_bs_lt _ i) (by omega), py_bs_t (f := (fun v => py_fit (H (13 + 4 * x)) (H (14 + 4 * x)) (H (15 + 4 * x) - v) (H (4 + 2 * H (16 + 4 * x))) (H (5 + 2 * H (16 + 4 * x))) (H 2) (σ 39) n)) (p := i) c_54]
        exact e8
  refine go_aload_n (pc := 12) dX5_deedsThatFit_12 rfl ?_
  refine go_getR (pc := 13) dX5_deedsThatFit_13 fX5_12 rfl rfl ?_
  refine go_getI (x := (nI (H (15 + 4 * x)))) (pc := 16) dX5_deedsThatFit_16 fX5_100 rfl rfl e2.2.2.1 ?_
  refine go_istore (pc := 19) dX5_deedsThatFit_19 (by decide) rfl ?_
  refine go_iconst (v := nI 0) (pc := 21) dX5_deedsThatFit_21 (by decide) ?_
  refine go_istore (pc := 22) dX5_deedsThatFit_22 (by decide) rfl ?_
  exact loop 0 (Nat.zero_le _) s1 ⟨_, e2⟩ e3
set_option maxHeartbeats 4000000 in
set_option maxRecDepth 100000 in
theorem ev_power {X : py_X} {σ : py_H} {b e : Nat} (hb : b ≤ 10) (he : e ≤ 5) : py_Ev X 0 yX5_power cX5_power 5 (some .int) [.ref 37, .int (nI b), .int (nI e)] σ (py_ret (.int (nI (b ^ e))) σ) := by
  refine py_ofI (own := RX5) YX5_power.2.2.2.2 rfl rfl (Nat.le_of_ble_eq_true rfl)  ?_
  show py_Go X RX5 cX5_power 5 0 0 [some (.ref 37), some (.int (nI b)), some (.int (nI e)), none, none] [] σ (py_ret (.int (nI (b ^ e))) σ)
  have loop : ∀ i, i ≤ e → py_Go X RX5 cX5_power 5 0 5 [some (.ref 37), some (.int (nI b)), some (.int (nI e)), some (.int (nI (b ^ i))), some (.int (nI i))] [] σ (py_ret (.int (nI (b ^ e))) σ) := by
    refine py_loop _ (e) (fun i hi ih  => ?_)
    refine go_iload (pc := 5) dX5_power_5 rfl ?_
    refine go_iload_n (pc := 7) dX5_power_7 rfl ?_
    refine go_icmp_geN (tgt := 21) (pc := 8) dX5_power_8 (by omega) (by omega) (by decide) (fun c_8 => ?_) (fun c_8 => ?_)
    · refine go_iload_n (pc := 21) dX5_power_21 rfl ?_
      exact go_retI (pc := 22) dX5_power_22 (by rw [show i = e by omega]) rfl
    · refine go_iload_n (pc := 11) dX5_power_11 rfl ?_
      refine go_iload_n (pc := 12) dX5_power_12 rfl ?_
      refine go_imulN (pc := 13) dX5_power_13  ?_
      refine go_istore_n (pc := 14) dX5_power_14 (by decide) rfl ?_
      refine go_iincN (c := 1) (pc := 15) dX5_power_15 rfl (by decide) (by decide) rfl ?_
      refine go_goto (tgt := 5) (pc := 18) dX5_power_18 (by decide) ?_
      have e8 := ih c_8
      rw [Nat.pow_succ] at e8
      exact e8
  refine go_iconst (v := nI 1) (pc := 0) dX5_power_0 (by decide) ?_
  refine go_istore_n (pc := 1) dX5_power_1 (by decide) rfl ?_
  refine go_iconst (v := nI 0) (pc := 2) dX5_power_2 (by decide) ?_
  refine go_istore (pc := 3) dX5_power_3 (by decide) rfl ?_
  exact loop 0 (Nat.zero_le _)
set_option maxRecDepth 100000 in
theorem py_bc : ∀ t, t < 32 → (((((((((((((((((nI t)) - (((((((nI t)).toUInt32 >>> (((nI 1)).toUInt32 &&& Int32.toUInt32 31)).toInt32)) &&& ((1431655765)))))) &&& ((858993459)))) + (((((((((nI t)) - (((((((nI t)).toUInt32 >>> (((nI 1)).toUInt32 &&& Int32.toUInt32 31)).toInt32)) &&& ((1431655765)))))).toUInt32 >>> (((nI 2)).toUInt32 &&& Int32.toUInt32 31)).toInt32)) &&& ((858993459)))))) + (((((((((((nI t)) - (((((((nI t)).toUInt32 >>> (((nI 1)).toUInt32 &&& Int32.toUInt32 31)).toInt32)) &&& ((1431655765)))))) &&& ((858993459)))) + (((((((((nI t)) - (((((((nI t)).toUInt32 >>> (((nI 1)).toUInt32 &&& Int32.toUInt32 31)).toInt32)) &&& ((1431655765)))))).toUInt32 >>> (((nI 2)).toUInt32 &&& Int32.toUInt32 31)).toInt32)) &&& ((858993459)))))).toUInt32 >>> (((nI 4)).toUInt32 &&& Int32.toUInt32 31)).toInt32)))) &&& ((252645135)))) + (((((((((((((((nI t)) - (((((((nI t)).toUInt32 >>> (((nI 1)).toUInt32 &&& Int32.toUInt32 31)).toInt32)) &&& ((1431655765)))))) &&& ((858993459)))) + (((((((((nI t)) - (((((((nI t)).toUInt32 >>> (((nI 1)).toUInt32 &&& Int32.toUInt32 31)).toInt32)) &&& ((1431655765)))))).toUInt32 >>> (((nI 2)).toUInt32 &&& Int32.toUInt32 31)).toInt32)) &&& ((858993459)))))) + (((((((((((nI t)) - (((((((nI t)).toUInt32 >>> (((nI 1)).toUInt32 &&& Int32.toUInt32 31)).toInt32)) &&& ((1431655765)))))) &&& ((858993459)))) + (((((((((nI t)) - (((((((nI t)).toUInt32 >>> (((nI 1)).toUInt32 &&& Int32.toUInt32 31)).toInt32)) &&& ((1431655765)))))).toUInt32 >>> (((nI 2)).toUInt32 &&& Int32.toUInt32 31)).toInt32)) &&& ((858993459)))))).toUInt32 >>> (((nI 4)).toUInt32 &&& Int32.toUInt32 31)).toInt32)))) &&& ((252645135)))).toUInt32 >>> (((nI 8)).toUInt32 &&& Int32.toUInt32 31)).toInt32)))) + (((((((((((((((((nI t)) - (((((((nI t)).toUInt32 >>> (((nI 1)).toUInt32 &&& Int32.toUInt32 31)).toInt32)) &&& ((1431655765)))))) &&& ((858993459)))) + (((((((((nI t)) - (((((((nI t)).toUInt32 >>> (((nI 1)).toUInt32 &&& Int32.toUInt32 31)).toInt32)) &&& ((1431655765)))))).toUInt32 >>> (((nI 2)).toUInt32 &&& Int32.toUInt32 31)).toInt32)) &&& ((858993459)))))) + (((((((((((nI t)) - (((((((nI t)).toUInt32 >>> (((nI 1)).toUInt32 &&& Int32.toUInt32 31)).toInt32)) &&& ((1431655765)))))) &&& ((858993459)))) + (((((((((nI t)) - (((((((nI t)).toUInt32 >>> (((nI 1)).toUInt32 &&& Int32.toUInt32 31)).toInt32)) &&& ((1431655765)))))).toUInt32 >>> (((nI 2)).toUInt32 &&& Int32.toUInt32 31)).toInt32)) &&& ((858993459)))))).toUInt32 >>> (((nI 4)).toUInt32 &&& Int32.toUInt32 31)).toInt32)))) &&& ((252645135)))) + (((((((((((((((nI t)) - (((((((nI t)).toUInt32 >>> (((nI 1)).toUInt32 &&& Int32.toUInt32 31)).toInt32)) &&& ((1431655765)))))) &&& ((858993459)))) + (((((((((nI t)) - (((((((nI t)).toUInt32 >>> (((nI 1)).toUInt32 &&& Int32.toUInt32 31)).toInt32)) &&& ((1431655765)))))).toUInt32 >>> (((nI 2)).toUInt32 &&& Int32.toUInt32 31)).toInt32)) &&& ((858993459)))))) + (((((((((((nI t)) - (((((((nI t)).toUInt32 >>> (((nI 1)).toUInt32 &&& Int32.toUInt32 31)).toInt32)) &&& ((1431655765)))))) &&& ((858993459)))) + (((((((((nI t)) - (((((((nI t)).toUInt32 >>> (((nI 1)).toUInt32 &&& Int32.toUInt32 31)).toInt32)) &&& ((1431655765)))))).toUInt32 >>> (((nI 2)).toUInt32 &&& Int32.toUInt32 31)).toInt32)) &&& ((858993459)))))).toUInt32 >>> (((nI 4)).toUInt32 &&& Int32.toUInt32 31)).toInt32)))) &&& ((252645135)))).toUInt32 >>> (((nI 8)).toUInt32 &&& Int32.toUInt32 31)).toInt32)))).toUInt32 >>> (((nI 16)).toUInt32 &&& Int32.toUInt32 31)).toInt32)))) &&& ((nI 63))) = nI (py_pc t) := by decide +kernel
set_option maxHeartbeats 4000000 in
set_option maxRecDepth 100000 in
theorem ev_bitCount {X : py_X} {σ : py_H} {t : Nat} (ht : t < 32) : py_Ev X 0 yJ6_bitCount_0f7a4 cJ6_bitCount_0f7a4 1 (some .int) [.int (nI t)] σ (py_ret (.int (nI (py_pc t))) σ) := by
  refine py_ofI (own := RJ6) YJ6_bitCount_0f7a4.2.2.2.2 rfl rfl (Nat.le_of_ble_eq_true rfl)  ?_
  show py_Go X RJ6 cJ6_bitCount_0f7a4 1 0 0 [some (.int (nI t))] [] σ (py_ret (.int (nI (py_pc t))) σ)
  refine go_iload_n (pc := 0) dJ6_bitCount_0f7a4_0 rfl ?_
  refine go_iload_n (pc := 1) dJ6_bitCount_0f7a4_1 rfl ?_
  refine go_iconst (v := nI 1) (pc := 2) dJ6_bitCount_0f7a4_2 (by decide) ?_
  refine go_iushr (pc := 3) dJ6_bitCount_0f7a4_3 ?_
  refine go_ldcw (pc := 4) dJ6_bitCount_0f7a4_4 kJ6_265 ?_
  refine go_iand (pc := 7) dJ6_bitCount_0f7a4_7 ?_
  refine go_isub (pc := 8) dJ6_bitCount_0f7a4_8  ?_
  refine go_istore_n (pc := 9) dJ6_bitCount_0f7a4_9 (by decide) rfl ?_
  refine go_iload_n (pc := 10) dJ6_bitCount_0f7a4_10 rfl ?_
  refine go_ldcw (pc := 11) dJ6_bitCount_0f7a4_11 kJ6_266 ?_
  refine go_iand (pc := 14) dJ6_bitCount_0f7a4_14 ?_
  refine go_iload_n (pc := 15) dJ6_bitCount_0f7a4_15 rfl ?_
  refine go_iconst (v := nI 2) (pc := 16) dJ6_bitCount_0f7a4_16 (by decide) ?_
  refine go_iushr (pc := 17) dJ6_bitCount_0f7a4_17 ?_
  refine go_ldcw (pc := 18) dJ6_bitCount_0f7a4_18 kJ6_266 ?_
  refine go_iand (pc := 21) dJ6_bitCount_0f7a4_21 ?_
  refine go_iadd (pc := 22) dJ6_bitCount_0f7a4_22  ?_
  refine go_istore_n (pc := 23) dJ6_bitCount_0f7a4_23 (by decide) rfl ?_
  refine go_iload_n (pc := 24) dJ6_bitCount_0f7a4_24 rfl ?_
  refine go_iload_n (pc := 25) dJ6_bitCount_0f7a4_25 rfl ?_
  refine go_iconst (v := nI 4) (pc := 26) dJ6_bitCount_0f7a4_26 (by decide) ?_
  refine go_iushr (pc := 27) dJ6_bitCount_0f7a4_27 ?_
  refine go_iadd (pc := 28) dJ6_bitCount_0f7a4_28  ?_
  refine go_ldcw (pc := 29) dJ6_bitCount_0f7a4_29 kJ6_267 ?_
  refine go_iand (pc := 32) dJ6_bitCount_0f7a4_32 ?_
  refine go_istore_n (pc := 33) dJ6_bitCount_0f7a4_33 (by decide) rfl ?_
  refine go_iload_n (pc := 34) dJ6_bitCount_0f7a4_34 rfl ?_
  refine go_iload_n (pc := 35) dJ6_bitCount_0f7a4_35 rfl ?_
  refine go_bipush (v := nI 8) (pc := 36) dJ6_bitCount_0f7a4_36 (by decide) ?_
  refine go_iushr (pc := 38) dJ6_bitCount_0f7a4_38 ?_
  refine go_iadd (pc := 39) dJ6_bitCount_0f7a4_39  ?_
  refine go_istore_n (pc := 40) dJ6_bitCount_0f7a4_40 (by decide) rfl ?_
  refine go_iload_n (pc := 41) dJ6_bitCount_0f7a4_41 rfl ?_
  refine go_iload_n (pc := 42) dJ6_bitCount_0f7a4_42 rfl ?_
  refine go_bipush (v := nI 16) (pc := 43) dJ6_bitCount_0f7a4_43 (by decide) ?_
  refine go_iushr (pc := 45) dJ6_bitCount_0f7a4_45 ?_
  refine go_iadd (pc := 46) dJ6_bitCount_0f7a4_46  ?_
  refine go_istore_n (pc := 47) dJ6_bitCount_0f7a4_47 (by decide) rfl ?_
  refine go_iload_n (pc := 48) dJ6_bitCount_0f7a4_48 rfl ?_
  refine go_bipush (v := nI 63) (pc := 49) dJ6_bitCount_0f7a4_49 (by decide) ?_
  refine go_iand (pc := 51) dJ6_bitCount_0f7a4_51 ?_
  exact go_retI (pc := 52) dJ6_bitCount_0f7a4_52 (py_bc t ht) rfl
set_option maxHeartbeats 4000000 in
set_option maxRecDepth 100000 in
theorem ev_ways {X : py_X} {σ : py_H} {m l c : Nat} (hm : m ≤ 5) (hl : l ≤ 5) (hc : c ≤ 10) : py_Ev X 1 yX5_waysToKeep cX5_waysToKeep 7 (some .int) [.ref 37, .int (nI m), .int (nI l), .int (nI c)] σ (py_ret (.int (nI (py_wy m l c (2 ^ l)))) σ) := by
  refine py_ofI (own := RX5) YX5_waysToKeep.2.2.2.2 rfl rfl (Nat.le_of_ble_eq_true rfl)  ?_
  show py_Go X RX5 cX5_waysToKeep 7 1 0 [some (.ref 37), some (.int (nI m)), some (.int (nI l)), some (.int (nI c)), none, none, none] [] σ (py_ret (.int (nI (py_wy m l c (2 ^ l)))) σ)
  have loop : ∀ i, i ≤ 2 ^ l → py_Go X RX5 cX5_waysToKeep 7 1 6 [some (.ref 37), some (.int (nI m)), some (.int (nI l)), some (.int (nI c)), some (.int (nI (py_wy m l c i))), some (.int (nI i)), none] [] σ (py_ret (.int (nI (py_wy m l c (2 ^ l)))) σ) := by
    refine py_loop _ (2 ^ l) (fun i hi ih  => ?_)
    have hp5 : 2 ^ l ≤ 2 ^ 5 := Nat.pow_le_pow_right (by decide) hl
    refine go_iload (pc := 6) dX5_waysToKeep_6 rfl ?_
    refine go_iconst (v := nI 1) (pc := 8) dX5_waysToKeep_8 (by decide) ?_
    refine go_iload_n (pc := 9) dX5_waysToKeep_9 rfl ?_
    refine go_ishl (pc := 10) dX5_waysToKeep_10 ?_
    refine go_eq (st2 := [.int (nI (2 ^ l)), .int (nI i)]) (by rw [py_shl1 l (by omega)]) ?_
    refine go_icmp_geN (tgt := 58) (pc := 11) dX5_waysToKeep_11 (by omega) (by omega) (by decide) (fun c_11 => ?_) (fun c_11 => ?_)
    · refine go_iload (pc := 58) dX5_waysToKeep_58 rfl ?_
      exact go_retI (pc := 60) dX5_waysToKeep_60 (by rw [show i = 2 ^ l by omega]) rfl
    · refine go_iload (pc := 14) dX5_waysToKeep_14 rfl ?_
      refine go_cS (pc := 16) dX5_waysToKeep_16 (ev_bitCount (t := i) (by omega)) lX5_130 YJ6_bitCount_0f7a4 SJ6_bitCount_0f7a4 rfl (by decide) rfl (Nat.le_of_ble_eq_true rfl) ?_
      have hpc := py_pc_lt (t := i) (l := l) c_11 hl
      have hpw := py_pw2 (b := 10 - c) (c := c) (by omega) hc hpc hl
      refine go_istore (pc := 19) dX5_waysToKeep_19 (by decide) rfl ?_
      refine go_iload (pc := 21) dX5_waysToKeep_21 rfl ?_
      refine go_iload_n (pc := 23) dX5_waysToKeep_23 rfl ?_
      refine go_icmp_ltN (tgt := 52) (pc := 24) dX5_waysToKeep_24 (by omega) (by omega) (by decide) (fun c_24 => ?_) (fun c_24 => ?_)
      · refine go_iincN (c := 1) (pc := 52) dX5_waysToKeep_52 rfl (by decide) (by decide) rfl ?_
        refine go_goto (tgt := 6) (pc := 55) dX5_waysToKeep_55 (by decide) ?_
        have e8 := ih c_11
        have e7 : py_wy m l c (i + 1) = py_wy m l c i := by show _ + (if _ then _ else _) = _; rw [if_neg (by omega)]; rfl
        rw [e7] at e8
        exact go_mask [true, true, true, true, true, true, false] rfl e8
      · refine go_iload (pc := 27) dX5_waysToKeep_27 rfl ?_
        refine go_aload_n (pc := 29) dX5_waysToKeep_29 rfl ?_
        refine go_bipush (v := nI 10) (pc := 30) dX5_waysToKeep_30 (by decide) ?_
        refine go_iload_n (pc := 32) dX5_waysToKeep_32 rfl ?_
        refine go_isubN (pc := 33) dX5_waysToKeep_33 (by omega) ?_
        refine go_iload (pc := 34) dX5_waysToKeep_34 rfl ?_
        refine go_cV (pc := 36) dX5_waysToKeep_36 (ev_power (by omega) (by omega)) lX5_135 YX5_power VX5_power rfl rfl rfl (by decide) rfl (Nat.le_of_ble_eq_true rfl) ?_
        refine go_aload_n (pc := 39) dX5_waysToKeep_39 rfl ?_
        refine go_iload_n (pc := 40) dX5_waysToKeep_40 rfl ?_
        refine go_iload_n (pc := 41) dX5_waysToKeep_41 rfl ?_
        refine go_iload (pc := 42) dX5_waysToKeep_42 rfl ?_
        refine go_isubN (pc := 44) dX5_waysToKeep_44 (by omega) ?_
        refine go_cV (pc := 45) dX5_waysToKeep_45 (ev_power (by omega) (by omega)) lX5_135 YX5_power VX5_power rfl rfl rfl (by decide) rfl (Nat.le_of_ble_eq_true rfl) ?_
        refine go_imulN (pc := 48) dX5_waysToKeep_48  ?_
        refine go_iaddN (pc := 49) dX5_waysToKeep_49  ?_
        refine go_istore (pc := 50) dX5_waysToKeep_50 (by decide) rfl ?_
        refine go_iincN (c := 1) (pc := 52) dX5_waysToKeep_52 rfl (by decide) (by decide) rfl ?_
        refine go_goto (tgt := 6) (pc := 55) dX5_waysToKeep_55 (by decide) ?_
        have e8 := ih c_11
        have e7 : py_wy m l c (i + 1) = py_wy m l c i + (10 - c) ^ py_pc i * c ^ (l - py_pc i) := by show _ + (if _ then _ else _) = _; rw [if_pos c_24]
        rw [e7] at e8
        exact go_mask [true, true, true, true, true, true, false] rfl e8
  refine go_iconst (v := nI 0) (pc := 0) dX5_waysToKeep_0 (by decide) ?_
  refine go_istore (pc := 1) dX5_waysToKeep_1 (by decide) rfl ?_
  refine go_iconst (v := nI 0) (pc := 3) dX5_waysToKeep_3 (by decide) ?_
  refine go_istore (pc := 4) dX5_waysToKeep_4 (by decide) rfl ?_
  exact loop 0 (Nat.zero_le _)
theorem py_half {a b : Nat} (hb : 0 < b) (h : b ≤ a) : 2 * (a % b) ≤ a := by
  have h2 : a % b < b := Nat.mod_lt _ hb
  have h3 := Nat.mod_add_div a b
  have h4 : 1 ≤ a / b := Nat.div_pos h hb
  have h5 : b ≤ b * (a / b) := Nat.le_mul_of_pos_right _ h4
  omega
theorem py_euc {a b i : Nat} (hb : 0 < b) (ha1 : a < 2 ^ 31) (hb1 : b < 2 ^ 31) (h : i = 0 ∨ (b ≤ a ∧ a * b * 2 ^ i ≤ 2 ^ 63)) : a % b ≤ b ∧ b * (a % b) * 2 ^ (i + 1) ≤ 2 ^ 63 := by
  have h2 : a % b < b := Nat.mod_lt _ hb
  refine ⟨by omega, ?_⟩
  rcases h with rfl | ⟨h3, h4⟩
  · have h5 : b * (a % b) ≤ 2 ^ 31 * 2 ^ 31 := Nat.mul_le_mul (by omega) (by omega)
    omega
  · have h5 := py_half hb h3
    have h6 : b * (2 * (a % b)) ≤ b * a := Nat.mul_le_mul_left b h5
    have h7 : b * (a % b) * 2 ^ (i + 1) = b * (2 * (a % b)) * 2 ^ i := by
      rw [Nat.pow_succ]; simp [Nat.mul_comm, Nat.mul_left_comm, Nat.mul_assoc]
    rw [h7]
    refine Nat.le_trans (Nat.mul_le_mul_right _ h6) ?_
    rw [Nat.mul_comm b a]
    exact h4
theorem py_euc64 {a b : Nat} (h : (64 : Nat) = 0 ∨ (b ≤ a ∧ a * b * 2 ^ 64 ≤ 2 ^ 63)) : b = 0 := by
  rcases h with h | ⟨h1, h2⟩
  · exact absurd h (by decide)
  · apply Nat.eq_zero_of_not_pos
    intro hb
    have h3 : 1 * 1 ≤ a * b := Nat.mul_le_mul (by omega) hb
    have h4 : 1 * 2 ^ 64 ≤ a * b * 2 ^ 64 := Nat.mul_le_mul_right _ (by omega)
    have h5 := Nat.le_trans h4 h2
    exact absurd h5 (by decide)
theorem py_maxN {a b : Nat} (ha : a < 2 ^ 31) (hb : b < 2 ^ 31) : (if nI a < nI b then nI b else nI a) = nI (max a b) := by
  by_cases h : a < b
  · rw [if_pos (nI_lt h hb), Nat.max_eq_right (by omega)]
  · rw [if_neg (nI_nlt (by omega) ha), Nat.max_eq_left (by omega)]
set_option maxHeartbeats 4000000 in
set_option maxRecDepth 100000 in
theorem ev_gcd {X : py_X} {σ : py_H} {a0 b0 : Nat} (ha0 : a0 < 2 ^ 31) (hb0 : b0 < 2 ^ 31) : py_Ev X 1 yX5_commonDivisor cX5_commonDivisor 7 (some .int) [.ref 37, .int (nI a0), .int (nI b0)] σ (py_ret (.int (nI (max 1 (Nat.gcd a0 b0)))) σ) := by
  refine py_ofI (own := RX5) YX5_commonDivisor.2.2.2.2 rfl rfl (Nat.le_of_ble_eq_true rfl)  ?_
  show py_Go X RX5 cX5_commonDivisor 7 1 0 [some (.ref 37), some (.int (nI a0)), some (.int (nI b0)), none, none, none, none] [] σ (py_ret (.int (nI (max 1 (Nat.gcd a0 b0)))) σ)
  have loop : ∀ i, i ≤ 64 → ∀ a b, Nat.gcd a b = Nat.gcd a0 b0 → a < 2 ^ 31 → b < 2 ^ 31 → (i = 0 ∨ (b ≤ a ∧ a * b * 2 ^ i ≤ 2 ^ 63)) → py_Go X RX5 cX5_commonDivisor 7 1 8 [some (.ref 37), some (.int (nI a0)), some (.int (nI b0)), some (.int (nI a)), some (.int (nI b)), some (.int (nI i)), none] [] σ (py_ret (.int (nI (max 1 (Nat.gcd a0 b0)))) σ) := by
    refine py_loop _ (64) (fun i hi ih a b hg ha1 hb1 hme => ?_)
    refine go_iload (pc := 8) dX5_commonDivisor_8 rfl ?_
    refine go_bipush (v := nI 64) (pc := 10) dX5_commonDivisor_10 (by decide) ?_
    refine go_icmp_geN (tgt := 39) (pc := 12) dX5_commonDivisor_12 (by omega) (by omega) (by decide) (fun c_12 => ?_) (fun c_12 => ?_)
    · refine go_iconst (v := nI 1) (pc := 39) dX5_commonDivisor_39 (by decide) ?_
      refine go_iload_n (pc := 40) dX5_commonDivisor_40 rfl ?_
      refine go_mmax (pc := 41) dX5_commonDivisor_41 lX5_102 Smax Imath Cmax (by decide) (Nat.le_of_ble_eq_true rfl) ?_
      refine go_top (y := (nI (max 1 a))) (py_maxN (by omega) (by omega)) ?_
      have hb0 : b = 0 := by first | exact c_17 | exact py_euc64 (a := a) ((show i = 64 by omega) ▸ hme)
      exact go_retI (pc := 44) dX5_commonDivisor_44 (by rw [← hg, hb0, Nat.gcd_zero_right]) rfl
    · refine go_iload (pc := 15) dX5_commonDivisor_15 rfl ?_
      refine go_if_eqN (tgt := 39) (pc := 17) dX5_commonDivisor_17 (by omega) (by decide) (fun c_17 => ?_) (fun c_17 => ?_)
      · refine go_iconst (v := nI 1) (pc := 39) dX5_commonDivisor_39 (by decide) ?_
        refine go_iload_n (pc := 40) dX5_commonDivisor_40 rfl ?_
        refine go_mmax (pc := 41) dX5_commonDivisor_41 lX5_102 Smax Imath Cmax (by decide) (Nat.le_of_ble_eq_true rfl) ?_
        refine go_top (y := (nI (max 1 a))) (py_maxN (by omega) (by omega)) ?_
        have hb0 : b = 0 := by first | exact c_17 | exact py_euc64 (a := a) ((show i = 64 by omega) ▸ hme)
        exact go_retI (pc := 44) dX5_commonDivisor_44 (by rw [← hg, hb0, Nat.gcd_zero_right]) rfl
      · refine go_iload_n (pc := 20) dX5_commonDivisor_20 rfl ?_
        refine go_iload (pc := 21) dX5_commonDivisor_21 rfl ?_
        refine go_iremN (pc := 23) dX5_commonDivisor_23 (by omega) (by omega) (by omega) ?_
        refine go_istore (pc := 24) dX5_commonDivisor_24 (by decide) rfl ?_
        refine go_iload (pc := 26) dX5_commonDivisor_26 rfl ?_
        refine go_istore_n (pc := 28) dX5_commonDivisor_28 (by decide) rfl ?_
        refine go_iload (pc := 29) dX5_commonDivisor_29 rfl ?_
        refine go_istore (pc := 31) dX5_commonDivisor_31 (by decide) rfl ?_
        refine go_iincN (c := 1) (pc := 33) dX5_commonDivisor_33 rfl (by decide) (by decide) rfl ?_
        refine go_goto (tgt := 8) (pc := 36) dX5_commonDivisor_36 (by decide) ?_
        have hee := py_euc c_17 ha1 hb1 hme
        exact go_mask [true, true, true, true, true, true, false] rfl (ih c_12 b (a % b) (by rw [py_gcd_step c_17]; exact hg) hb1 (Nat.lt_trans (Nat.mod_lt a c_17) hb1) (Or.inr hee))
  refine go_iload_n (pc := 0) dX5_commonDivisor_0 rfl ?_
  refine go_istore_n (pc := 1) dX5_commonDivisor_1 (by decide) rfl ?_
  refine go_iload_n (pc := 2) dX5_commonDivisor_2 rfl ?_
  refine go_istore (pc := 3) dX5_commonDivisor_3 (by decide) rfl ?_
  refine go_iconst (v := nI 0) (pc := 5) dX5_commonDivisor_5 (by decide) ?_
  refine go_istore (pc := 6) dX5_commonDivisor_6 (by decide) rfl ?_
  exact loop 0 (Nat.zero_le _) a0 b0 rfl ha0 hb0 (Or.inl rfl)
section PYL
variable {X : py_X} {own : String} {cc : ByteArray} {nL d pc : Nat} {ls : List (Option Value)} {st : List Value} {σ : py_H} {P : py_P}
theorem go_topl {x y : Int64} (h : x = y) (k : py_Go X own cc nL d pc ls (.long y :: st) σ P) : py_Go X own cc nL d pc ls (.long x :: st) σ P := h ▸ k
theorem go_i2lN {a : Nat} (hd : decode cc pc = .ok (.i2l, 1)) (ha : a < 2 ^ 31) (k : py_Go X own cc nL d (pc + 1) ls (.long (lN a) :: st) σ P) : py_Go X own cc nL d pc ls (.int (nI a) :: st) σ P := go_i2l hd (by rw [nI_l ha]; exact k)
theorem go_l2iN {a : Nat} (hd : decode cc pc = .ok (.l2i, 1)) (k : py_Go X own cc nL d (pc + 1) ls (.int (nI a) :: st) σ P) : py_Go X own cc nL d pc ls (.long (lN a) :: st) σ P := go_l2i hd (by rw [lN_i]; exact k)
theorem go_lmulN {a b : Nat} (hd : decode cc pc = .ok (.lmul, 1)) (k : py_Go X own cc nL d (pc + 1) ls (.long (lN (a * b)) :: st) σ P) : py_Go X own cc nL d pc ls (.long (lN b) :: .long (lN a) :: st) σ P := go_lmul hd (by rw [lN_mul]; exact k)
theorem go_lremN {a b : Nat} (hd : decode cc pc = .ok (.lrem, 1)) (ha : a < 2 ^ 63) (h0 : 0 < b) (hb : b < 2 ^ 63) (k : py_Go X own cc nL d (pc + 1) ls (.long (lN (a % b)) :: st) σ P) : py_Go X own cc nL d pc ls (.long (lN b) :: .long (lN a) :: st) σ P := go_lrem hd (fun q => by
  have h1 : lN b = lN 0 := q
  rw [pk_lEQ hb (by decide)] at h1
  omega) (by rw [pk_lRem ha h0 hb]; exact k)
end PYL
/-- draws: the number and what is left of each behind k years -/
def py_xx (x : Nat) : Nat := x * 16807 % 2147483647
def py_mk (n x : Nat) (ag : Nat → Nat) : Nat → Nat := fun p => if 0 < n ∧ p = x % n then ag p - x % 5 else ag p
def py_fk (H : Nat → Nat) (k p : Nat) : Nat := py_fd (H (13 + 4 * p)) (H (14 + 4 * p)) (H (4 + 2 * H (16 + 4 * p))) (H (5 + 2 * H (16 + 4 * p))) (H 2 + k)
def py_dx (sd : Nat) : Nat → Nat
  | 0 => sd
  | k + 1 => py_xx (py_dx sd k)
def py_dg (H : Nat → Nat) (sd : Nat) : Nat → Nat → Nat
  | 0 => fun p => H (15 + 4 * p)
  | k + 1 => fun p => py_mk (H 12) (py_dx sd (k + 1)) (py_dg H sd k) p - py_fk H k p
theorem py_dx_lt {sd : Nat} (h : sd < 2147483647) : ∀ k, py_dx sd k < 2147483647
  | 0 => h
  | k + 1 => Nat.mod_lt _ (by decide)
theorem py_mk_le (n x : Nat) (ag : Nat → Nat) (p : Nat) : py_mk n x ag p ≤ ag p := by
  unfold py_mk
  split <;> omega
theorem py_dg_le (H : Nat → Nat) (sd : Nat) : ∀ k p, py_dg H sd k p ≤ H (15 + 4 * p)
  | 0, p => Nat.le_refl _
  | k + 1, p => by
    have h := py_dg_le H sd k p
    have h2 := py_mk_le (H 12) (py_dx sd (k + 1)) (py_dg H sd k) p
    show py_mk _ _ _ p - _ ≤ _
    omega
set_option maxHeartbeats 4000000 in
set_option maxRecDepth 100000 in
theorem ev_passDrawn {X : py_X} {σ : py_H} {H : Nat → Nat} (hc : py_hd σ 7 H) (hw : py_wf H) {k : Nat} {ag : Nat → Nat} (hk : k ≤ 100) (hag : ∀ p, p < H 12 → ag p ≤ 60) (hga : ∀ p, p < H 12 → σ 44 p = nI (ag p)) : py_Ev X 4 yX5_passDrawn cX5_passDrawn 4 none [.ref 37, .ref 7, .int (nI k)] σ (py_vs none (fun s => (∀ p, p < H 12 → s 44 p = nI (ag p - py_fk H k p)) ∧ py_fr [38, 44] [] σ s)) := by
  obtain ⟨w0, w1, w2, w3, w12, w03, w00, wW, wP, wR⟩ := id hw
  refine py_ofV (own := RX5) YX5_passDrawn.2.2.2.2 rfl rfl (Nat.le_of_ble_eq_true rfl)  ?_
  show py_Go X RX5 cX5_passDrawn 4 4 0 [some (.ref 37), some (.ref 7), some (.int (nI k)), none] [] σ (py_vs none (fun s => (∀ p, p < H 12 → s 44 p = nI (ag p - py_fk H k p)) ∧ py_fr [38, 44] [] σ s))
  have loop : ∀ i, i ≤ H 12 → ∀ s, (∀ p, p < i → s 44 p = nI (ag p - py_fk H k p)) → (∀ p, p < H 12 → i ≤ p → s 44 p = nI (ag p)) → py_fr [38, 44] [] σ s → py_Go X RX5 cX5_passDrawn 4 4 2 [some (.ref 37), some (.ref 7), some (.int (nI k)), some (.int (nI i))] [] s (py_vs none (fun s => (∀ p, p < H 12 → s 44 p = nI (ag p - py_fk H k p)) ∧ py_fr [38, 44] [] σ s)) := by
    refine py_loop _ (H 12) (fun i hi ih s hg1 hg2 hs => ?_)
    have hcs := py_hd_fr hs (by decide) (by decide) hc
    refine go_iload_n (pc := 2) dX5_passDrawn_2 rfl ?_
    refine go_aload_n (pc := 3) dX5_passDrawn_3 rfl ?_
    refine go_getI (x := (nI (H 12))) (pc := 4) dX5_passDrawn_4 fX5_37 rfl rfl hcs.2.2.2.2.1 ?_
    refine go_icmp_geN (tgt := 65) (pc := 7) dX5_passDrawn_7 (by omega) (by omega) (by decide) (fun c_7 => ?_) (fun c_7 => ?_)
    · exact go_retV (pc := 65) dX5_passDrawn_65 ⟨fun p hp => hg1 p (by omega), hs⟩
    · refine go_aload_n (pc := 10) dX5_passDrawn_10 rfl ?_
      refine go_getR (pc := 11) dX5_passDrawn_11 fX5_12 rfl rfl ?_
      refine go_aload_n (pc := 14) dX5_passDrawn_14 rfl ?_
      refine go_iload_n (pc := 15) dX5_passDrawn_15 rfl ?_
      refine go_cVv (pc := 16) dX5_passDrawn_16 (ev_takeFrom hcs hw c_7) lX5_53 YX3_takeFrom VX3_takeFrom rfl rfl rfl (by decide) rfl (Nat.le_of_ble_eq_true rfl) (fun s1 e1 => ?_)
      obtain ⟨e2, e3⟩ := e1
      have hq := wP i c_7
      have hcs1 := py_hd_fr e3 (by decide) (by decide) hcs
      have hbd := py_bd_of hw c_7
      have h44 := e3.at 44 (by decide) (by decide)
      have hai := hag i c_7
      have hgi := hg2 i c_7 (Nat.le_refl i)
      refine go_aload_n (pc := 19) dX5_passDrawn_19 rfl ?_
      refine go_getR (pc := 20) dX5_passDrawn_20 fX5_12 rfl rfl ?_
      refine go_aload_n (pc := 23) dX5_passDrawn_23 rfl ?_
      refine go_getR (pc := 24) dX5_passDrawn_24 fX5_34 rfl rfl ?_
      refine go_iload_n (pc := 27) dX5_passDrawn_27 rfl ?_
      refine go_aldN (x := (nI (ag i))) (pc := 28) dX5_passDrawn_28 rfl (by show i < 5; omega) (by rw [h44]; exact hgi) ?_
      refine go_putI (pc := 29) dX5_passDrawn_29 fX5_100 rfl rfl ?_
      refine go_aload_n (pc := 32) dX5_passDrawn_32 rfl ?_
      refine go_getR (pc := 33) dX5_passDrawn_33 fX5_12 rfl rfl ?_
      refine go_aload_n (pc := 36) dX5_passDrawn_36 rfl ?_
      refine go_getI (x := (nI (H 2))) (pc := 37) dX5_passDrawn_37 fX5_50 rfl rfl (by (repeat rw [py_up_k _ _ _ (by decide)]); exact hcs1.2.2.1) ?_
      refine go_iload_n (pc := 40) dX5_passDrawn_40 rfl ?_
      refine go_iaddN (pc := 41) dX5_passDrawn_41  ?_
      refine go_putI (pc := 42) dX5_passDrawn_42 fX5_147 rfl rfl ?_
      refine go_aload_n (pc := 45) dX5_passDrawn_45 rfl ?_
      refine go_getR (pc := 46) dX5_passDrawn_46 fX5_34 rfl rfl ?_
      refine go_iload_n (pc := 49) dX5_passDrawn_49 rfl ?_
      refine go_aload_n (pc := 50) dX5_passDrawn_50 rfl ?_
      refine go_getR (pc := 51) dX5_passDrawn_51 fX5_12 rfl rfl ?_
      refine go_iconst (v := nI 1) (pc := 54) dX5_passDrawn_54 (by decide) ?_
      have ho2 := (e2.k2 (ag i)).k5 (H 2 + k)
      refine go_cV (pc := 55) dX5_passDrawn_55 (ev_cellsBehind (n := 1) ho2 ⟨hbd.1, hbd.2.1, hbd.2.2.1, hbd.2.2.2.1, by omega⟩ (by decide) hq.2.1 (by omega)) lX5_61 YX3_cellsBehind VX3_cellsBehind rfl rfl rfl (by decide) rfl (Nat.le_of_ble_eq_true rfl) ?_
      refine go_top (y := nI (ag i - py_fk H k i)) (by rw [py_fs_1 hbd.1]; rfl) ?_
      refine go_astN (pc := 58) dX5_passDrawn_58 rfl (by show i < 5; omega) ?_
      refine go_iincN (c := 1) (pc := 59) dX5_passDrawn_59 rfl (by decide) (by decide) rfl ?_
      refine go_goto (tgt := 2) (pc := 62) dX5_passDrawn_62 (by decide) ?_
      refine ih c_7 _ ?_ ?_ ((((hs.tr e3 (by decide) (by decide)).up (by decide) _).up (by decide) _).up (by decide) _)
      · intro p hp
        by_cases hpi : p = i
        · subst hpi; rw [py_up_s]
        · rw [py_up_j _ _ _ hpi, py_up_k _ _ _ (by decide), py_up_k _ _ _ (by decide), h44]
          exact hg1 p (by omega)
      · intro p hp hp2
        rw [py_up_j _ _ _ (by omega), py_up_k _ _ _ (by decide), py_up_k _ _ _ (by decide), h44]
        exact hg2 p hp (by omega)
  refine go_iconst (v := nI 0) (pc := 0) dX5_passDrawn_0 (by decide) ?_
  refine go_istore_n (pc := 1) dX5_passDrawn_1 (by decide) rfl ?_
  exact loop 0 (Nat.zero_le _) σ (fun p hp => absurd hp (Nat.not_lt_zero p)) (fun p hp _ => hga p hp) (py_fr.rf _ _ σ)
set_option maxHeartbeats 4000000 in
set_option maxRecDepth 100000 in
theorem ev_draw {X : py_X} {σ : py_H} {H : Nat → Nat} (hc : py_hd σ 7 H) (hw : py_wf H) {n sd : Nat} (hn : n ≤ 60) (hsd : sd < 2147483647) : py_Ev X 5 yX5_draw cX5_draw 8 none [.ref 37, .ref 7, .int (nI n), .int (nI sd)] σ (py_vs none (fun s => (∀ p, p < H 12 → s 44 p = nI (py_dg H sd n p)) ∧ py_fr [38, 44] [] σ s)) := by
  obtain ⟨w0, w1, w2, w3, w12, w03, w00, wW, wP, wR⟩ := id hw
  refine py_ofV (own := RX5) YX5_draw.2.2.2.2 rfl rfl (Nat.le_of_ble_eq_true rfl)  ?_
  show py_Go X RX5 cX5_draw 8 5 0 [some (.ref 37), some (.ref 7), some (.int (nI n)), some (.int (nI sd)), none, none, none, none] [] σ (py_vs none (fun s => (∀ p, p < H 12 → s 44 p = nI (py_dg H sd n p)) ∧ py_fr [38, 44] [] σ s))
  have loop : ∀ i, i ≤ n → ∀ s, (∀ p, p < H 12 → s 44 p = nI (py_dg H sd i p)) → py_fr [38, 44] [] σ s → py_Go X RX5 cX5_draw 8 5 21 [some (.ref 37), some (.ref 7), some (.int (nI n)), some (.int (nI sd)), some (.long (lN (py_dx sd i))), none, some (.int (nI i)), none] [] s (py_vs none (fun s => (∀ p, p < H 12 → s 44 p = nI (py_dg H sd n p)) ∧ py_fr [38, 44] [] σ s)) := by
    refine py_loop _ (n) (fun i hi ih s hg hs => ?_)
    have hcs := py_hd_fr hs (by decide) (by decide) hc
    have hdx := py_dx_lt hsd i
    have hdx1 := py_dx_lt hsd (i + 1)
    refine go_iload (pc := 21) dX5_draw_21 rfl ?_
    refine go_iload_n (pc := 23) dX5_draw_23 rfl ?_
    refine go_icmp_geN (tgt := 96) (pc := 24) dX5_draw_24 (by omega) (by omega) (by decide) (fun c_24 => ?_) (fun c_24 => ?_)
    · exact go_retV (pc := 96) dX5_draw_96 ⟨fun p hp => by rw [show n = i by omega]; exact hg p hp, hs⟩
    · refine go_lload (pc := 27) dX5_draw_27 rfl ?_
      refine go_ldc2 (pc := 29) dX5_draw_29 kX5_138 ?_
      refine go_topl (y := lN 16807) (by decide) ?_
      refine go_lmulN (pc := 32) dX5_draw_32 ?_
      refine go_ldc2 (pc := 33) dX5_draw_33 kX5_140 ?_
      refine go_topl (y := lN 2147483647) (by decide) ?_
      refine go_lremN (pc := 36) dX5_draw_36 (by omega) (by omega) (by omega) ?_
      refine go_topl (y := lN (py_dx sd (i + 1))) rfl ?_
      refine go_lstore (pc := 37) dX5_draw_37 (by decide) rfl ?_
      refine go_aload_n (pc := 39) dX5_draw_39 rfl ?_
      refine go_getI (x := (nI (H 12))) (pc := 40) dX5_draw_40 fX5_37 rfl rfl hcs.2.2.2.2.1 ?_
      refine go_if_leN (tgt := 83) (pc := 43) dX5_draw_43 (by omega) (by decide) (fun c_43 => ?_) (fun c_43 => ?_)
      · refine go_aload_n (pc := 83) dX5_draw_83 rfl ?_
        refine go_aload_n (pc := 84) dX5_draw_84 rfl ?_
        refine go_iload (pc := 85) dX5_draw_85 rfl ?_
        have hmle : ∀ p, p < H 12 → py_mk (H 12) (py_dx sd (i + 1)) (py_dg H sd i) p ≤ 60 := fun p hp => Nat.le_trans (py_mk_le _ _ _ p) (Nat.le_trans (py_dg_le H sd i p) (wP p hp).2.2.2.2.1)
        have hg2 : ∀ p, p < H 12 → s 44 p = nI (py_mk (H 12) (py_dx sd (i + 1)) (py_dg H sd i) p) := fun p hp => absurd hp (by omega)
        have hs2 := hs
        have hcs2 := hcs
        refine go_cVv (pc := 87) dX5_draw_87 (ev_passDrawn (k := i) hcs2 hw (by omega) hmle hg2) lX5_144 YX5_passDrawn VX5_passDrawn rfl rfl rfl (by decide) rfl (Nat.le_of_ble_eq_true rfl) (fun s9 e9 => ?_)
        have hs3 := hs2.tr e9.2 (by decide) (by decide)
        refine go_iincN (c := 1) (pc := 90) dX5_draw_90 rfl (by decide) (by decide) rfl ?_
        refine go_goto (tgt := 21) (pc := 93) dX5_draw_93 (by decide) ?_
        have e8 := ih c_24 s9 (fun p hp => e9.1 p hp) hs3
        exact go_mask [true, true, true, true, true, false, true, false] rfl e8
      · refine go_lload (pc := 46) dX5_draw_46 rfl ?_
        refine go_aload_n (pc := 48) dX5_draw_48 rfl ?_
        refine go_getI (x := (nI (H 12))) (pc := 49) dX5_draw_49 fX5_37 rfl rfl hcs.2.2.2.2.1 ?_
        refine go_i2lN (pc := 52) dX5_draw_52 (by omega) ?_
        refine go_lremN (pc := 53) dX5_draw_53 (by omega) (by omega) (by omega) ?_
        refine go_l2iN (pc := 54) dX5_draw_54 ?_
        have hlt : py_dx sd (i + 1) % H 12 < H 12 := Nat.mod_lt _ c_43
        have hdl : py_dg H sd i (py_dx sd (i + 1) % H 12) ≤ 60 := Nat.le_trans (py_dg_le H sd i _) (wP _ hlt).2.2.2.2.1
        have hm5 : py_dx sd (i + 1) % 5 < 5 := Nat.mod_lt _ (by decide)
        refine go_istore (pc := 55) dX5_draw_55 (by decide) rfl ?_
        refine go_aload_n (pc := 57) dX5_draw_57 rfl ?_
        refine go_getR (pc := 58) dX5_draw_58 fX5_34 rfl rfl ?_
        refine go_iload (pc := 61) dX5_draw_61 rfl ?_
        refine go_iconst (v := nI 0) (pc := 63) dX5_draw_63 (by decide) ?_
        refine go_aload_n (pc := 64) dX5_draw_64 rfl ?_
        refine go_getR (pc := 65) dX5_draw_65 fX5_34 rfl rfl ?_
        refine go_iload (pc := 68) dX5_draw_68 rfl ?_
        refine go_aldN (x := (nI (py_dg H sd i (py_dx sd (i + 1) % H 12)))) (pc := 70) dX5_draw_70 rfl (by show (py_dx sd (i + 1)) % (H 12) < 5; omega) (hg _ hlt) ?_
        refine go_lload (pc := 71) dX5_draw_71 rfl ?_
        refine go_ldc2 (pc := 73) dX5_draw_73 kX5_142 ?_
        refine go_topl (y := lN 5) (by decide) ?_
        refine go_lremN (pc := 76) dX5_draw_76 (by omega) (by omega) (by omega) ?_
        refine go_l2iN (pc := 77) dX5_draw_77 ?_
        refine go_isub (pc := 78) dX5_draw_78  ?_
        refine go_mmax (pc := 79) dX5_draw_79 lX5_102 Smax Imath Cmax (by decide) (Nat.le_of_ble_eq_true rfl) ?_
        refine go_top (y := (nI (py_dg H sd i (py_dx sd (i + 1) % H 12) - py_dx sd (i + 1) % 5))) (py_max0 (by omega) (by omega)) ?_
        refine go_astN (pc := 82) dX5_draw_82 rfl (by show (py_dx sd (i + 1)) % (H 12) < 5; omega) ?_
        refine go_aload_n (pc := 83) dX5_draw_83 rfl ?_
        refine go_aload_n (pc := 84) dX5_draw_84 rfl ?_
        refine go_iload (pc := 85) dX5_draw_85 rfl ?_
        have hmle : ∀ p, p < H 12 → py_mk (H 12) (py_dx sd (i + 1)) (py_dg H sd i) p ≤ 60 := fun p hp => Nat.le_trans (py_mk_le _ _ _ p) (Nat.le_trans (py_dg_le H sd i p) (wP p hp).2.2.2.2.1)
        have hg2 : ∀ p, p < H 12 → (py_up s 44 ((py_dx sd (i + 1)) % (H 12)) ((nI (py_dg H sd i (py_dx sd (i + 1) % H 12) - py_dx sd (i + 1) % 5)))) 44 p = nI (py_mk (H 12) (py_dx sd (i + 1)) (py_dg H sd i) p) := by
          intro p hp
          unfold py_mk
          by_cases hpx : p = py_dx sd (i + 1) % H 12
          · rw [if_pos ⟨by omega, hpx⟩, hpx, py_up_s]
          · rw [if_neg (fun z => hpx z.2), py_up_j _ _ _ hpx]; exact hg p hp
        have hs2 := hs.up (k := 44) (j := py_dx sd (i + 1) % H 12) (by decide) (nI (py_dg H sd i (py_dx sd (i + 1) % H 12) - py_dx sd (i + 1) % 5))
        have hcs2 := py_hd_fr hs2 (by decide) (by decide) hc
        refine go_cVv (pc := 87) dX5_draw_87 (ev_passDrawn (k := i) hcs2 hw (by omega) hmle hg2) lX5_144 YX5_passDrawn VX5_passDrawn rfl rfl rfl (by decide) rfl (Nat.le_of_ble_eq_true rfl) (fun s9 e9 => ?_)
        have hs3 := hs2.tr e9.2 (by decide) (by decide)
        refine go_iincN (c := 1) (pc := 90) dX5_draw_90 rfl (by decide) (by decide) rfl ?_
        refine go_goto (tgt := 21) (pc := 93) dX5_draw_93 (by decide) ?_
        have e8 := ih c_24 s9 (fun p hp => e9.1 p hp) hs3
        exact go_mask [true, true, true, true, true, false, true, false] rfl e8
  refine go_aload_n (pc := 0) dX5_draw_0 rfl ?_
  refine go_getR (pc := 1) dX5_draw_1 fX5_43 rfl rfl ?_
  refine go_iconst (v := nI 0) (pc := 4) dX5_draw_4 (by decide) ?_
  refine go_aload_n (pc := 5) dX5_draw_5 rfl ?_
  refine go_getR (pc := 6) dX5_draw_6 fX5_34 rfl rfl ?_
  refine go_iconst (v := nI 0) (pc := 9) dX5_draw_9 (by decide) ?_
  refine go_iconst (v := nI 5) (pc := 10) dX5_draw_10 (by decide) ?_
  refine go_copy (pc := 11) dX5_draw_11 lX5_94 Ncpy Scpy Isys (by decide) (Nat.le_of_ble_eq_true rfl) rfl rfl (nI_pos (by omega)) (nI_pos (by omega)) (nI_pos (by omega)) (by rw [nI_clamp (by omega), nI_clamp (by omega)]; show 0 + (5) ≤ 5; omega) (by rw [nI_clamp (by omega), nI_clamp (by omega)]; show 0 + (5) ≤ 5; omega) ?_
  simp only [nI_clamp (show 0 < 2 ^ 31 by omega), nI_clamp (show 5 < 2 ^ 31 by omega)]
  refine go_iload_n (pc := 14) dX5_draw_14 rfl ?_
  refine go_i2lN (pc := 15) dX5_draw_15 (by omega) ?_
  refine go_lstore (pc := 16) dX5_draw_16 (by decide) rfl ?_
  refine go_iconst (v := nI 0) (pc := 18) dX5_draw_18 (by decide) ?_
  refine go_istore (pc := 19) dX5_draw_19 (by decide) rfl ?_
  refine loop 0 (Nat.zero_le _) _ ?_ ((py_fr.rf _ _ σ).row (by decide) _)
  intro p hp
  rw [py_row_self, py_cpy_ap (by omega)]
  exact (hc.2.2.2.2.2.2 p hp).2.2.1
set_option maxHeartbeats 4000000 in
set_option maxRecDepth 100000 in
theorem ev_agedLiving {X : py_X} {σ : py_H} {H : Nat → Nat} (hc : py_hd σ 7 H) (hw : py_wf H) {ag : Nat → Nat} (hag : ∀ p, p < H 12 → ag p ≤ 60) (hga : ∀ p, p < H 12 → σ 44 p = nI (ag p)) : py_Ev X 0 yX5_agedLiving cX5_agedLiving 4 (some .int) [.ref 37, .ref 7] σ (py_ret (.int (nI (py_bs (fun p => decide (0 < ag p)) (H 12)))) σ) := by
  obtain ⟨w0, w1, w2, w3, w12, w03, w00, wW, wP, wR⟩ := id hw
  refine py_ofI (own := RX5) YX5_agedLiving.2.2.2.2 rfl rfl (Nat.le_of_ble_eq_true rfl)  ?_
  show py_Go X RX5 cX5_agedLiving 4 0 0 [some (.ref 37), some (.ref 7), none, none] [] σ (py_ret (.int (nI (py_bs (fun p => decide (0 < ag p)) (H 12)))) σ)
  have loop : ∀ i, i ≤ H 12 → py_Go X RX5 cX5_agedLiving 4 0 4 [some (.ref 37), some (.ref 7), some (.int (nI (py_bs (fun p => decide (0 < ag p)) i))), some (.int (nI i))] [] σ (py_ret (.int (nI (py_bs (fun p => decide (0 < ag p)) (H 12)))) σ) := by
    refine py_loop _ (H 12) (fun i hi ih  => ?_)
    refine go_iload_n (pc := 4) dX5_agedLiving_4 rfl ?_
    refine go_aload_n (pc := 5) dX5_agedLiving_5 rfl ?_
    refine go_getI (x := (nI (H 12))) (pc := 6) dX5_agedLiving_6 fX5_37 rfl rfl hc.2.2.2.2.1 ?_
    refine go_icmp_geN (tgt := 37) (pc := 9) dX5_agedLiving_9 (by omega) (by omega) (by decide) (fun c_9 => ?_) (fun c_9 => ?_)
    · refine go_iload_n (pc := 37) dX5_agedLiving_37 rfl ?_
      exact go_retI (pc := 38) dX5_agedLiving_38 (by rw [show i = H 12 by omega]) rfl
    · refine go_iload_n (pc := 12) dX5_agedLiving_12 rfl ?_
      refine go_aload_n (pc := 13) dX5_agedLiving_13 rfl ?_
      refine go_getR (pc := 14) dX5_agedLiving_14 fX5_34 rfl rfl ?_
      refine go_iload_n (pc := 17) dX5_agedLiving_17 rfl ?_
      refine go_aldN (x := (nI (ag i))) (pc := 18) dX5_agedLiving_18 rfl (by show i < 5; omega) (hga i c_9) ?_
      have hai := hag i c_9
      refine go_if_leN (tgt := 28) (pc := 19) dX5_agedLiving_19 (by omega) (by decide) (fun c_19 => ?_) (fun c_19 => ?_)
      · refine go_iconst (v := nI 0) (pc := 28) dX5_agedLiving_28 (by decide) ?_
        refine go_ior (pc := 29) dX5_agedLiving_29 ?_
        refine go_istore_n (pc := 30) dX5_agedLiving_30 (by decide) rfl ?_
        refine go_iincN (c := 1) (pc := 31) dX5_agedLiving_31 rfl (by decide) (by decide) rfl ?_
        refine go_goto (tgt := 4) (pc := 34) dX5_agedLiving_34 (by decide) ?_
        have e8 := ih c_9
        rw [← py_bs_f (f := (fun p => decide (0 < ag p))) (p := i) (decide_eq_false (by omega))] at e8
        rw [py_or0]
        exact e8
      · refine go_iconst (v := nI 1) (pc := 22) dX5_agedLiving_22 (by decide) ?_
        refine go_iload_n (pc := 23) dX5_agedLiving_23 rfl ?_
        refine go_ishl (pc := 24) dX5_agedLiving_24 ?_
        refine go_goto (tgt := 29) (pc := 25) dX5_agedLiving_25 (by decide) ?_
        refine go_ior (pc := 29) dX5_agedLiving_29 ?_
        refine go_istore_n (pc := 30) dX5_agedLiving_30 (by decide) rfl ?_
        refine go_iincN (c := 1) (pc := 31) dX5_agedLiving_31 rfl (by decide) (by decide) rfl ?_
        refine go_goto (tgt := 4) (pc := 34) dX5_agedLiving_34 (by decide) ?_
        have e8 := ih c_9
        rw [py_or_add (py_bs_lt _ i) (by omega), py_bs_t (f := (fun p => decide (0 < ag p))) (p := i) (decide_eq_true (by omega))]
        exact e8
  refine go_iconst (v := nI 0) (pc := 0) dX5_agedLiving_0 (by decide) ?_
  refine go_istore_n (pc := 1) dX5_agedLiving_1 (by decide) rfl ?_
  refine go_iconst (v := nI 0) (pc := 2) dX5_agedLiving_2 (by decide) ?_
  refine go_istore_n (pc := 3) dX5_agedLiving_3 (by decide) rfl ?_
  exact loop 0 (Nat.zero_le _)
def py_sm (f : Nat → Nat) : Nat → Nat
  | 0 => 0
  | n + 1 => py_sm f n + f n
theorem py_sm_cong {f g : Nat → Nat} : ∀ {n : Nat}, (∀ k, k < n → f k = g k) → py_sm f n = py_sm g n
  | 0, _ => rfl
  | n + 1, h => by
    show py_sm f n + f n = py_sm g n + g n
    rw [py_sm_cong (fun k hk => h k (by omega)), h n (by omega)]
theorem py_sm_le {f : Nat → Nat} {c : Nat} : ∀ {n : Nat}, (∀ k, k < n → f k ≤ c) → py_sm f n ≤ n * c
  | 0, _ => Nat.zero_le _
  | n + 1, h => by
    have ih := py_sm_le (n := n) (fun k hk => h k (by omega))
    have h1 := h n (by omega)
    show py_sm f n + f n ≤ _
    rw [Nat.succ_mul]
    omega
set_option maxHeartbeats 4000000 in
set_option maxRecDepth 100000 in
theorem ev_agedCells {X : py_X} {σ : py_H} {H : Nat → Nat} (hc : py_hd σ 7 H) (hw : py_wf H) {ag : Nat → Nat} (hag : ∀ p, p < H 12 → ag p ≤ 60) (hga : ∀ p, p < H 12 → σ 44 p = nI (ag p)) : py_Ev X 0 yX5_agedCells cX5_agedCells 4 (some .int) [.ref 37, .ref 7] σ (py_ret (.int (nI (py_sm ag (H 12)))) σ) := by
  obtain ⟨w0, w1, w2, w3, w12, w03, w00, wW, wP, wR⟩ := id hw
  refine py_ofI (own := RX5) YX5_agedCells.2.2.2.2 rfl rfl (Nat.le_of_ble_eq_true rfl)  ?_
  show py_Go X RX5 cX5_agedCells 4 0 0 [some (.ref 37), some (.ref 7), none, none] [] σ (py_ret (.int (nI (py_sm ag (H 12)))) σ)
  have loop : ∀ i, i ≤ H 12 → py_Go X RX5 cX5_agedCells 4 0 4 [some (.ref 37), some (.ref 7), some (.int (nI (py_sm ag i))), some (.int (nI i))] [] σ (py_ret (.int (nI (py_sm ag (H 12)))) σ) := by
    refine py_loop _ (H 12) (fun i hi ih  => ?_)
    refine go_iload_n (pc := 4) dX5_agedCells_4 rfl ?_
    refine go_aload_n (pc := 5) dX5_agedCells_5 rfl ?_
    refine go_getI (x := (nI (H 12))) (pc := 6) dX5_agedCells_6 fX5_37 rfl rfl hc.2.2.2.2.1 ?_
    refine go_icmp_geN (tgt := 27) (pc := 9) dX5_agedCells_9 (by omega) (by omega) (by decide) (fun c_9 => ?_) (fun c_9 => ?_)
    · refine go_iload_n (pc := 27) dX5_agedCells_27 rfl ?_
      exact go_retI (pc := 28) dX5_agedCells_28 (by rw [show i = H 12 by omega]) rfl
    · refine go_iload_n (pc := 12) dX5_agedCells_12 rfl ?_
      refine go_aload_n (pc := 13) dX5_agedCells_13 rfl ?_
      refine go_getR (pc := 14) dX5_agedCells_14 fX5_34 rfl rfl ?_
      refine go_iload_n (pc := 17) dX5_agedCells_17 rfl ?_
      refine go_aldN (x := (nI (ag i))) (pc := 18) dX5_agedCells_18 rfl (by show i < 5; omega) (hga i c_9) ?_
      refine go_iaddN (pc := 19) dX5_agedCells_19  ?_
      refine go_istore_n (pc := 20) dX5_agedCells_20 (by decide) rfl ?_
      refine go_iincN (c := 1) (pc := 21) dX5_agedCells_21 rfl (by decide) (by decide) rfl ?_
      refine go_goto (tgt := 4) (pc := 24) dX5_agedCells_24 (by decide) ?_
      exact ih c_9
  refine go_iconst (v := nI 0) (pc := 0) dX5_agedCells_0 (by decide) ?_
  refine go_istore_n (pc := 1) dX5_agedCells_1 (by decide) rfl ?_
  refine go_iconst (v := nI 0) (pc := 2) dX5_agedCells_2 (by decide) ?_
  refine go_istore_n (pc := 3) dX5_agedCells_3 (by decide) rfl ?_
  exact loop 0 (Nat.zero_le _)
