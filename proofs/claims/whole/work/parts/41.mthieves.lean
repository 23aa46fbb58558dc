/-! contracts: the reference's thieves -/
/-- a house with those of s among the first i pictures burnt -/
def py_bn (H : Nat → Nat) (s i : Nat) : Nat → Nat := fun j => if (15 ≤ j ∧ (j - 15) % 4 = 0 ∧ (j - 15) / 4 < i) ∧ py_bit s ((j - 15) / 4) = true then 0 else H j
theorem py_bn_0 (H : Nat → Nat) (s : Nat) : py_bn H s 0 = H := by
  funext j
  unfold py_bn
  rw [if_neg (by omega)]
theorem py_bn_l {H : Nat → Nat} {s i p : Nat} (hp : p < i) : py_bn H s i (15 + 4 * p) = if py_bit s p = true then 0 else H (15 + 4 * p) := by
  unfold py_bn
  rw [show (15 + 4 * p - 15) / 4 = p by omega]
  by_cases h : py_bit s p = true
  · rw [if_pos ⟨by omega, h⟩, if_pos h]
  · rw [if_neg (fun z => h z.2), if_neg h]
theorem py_bn_g {H : Nat → Nat} {s i p : Nat} (hp : i ≤ p) : py_bn H s i (15 + 4 * p) = H (15 + 4 * p) := by
  unfold py_bn
  rw [if_neg]
  rintro ⟨⟨a, b, c⟩, d⟩
  omega
theorem py_bn_o {H : Nat → Nat} {s i j : Nat} (h : ∀ p, j ≠ 15 + 4 * p) : py_bn H s i j = H j := by
  unfold py_bn
  rw [if_neg]
  rintro ⟨⟨a, b, c⟩, d⟩
  exact h ((j - 15) / 4) (by omega)
theorem py_bn_s {H : Nat → Nat} {s i v : Nat} (hv : v = if py_bit s i = true then 0 else H (15 + 4 * i)) : (fun j => if j = 15 + 4 * i then v else py_bn H s i j) = py_bn H s (i + 1) := by
  funext j
  by_cases hj : j = 15 + 4 * i
  · rw [if_pos hj, hj, py_bn_l (show i < i + 1 by omega), hv]
  · rw [if_neg hj]
    unfold py_bn
    by_cases h : (15 ≤ j ∧ (j - 15) % 4 = 0 ∧ (j - 15) / 4 < i) ∧ py_bit s ((j - 15) / 4) = true
    · rw [if_pos h, if_pos ⟨⟨h.1.1, h.1.2.1, by omega⟩, h.2⟩]
    · rw [if_neg h, if_neg]
      rintro ⟨⟨a, b, c⟩, d⟩
      exact h ⟨⟨a, b, by omega⟩, d⟩
theorem py_bn_wm {H : Nat → Nat} (h : py_wm H) (s i : Nat) : py_wm (py_bn H s i) := by
  refine py_wm_c h (fun j _ hj => py_bn_o hj) (by rw [py_bn_o (fun p => by omega)]; exact h.2.2.1) (fun p hp => ?_)
  have z := (h.2.2.2.2 p hp).2.2.2.1
  by_cases hi : p < i
  · rw [py_bn_l hi]; split <;> omega
  · rw [py_bn_g (by omega)]; exact z
theorem py_bn_tl {H : Nat → Nat} (h : py_wm H) (s e : Nat) : py_pc (py_lvH (py_age (py_bn H s (H 12)) e)) = py_tl H e s := by
  have e12 : py_bn H s (H 12) 12 = H 12 := py_bn_o (fun p => by omega)
  unfold py_lvH
  rw [py_age_12, e12, py_pc_bs _ h.1]
  refine py_cn_cong (fun p hp => ?_)
  have z := h.2.2.2.2 p hp
  have h3 := h.2.1
  rw [py_age_l _ e (by rw [e12]; exact hp), py_bn_l hp]
  have ef : py_fn (py_bn H s (H 12)) p e = py_fn H p e := by
    unfold py_fn
    rw [py_bn_o (j := 13 + 4 * p) (fun q => by omega), py_bn_o (j := 14 + 4 * p) (fun q => by omega), py_bn_o (j := 16 + 4 * p) (fun q => by omega), py_bn_o (j := 4 + 2 * H (16 + 4 * p)) (fun q => by omega), py_bn_o (j := 5 + 2 * H (16 + 4 * p)) (fun q => by omega), py_bn_o (j := 2) (fun q => by omega)]
  rw [ef]
  cases hb : py_bit s p
  · rw [Bool.eq_iff_iff]
    simp [py_lf]
    exact ⟨fun z => decide_eq_true z, fun z => of_decide_eq_true z⟩
  · simp
theorem py_uw_0 (A c s : Nat) : py_uw A c s 0 = if py_sub s A = 0 then 1 else 0 := rfl
theorem py_b_nI (c : Prop) [Decidable c] : py_b c = nI (if c then 1 else 0) := by
  unfold py_b
  split <;> rfl
theorem py_sub_lt (s a : Nat) : py_sub s a < 32 := py_bs_lt _ 5
theorem py_andn2 {s a : Nat} (hs : s < 32) (ha : a < 32) : (nI s) &&& ((nI a) ^^^ (-1)) = nI (py_sub s a) := py_andn s hs a ha
theorem py_tb_s {A c s i : Nat} : py_uw A c s (i + 1) = py_uw A c s i * (if py_bit A i = true then (if py_bit s i = true then c else 10 - c) else 1) := rfl
theorem py_ab_s {H : Nat → Nat} {m e c s : Nat} : py_ab H m e c (s + 1) = py_ab H m e c s + (if m ≤ py_tl H e s then py_uw (py_lvH H) c s (H 12) else 0) := rfl
set_option maxHeartbeats 4000000 in
set_option maxRecDepth 100000 in
theorem mo_thieves {X : py_X} {σ : py_H} {R : py_Rt} {q : Int32} {B : Nat → Nat} {N : Nat} {ft : Int32} {H : Nat → Nat} {n : Nat} {As : Nat → Nat → Nat} {I0 I1 : Option (Nat → Nat)} {t : Nat} {tr : Nat → Int32} (hI : py_IM σ R q B N ft H n As I0 I1 t tr) (hW : py_IW H n As I0 I1 t) {x d c y : Int32} : py_Ev X 4 yX8_thieves cX8_thieves 11 (some .int) [.ref 47, .int (x), .int (d), .int (c), .int (y)] σ (py_vs (some (.int (an_thieves H x d c y))) (fun s => py_IM s R q B N ft H n As I0 I1 t tr ∧ py_fr py_SM [] σ s)) := by
  obtain ⟨h1, h2, h3, h4, h5, h6, h7, h8, h9⟩ := id hI
  obtain ⟨hw, hA, hJ0, hJ1, ht16⟩ := id hW
  obtain ⟨w0, w1, w2, w3, w12, w03, w00, wW, wP, wR⟩ := id hw
  have hm := py_wm_of hw
  refine py_ofI (own := RX8) YX8_thieves.2.2.2.2 rfl rfl (Nat.le_of_ble_eq_true rfl)  ?_
  show py_Go X RX8 cX8_thieves 11 4 0 [some (.ref 47), some (.int (x)), some (.int (d)), some (.int (c)), some (.int (y)), none, none, none, none, none, none] [] σ (py_vs (some (.int (an_thieves H x d c y))) (fun s => py_IM s R q B N ft H n As I0 I1 t tr ∧ py_fr py_SM [] σ s))
  refine go_aload_n (pc := 0) dX8_thieves_0 rfl ?_
  refine go_cV (pc := 1) dX8_thieves_1 (ev_isHouse h5 w0) lX8_166 YX8_isHouse VX8_isHouse rfl rfl rfl (by decide) rfl (Nat.le_of_ble_eq_true rfl) ?_
  refine go_if_neB (tgt := 10) (pc := 4) dX8_thieves_4 (by decide) (fun c_4 => ?_) (fun c_4 => ?_)
  · refine go_iload_n (pc := 10) dX8_thieves_10 rfl ?_
    refine go_iconst (v := nI 0) (pc := 11) dX8_thieves_11 (by decide) ?_
    refine go_iconst (v := nI 5) (pc := 12) dX8_thieves_12 (by decide) ?_
    refine go_cS (pc := 13) dX8_thieves_13 ev_inN lX8_59 YX8_in SX8_in rfl (by decide) rfl (Nat.le_of_ble_eq_true rfl) ?_
    refine go_if_eqB (tgt := 46) (pc := 16) dX8_thieves_16 (by decide) (fun c_16 => ?_) (fun c_16 => ?_)
    · refine go_ldc (pc := 46) dX8_thieves_46 kX8_67 ?_
      exact go_retI (pc := 48) dX8_thieves_48 (by unfold an_thieves; (repeat' split) <;> first | rfl | omega) ⟨hI, py_fr.rf _ _ σ⟩
    · obtain ⟨m, rfl, hm0, hm5, hmI, hmC⟩ := py_rg_of (x := x) (a := 0) (b := 5) c_16
      refine go_iload_n (pc := 19) dX8_thieves_19 rfl ?_
      refine go_cS (pc := 20) dX8_thieves_20 ev_misFar lX8_183 YX8_isFar SX8_isFar rfl (by decide) rfl (Nat.le_of_ble_eq_true rfl) ?_
      refine go_if_eqB (tgt := 46) (pc := 23) dX8_thieves_23 (by decide) (fun c_23 => ?_) (fun c_23 => ?_)
      · refine go_ldc (pc := 46) dX8_thieves_46 kX8_67 ?_
        exact go_retI (pc := 48) dX8_thieves_48 (by unfold an_thieves; (repeat' split) <;> first | rfl | omega) ⟨hI, py_fr.rf _ _ σ⟩
      · obtain ⟨e, rfl, he0, he, heI, heC⟩ := py_rg_of (x := d) (a := 0) (b := 60) c_23
        refine go_iload_n (pc := 26) dX8_thieves_26 rfl ?_
        refine go_iconst (v := nI 0) (pc := 27) dX8_thieves_27 (by decide) ?_
        refine go_bipush (v := nI 10) (pc := 28) dX8_thieves_28 (by decide) ?_
        refine go_cS (pc := 30) dX8_thieves_30 ev_inN lX8_59 YX8_in SX8_in rfl (by decide) rfl (Nat.le_of_ble_eq_true rfl) ?_
        refine go_if_eqB (tgt := 46) (pc := 33) dX8_thieves_33 (by decide) (fun c_33 => ?_) (fun c_33 => ?_)
        · refine go_ldc (pc := 46) dX8_thieves_46 kX8_67 ?_
          exact go_retI (pc := 48) dX8_thieves_48 (by unfold an_thieves; (repeat' split) <;> first | rfl | omega) ⟨hI, py_fr.rf _ _ σ⟩
        · obtain ⟨k, rfl, hk0, hk, hkI, hkC⟩ := py_rg_of (x := c) (a := 0) (b := 10) c_33
          refine go_iload (pc := 36) dX8_thieves_36 rfl ?_
          refine go_iconst (v := nI 0) (pc := 38) dX8_thieves_38 (by decide) ?_
          refine go_iconst (v := nI 1) (pc := 39) dX8_thieves_39 (by decide) ?_
          refine go_cS (pc := 40) dX8_thieves_40 ev_inN lX8_59 YX8_in SX8_in rfl (by decide) rfl (Nat.le_of_ble_eq_true rfl) ?_
          refine go_if_neB (tgt := 49) (pc := 43) dX8_thieves_43 (by decide) (fun c_43 => ?_) (fun c_43 => ?_)
          · obtain ⟨b, rfl, hb0, hb, hbI, hbC⟩ := py_rg_of (x := y) (a := 0) (b := 1) c_43
            refine go_aload_n (pc := 49) dX8_thieves_49 rfl ?_
            refine go_getR (pc := 50) dX8_thieves_50 fX8_25 rfl rfl ?_
            refine go_cS (pc := 53) dX8_thieves_53 (ev_mliving_53 h5 w12 (fun p hp => (wP p hp).2.2.2.2.1)) lX8_173 YX8_living SX8_living rfl (by decide) rfl (Nat.le_of_ble_eq_true rfl) ?_
            have hal : py_lvH H < 32 := py_lvH_lt w12
            refine go_istore (pc := 56) dX8_thieves_56 (by decide) rfl ?_
            refine go_iconst (v := nI 0) (pc := 58) dX8_thieves_58 (by decide) ?_
            refine go_istore (pc := 59) dX8_thieves_59 (by decide) rfl ?_
            refine go_iconst (v := nI 1) (pc := 61) dX8_thieves_61 (by decide) ?_
            refine go_istore (pc := 62) dX8_thieves_62 (by decide) rfl ?_
            refine go_iconst (v := nI 0) (pc := 64) dX8_thieves_64 (by decide) ?_
            refine go_istore (pc := 65) dX8_thieves_65 (by decide) rfl ?_
            have hab := py_ab_up hw (m := m) (e := e) (c := k) (by omega)
            have hten : 0 < 10 ^ py_la H := Nat.pow_pos (by decide)
            have hten5 : 10 ^ py_la H ≤ 10 ^ 5 := Nat.pow_le_pow_right (by decide) (Nat.le_trans (py_cn_le _ _) w12)
            have hpk : 0 < 10 ^ (py_la H - py_lc H e) := Nat.pow_pos (by decide)
            have hte : 10 ^ py_la H = 10 ^ py_lc H e * 10 ^ (py_la H - py_lc H e) := by rw [← Nat.pow_add, show py_lc H e + (py_la H - py_lc H e) = py_la H by have z := hab.1; omega]
            have habl := py_ab_le w12 (m := m) (e := e) (c := k) (by omega) (py_lvH H + 1)
            have low : ∀ i, i ≤ H 12 → py_Go X RX8 cX8_thieves 11 4 67 [some (.ref 47), some (.int (nI m)), some (.int (nI e)), some (.int (nI k)), some (.int (nI b)), some (.int (nI (py_lvH H))), some (.int (nI 0)), some (.int (nI (10 ^ py_cn (fun p => decide (0 < H (15 + 4 * p))) i))), some (.int (nI i)), none, none] [] σ (py_vs (some (.int (an_thieves H (nI m) (nI e) (nI k) (nI b)))) (fun s => py_IM s R q B N ft H n As I0 I1 t tr ∧ py_fr py_SM [] σ s)) := by
              refine py_loop _ (H 12) (fun i hi ih1 => ?_)
              refine go_iload (pc := 67) dX8_thieves_67 rfl ?_
              refine go_aload_n (pc := 69) dX8_thieves_69 rfl ?_
              refine go_getR (pc := 70) dX8_thieves_70 fX8_25 rfl rfl ?_
              refine go_bipush (v := nI 12) (pc := 73) dX8_thieves_73 (by decide) ?_
              refine go_aldN (x := (nI (H 12))) (pc := 75) dX8_thieves_75 rfl (by show 12 < 33; omega) (py_hm_at h5 (show 12 = 12 by omega) (by omega)) ?_
              refine go_icmp_geN (tgt := 106) (pc := 76) dX8_thieves_76 (by omega) (by omega) (by decide) (fun c_76 => ?_) (fun c_76 => ?_)
              · have hiH : i = H 12 := by omega
                rw [show 10 ^ py_cn (fun p => decide (0 < H (15 + 4 * p))) i = 10 ^ py_la H by rw [hiH]; rfl]
                refine go_iconst (v := nI 0) (pc := 106) dX8_thieves_106 (by decide) ?_
                refine go_istore (pc := 107) dX8_thieves_107 (by decide) rfl ?_
                have loop : ∀ u, u ≤ py_lvH H + 1 → ∀ s, py_fr [55] [] σ s → py_Go X RX8 cX8_thieves 11 4 109 [some (.ref 47), some (.int (nI m)), some (.int (nI e)), some (.int (nI k)), some (.int (nI b)), some (.int (nI (py_lvH H))), some (.int (nI (py_ab H m e k u))), some (.int (nI (10 ^ py_la H))), some (.int (nI u)), none, none] [] s (py_vs (some (.int (an_thieves H (nI m) (nI e) (nI k) (nI b)))) (fun s => py_IM s R q B N ft H n As I0 I1 t tr ∧ py_fr py_SM [] σ s)) := by
                  refine py_loop _ (py_lvH H + 1) (fun u hu ih s hs => ?_)
                  have h5s : py_hm (s 53) 0 H := by rw [hs.at 53 (by decide) (by decide)]; exact h5
                  refine go_iload (pc := 109) dX8_thieves_109 rfl ?_
                  refine go_iload (pc := 111) dX8_thieves_111 rfl ?_
                  refine go_icmp_gtN (tgt := 273) (pc := 113) dX8_thieves_113 (by omega) (by omega) (by decide) (fun c_113 => ?_) (fun c_113 => ?_)
                  · have hu9 : u = py_lvH H + 1 := by omega
                    subst hu9
                    refine go_iload (pc := 273) dX8_thieves_273 rfl ?_
                    refine go_istore (pc := 275) dX8_thieves_275 (by decide) rfl ?_
                    refine go_iload (pc := 277) dX8_thieves_277 rfl ?_
                    refine go_istore (pc := 279) dX8_thieves_279 (by decide) rfl ?_
                    have euc : ∀ z : Nat × Nat, (z.1 < 2 ^ 31 ∧ z.2 < 2 ^ 31 ∧ Nat.gcd z.1 z.2 = Nat.gcd (py_ab H m e k (py_lvH H + 1)) (10 ^ py_la H)) → py_Go X RX8 cX8_thieves 11 4 281 [some (.ref 47), some (.int (nI m)), some (.int (nI e)), some (.int (nI k)), some (.int (nI b)), some (.int (nI (py_lvH H))), some (.int (nI (py_ab H m e k (py_lvH H + 1)))), some (.int (nI (10 ^ py_la H))), some (.int (nI (z.1))), some (.int (nI (z.2))), none] [] s (py_vs (some (.int (an_thieves H (nI m) (nI e) (nI k) (nI b)))) (fun s => py_IM s R q B N ft H n As I0 I1 t tr ∧ py_fr py_SM [] σ s)) := by
                      refine py_while _ (fun z => z.2) (fun z ih hz => ?_)
                      refine go_iload (pc := 281) dX8_thieves_281 rfl ?_
                      refine go_if_eqN (tgt := 304) (pc := 283) dX8_thieves_283 (by omega) (by decide) (fun c_283 => ?_) (fun c_283 => ?_)
                      · have hg : Nat.gcd z.1 z.2 = z.1 := by rw [c_283, Nat.gcd_zero_right]
                        refine go_iload (pc := 304) dX8_thieves_304 rfl ?_
                        refine go_if_neN (tgt := 314) (pc := 306) dX8_thieves_306 (by omega) (by decide) (fun c_306 => ?_) (fun c_306 => ?_)
                        · refine go_iload (pc := 314) dX8_thieves_314 rfl ?_
                          refine go_iload (pc := 316) dX8_thieves_316 rfl ?_
                          have hgp : 0 < z.1 := by rw [← hg, hz.2.2]; exact Nat.gcd_pos_of_pos_right _ hten
                          refine go_idivN (pc := 318) dX8_thieves_318 (by omega) (by omega) (by omega) ?_
                          exact go_retI (pc := 319) dX8_thieves_319 (by unfold an_thieves; rw [if_pos (by omega), if_pos (by omega), hmC, heC, hkC, if_neg (by omega), ← hg, hz.2.2, hab.2, hte, Nat.gcd_mul_right, py_low hpk]) ⟨⟨py_rk_fr hs (by decide) h1, (by rw [hs 47 4 (by decide) (by decide)]; exact h2), py_tm_fr hs (by decide) h3, (by rw [hs 47 7 (by decide) (by decide)]; exact h4), (by rw [hs.at 53 (by decide) (by decide)]; exact h5), py_am_fr hs (by decide) h6, py_ik_fr hs (by decide) h7, py_ik_fr hs (by decide) h8, py_tn_fr hs (by decide) h9⟩, hs.wd (by decide) (by decide)⟩
                        · refine go_iload (pc := 309) dX8_thieves_309 rfl ?_
                          refine go_goto (tgt := 316) (pc := 311) dX8_thieves_311 (by decide) ?_
                          refine go_iload (pc := 316) dX8_thieves_316 rfl ?_
                          have hgp : 0 < z.1 := by rw [← hg, hz.2.2]; exact Nat.gcd_pos_of_pos_right _ hten
                          refine go_idivN (pc := 318) dX8_thieves_318 (by omega) (by omega) (by omega) ?_
                          exact go_retI (pc := 319) dX8_thieves_319 (by unfold an_thieves; rw [if_pos (by omega), if_pos (by omega), hmC, heC, hkC, if_pos (by omega), ← hg, hz.2.2, hab.2, hte, Nat.gcd_mul_right, py_low hpk]) ⟨⟨py_rk_fr hs (by decide) h1, (by rw [hs 47 4 (by decide) (by decide)]; exact h2), py_tm_fr hs (by decide) h3, (by rw [hs 47 7 (by decide) (by decide)]; exact h4), (by rw [hs.at 53 (by decide) (by decide)]; exact h5), py_am_fr hs (by decide) h6, py_ik_fr hs (by decide) h7, py_ik_fr hs (by decide) h8, py_tn_fr hs (by decide) h9⟩, hs.wd (by decide) (by decide)⟩
                      · refine go_iload (pc := 286) dX8_thieves_286 rfl ?_
                        refine go_iload (pc := 288) dX8_thieves_288 rfl ?_
                        refine go_iremN (pc := 290) dX8_thieves_290 (by omega) (by omega) (by omega) ?_
                        refine go_istore (pc := 291) dX8_thieves_291 (by decide) rfl ?_
                        refine go_iload (pc := 293) dX8_thieves_293 rfl ?_
                        refine go_istore (pc := 295) dX8_thieves_295 (by decide) rfl ?_
                        refine go_iload (pc := 297) dX8_thieves_297 rfl ?_
                        refine go_istore (pc := 299) dX8_thieves_299 (by decide) rfl ?_
                        refine go_goto (tgt := 281) (pc := 301) dX8_thieves_301 (by decide) ?_
                        have hml : z.1 % z.2 < z.2 := Nat.mod_lt _ c_283
                        exact go_mask [true, true, true, true, true, true, true, true, true, true, false] rfl (ih (z.2, z.1 % z.2) hml ⟨by omega, by dsimp only; omega, by dsimp only; rw [py_gcd_step c_283]; exact hz.2.2⟩)
                    exact euc (py_ab H m e k (py_lvH H + 1), 10 ^ py_la H) ⟨by omega, by omega, rfl⟩
                  · refine go_iload (pc := 116) dX8_thieves_116 rfl ?_
                    refine go_iload (pc := 118) dX8_thieves_118 rfl ?_
                    refine go_iconst (v := -1) (pc := 120) dX8_thieves_120 (by decide) ?_
                    refine go_ixor (pc := 121) dX8_thieves_121 ?_
                    refine go_iand (pc := 122) dX8_thieves_122 ?_
                    have K : py_Go X RX8 cX8_thieves 11 4 131 [some (.ref 47), some (.int (nI m)), some (.int (nI e)), some (.int (nI k)), some (.int (nI b)), some (.int (nI (py_lvH H))), some (.int (nI (py_ab H m e k u))), some (.int (nI (10 ^ py_la H))), some (.int (nI u)), none, none] [.int (nI (py_uw (py_lvH H) k u 0))] s (py_vs (some (.int (an_thieves H (nI m) (nI e) (nI k) (nI b)))) (fun s => py_IM s R q B N ft H n As I0 I1 t tr ∧ py_fr py_SM [] σ s)) := by
                      refine go_istore (pc := 131) dX8_thieves_131 (by decide) rfl ?_
                      refine go_aload_n (pc := 133) dX8_thieves_133 rfl ?_
                      refine go_cVv (pc := 134) dX8_thieves_134 (ev_tries h5s) lX8_186 YX8_tries VX8_tries rfl rfl rfl (by decide) rfl (Nat.le_of_ble_eq_true rfl) (fun s1 hs1 => ?_)
                      obtain ⟨hT1, hf1⟩ := hs1
                      have hs1 := hs.tr hf1 (by decide) (by decide)
                      refine go_iconst (v := nI 0) (pc := 137) dX8_thieves_137 (by decide) ?_
                      refine go_istore (pc := 138) dX8_thieves_138 (by decide) rfl ?_
                      have inner : ∀ i, i ≤ H 12 → ∀ s, py_hm (s 55) 0 (py_bn H u i) → py_fr [55] [] σ s → py_Go X RX8 cX8_thieves 11 4 140 [some (.ref 47), some (.int (nI m)), some (.int (nI e)), some (.int (nI k)), some (.int (nI b)), some (.int (nI (py_lvH H))), some (.int (nI (py_ab H m e k u))), some (.int (nI (10 ^ py_la H))), some (.int (nI u)), some (.int (nI (py_uw (py_lvH H) k u i))), some (.int (nI i))] [] s (py_vs (some (.int (an_thieves H (nI m) (nI e) (nI k) (nI b)))) (fun s => py_IM s R q B N ft H n As I0 I1 t tr ∧ py_fr py_SM [] σ s)) := by
                        refine py_loop _ (H 12) (fun i hi ihi s hT hs => ?_)
                        have h5s : py_hm (s 53) 0 H := by rw [hs.at 53 (by decide) (by decide)]; exact h5
                        refine go_iload (pc := 140) dX8_thieves_140 rfl ?_
                        refine go_aload_n (pc := 142) dX8_thieves_142 rfl ?_
                        refine go_getR (pc := 143) dX8_thieves_143 fX8_25 rfl rfl ?_
                        refine go_bipush (v := nI 12) (pc := 146) dX8_thieves_146 (by decide) ?_
                        refine go_aldN (x := (nI (H 12))) (pc := 148) dX8_thieves_148 rfl (by show 12 < 33; omega) (py_hm_at h5s (show 12 = 12 by omega) (by omega)) ?_
                        refine go_icmp_geN (tgt := 237) (pc := 149) dX8_thieves_149 (by omega) (by omega) (by decide) (fun c_149 => ?_) (fun c_149 => ?_)
                        · refine go_aload_n (pc := 237) dX8_thieves_237 rfl ?_
                          refine go_iload_n (pc := 238) dX8_thieves_238 rfl ?_
                          have hiH : i = H 12 := by omega
                          rw [hiH] at hT
                          have h2k : py_bn H u (H 12) 2 = H 2 := py_bn_o (fun p => by omega)
                          refine go_cVv (pc := 239) dX8_thieves_239 (ev_goes hT (py_bn_wm hm _ _) (by omega) (by rw [h2k]; omega)) lX8_189 YX8_goes VX8_goes rfl rfl rfl (by decide) rfl (Nat.le_of_ble_eq_true rfl) (fun s3 hs3 => ?_)
                          obtain ⟨hT3, hf3⟩ := hs3
                          have hs3 := hs.tr hf3 (by decide) (by decide)
                          have h12k : py_age (py_bn H u (H 12)) e 12 = H 12 := by rw [py_age_12]; exact py_bn_o (fun p => by omega)
                          refine go_iload (pc := 242) dX8_thieves_242 rfl ?_
                          refine go_aload_n (pc := 244) dX8_thieves_244 rfl ?_
                          refine go_getR (pc := 245) dX8_thieves_245 fX8_31 rfl rfl ?_
                          refine go_cS (pc := 248) dX8_thieves_248 (ev_mliving_55 hT3 (by rw [h12k]; exact w12) (py_age_60 (py_bn_wm hm _ _) e (by rw [h2k]; omega))) lX8_173 YX8_living SX8_living rfl (by decide) rfl (Nat.le_of_ble_eq_true rfl) ?_
                          refine go_cS (pc := 251) dX8_thieves_251 (ev_ones (py_lvH_lt (by rw [h12k]; exact w12))) lX8_131 YX8_ones SX8_ones rfl (by decide) rfl (Nat.le_of_ble_eq_true rfl) ?_
                          refine go_top (y := nI (py_tl H e u)) (by rw [py_bn_tl hm]) ?_
                          have htl : py_tl H e u ≤ H 12 := py_cn_le _ _
                          refine go_iload_n (pc := 254) dX8_thieves_254 rfl ?_
                          refine go_icmp_ltN (tgt := 263) (pc := 255) dX8_thieves_255 (by omega) (by omega) (by decide) (fun c_255 => ?_) (fun c_255 => ?_)
                          · refine go_iconst (v := nI 0) (pc := 263) dX8_thieves_263 (by decide) ?_
                            refine go_iaddN (pc := 264) dX8_thieves_264  ?_
                            refine go_istore (pc := 265) dX8_thieves_265 (by decide) rfl ?_
                            refine go_iincN (c := 1) (pc := 267) dX8_thieves_267 rfl (by decide) (by decide) rfl ?_
                            refine go_goto (tgt := 109) (pc := 270) dX8_thieves_270 (by decide) ?_
                            have e9 : py_ab H m e k (u + 1) = (py_ab H m e k u) + 0 := by rw [py_ab_s, ← hiH]; first | rw [if_neg (by omega)] | rw [if_pos (by omega)]
                            have e8 := ih (by omega) s3 hs3
                            rw [e9] at e8
                            exact go_mask [true, true, true, true, true, true, true, true, true, false, false] rfl e8
                          · refine go_iload (pc := 258) dX8_thieves_258 rfl ?_
                            refine go_goto (tgt := 264) (pc := 260) dX8_thieves_260 (by decide) ?_
                            refine go_iaddN (pc := 264) dX8_thieves_264  ?_
                            refine go_istore (pc := 265) dX8_thieves_265 (by decide) rfl ?_
                            refine go_iincN (c := 1) (pc := 267) dX8_thieves_267 rfl (by decide) (by decide) rfl ?_
                            refine go_goto (tgt := 109) (pc := 270) dX8_thieves_270 (by decide) ?_
                            have e9 : py_ab H m e k (u + 1) = (py_ab H m e k u) + (py_uw (py_lvH H) k u i) := by rw [py_ab_s, ← hiH]; first | rw [if_neg (by omega)] | rw [if_pos (by omega)]
                            have e8 := ih (by omega) s3 hs3
                            rw [e9] at e8
                            exact go_mask [true, true, true, true, true, true, true, true, true, false, false] rfl e8
                        · refine go_iload (pc := 152) dX8_thieves_152 rfl ?_
                          refine go_iload (pc := 154) dX8_thieves_154 rfl ?_
                          refine go_iload (pc := 156) dX8_thieves_156 rfl ?_
                          refine go_cS (pc := 158) dX8_thieves_158 (ev_has (by omega) (by omega)) lX8_193 YX8_has SX8_has rfl (by decide) rfl (Nat.le_of_ble_eq_true rfl) ?_
                          refine go_if_neB (tgt := 168) (pc := 161) dX8_thieves_161 (by decide) (fun c_161 => ?_) (fun c_161 => ?_)
                          · refine go_iload (pc := 168) dX8_thieves_168 rfl ?_
                            refine go_iload (pc := 170) dX8_thieves_170 rfl ?_
                            refine go_cS (pc := 172) dX8_thieves_172 (ev_has (by omega) (by omega)) lX8_193 YX8_has SX8_has rfl (by decide) rfl (Nat.le_of_ble_eq_true rfl) ?_
                            refine go_if_eqB (tgt := 182) (pc := 175) dX8_thieves_175 (by decide) (fun c_175 => ?_) (fun c_175 => ?_)
                            · refine go_bipush (v := nI 10) (pc := 182) dX8_thieves_182 (by decide) ?_
                              refine go_iload_n (pc := 184) dX8_thieves_184 rfl ?_
                              refine go_isubN (pc := 185) dX8_thieves_185 (by omega) ?_
                              refine go_imulN (pc := 186) dX8_thieves_186  ?_
                              refine go_istore (pc := 187) dX8_thieves_187 (by decide) rfl ?_
                              refine go_aload_n (pc := 189) dX8_thieves_189 rfl ?_
                              refine go_getR (pc := 190) dX8_thieves_190 fX8_31 rfl rfl ?_
                              refine go_bipush (v := nI 13) (pc := 193) dX8_thieves_193 (by decide) ?_
                              refine go_iconst (v := nI 4) (pc := 195) dX8_thieves_195 (by decide) ?_
                              refine go_iload (pc := 196) dX8_thieves_196 rfl ?_
                              refine go_imulN (pc := 198) dX8_thieves_198  ?_
                              refine go_iaddN (pc := 199) dX8_thieves_199  ?_
                              refine go_iconst (v := nI 2) (pc := 200) dX8_thieves_200 (by decide) ?_
                              refine go_iaddN (pc := 201) dX8_thieves_201  ?_
                              refine go_iload (pc := 202) dX8_thieves_202 rfl ?_
                              refine go_iload (pc := 204) dX8_thieves_204 rfl ?_
                              refine go_cS (pc := 206) dX8_thieves_206 (ev_has (by omega) (by omega)) lX8_193 YX8_has SX8_has rfl (by decide) rfl (Nat.le_of_ble_eq_true rfl) ?_
                              refine go_if_eqB (tgt := 216) (pc := 209) dX8_thieves_209 (by decide) (fun c_209 => ?_) (fun c_209 => ?_)
                              · refine go_aload_n (pc := 216) dX8_thieves_216 rfl ?_
                                refine go_getR (pc := 217) dX8_thieves_217 fX8_31 rfl rfl ?_
                                refine go_bipush (v := nI 13) (pc := 220) dX8_thieves_220 (by decide) ?_
                                refine go_iconst (v := nI 4) (pc := 222) dX8_thieves_222 (by decide) ?_
                                refine go_iload (pc := 223) dX8_thieves_223 rfl ?_
                                refine go_imulN (pc := 225) dX8_thieves_225  ?_
                                refine go_iaddN (pc := 226) dX8_thieves_226  ?_
                                refine go_iconst (v := nI 2) (pc := 227) dX8_thieves_227 (by decide) ?_
                                refine go_iaddN (pc := 228) dX8_thieves_228  ?_
                                refine go_aldN (x := (nI (H (15 + 4 * i)))) (pc := 229) dX8_thieves_229 rfl (by show (13 + (4 * i)) + 2 < 33; omega) ((py_hm_at hT (show (13 + (4 * i)) + 2 = 15 + 4 * i by omega) (by omega)).trans (congrArg nI (py_bn_g (Nat.le_refl i)))) ?_
                                refine go_astN (pc := 230) dX8_thieves_230 rfl (by show (13 + (4 * i)) + 2 < 33; omega) ?_
                                refine go_iincN (c := 1) (pc := 231) dX8_thieves_231 rfl (by decide) (by decide) rfl ?_
                                refine go_goto (tgt := 140) (pc := 234) dX8_thieves_234 (by decide) ?_
                                have e9 : py_uw (py_lvH H) k u (i + 1) = (py_uw (py_lvH H) k u i) * (10 - k) := by rw [py_tb_s]; first | rw [if_neg c_161] | rw [if_pos c_161, if_pos c_175] | rw [if_pos c_161, if_neg c_175]
                                have hTn : py_hm ((py_up s 55 ((13 + (4 * i)) + 2) ((nI (H (15 + 4 * i))))) 55) 0 (py_bn H u (i + 1)) := by rw [← py_bn_s (v := H (15 + 4 * i)) (by first | rw [if_pos c_209] | rw [if_neg c_209])]; exact py_hm_up (i := 15 + 4 * i) hT (by omega)
                                have e8 := ihi (by omega) _ hTn (hs.up (by decide) _)
                                rw [e9] at e8
                                exact e8
                              · refine go_iconst (v := nI 0) (pc := 212) dX8_thieves_212 (by decide) ?_
                                refine go_goto (tgt := 230) (pc := 213) dX8_thieves_213 (by decide) ?_
                                refine go_astN (pc := 230) dX8_thieves_230 rfl (by show (13 + (4 * i)) + 2 < 33; omega) ?_
                                refine go_iincN (c := 1) (pc := 231) dX8_thieves_231 rfl (by decide) (by decide) rfl ?_
                                refine go_goto (tgt := 140) (pc := 234) dX8_thieves_234 (by decide) ?_
                                have e9 : py_uw (py_lvH H) k u (i + 1) = (py_uw (py_lvH H) k u i) * (10 - k) := by rw [py_tb_s]; first | rw [if_neg c_161] | rw [if_pos c_161, if_pos c_175] | rw [if_pos c_161, if_neg c_175]
                                have hTn : py_hm ((py_up s 55 ((13 + (4 * i)) + 2) ((nI 0))) 55) 0 (py_bn H u (i + 1)) := by rw [← py_bn_s (v := 0) (by first | rw [if_pos c_209] | rw [if_neg c_209])]; exact py_hm_up (i := 15 + 4 * i) hT (by omega)
                                have e8 := ihi (by omega) _ hTn (hs.up (by decide) _)
                                rw [e9] at e8
                                exact e8
                            · refine go_iload_n (pc := 178) dX8_thieves_178 rfl ?_
                              refine go_goto (tgt := 186) (pc := 179) dX8_thieves_179 (by decide) ?_
                              refine go_imulN (pc := 186) dX8_thieves_186  ?_
                              refine go_istore (pc := 187) dX8_thieves_187 (by decide) rfl ?_
                              refine go_aload_n (pc := 189) dX8_thieves_189 rfl ?_
                              refine go_getR (pc := 190) dX8_thieves_190 fX8_31 rfl rfl ?_
                              refine go_bipush (v := nI 13) (pc := 193) dX8_thieves_193 (by decide) ?_
                              refine go_iconst (v := nI 4) (pc := 195) dX8_thieves_195 (by decide) ?_
                              refine go_iload (pc := 196) dX8_thieves_196 rfl ?_
                              refine go_imulN (pc := 198) dX8_thieves_198  ?_
                              refine go_iaddN (pc := 199) dX8_thieves_199  ?_
                              refine go_iconst (v := nI 2) (pc := 200) dX8_thieves_200 (by decide) ?_
                              refine go_iaddN (pc := 201) dX8_thieves_201  ?_
                              refine go_iload (pc := 202) dX8_thieves_202 rfl ?_
                              refine go_iload (pc := 204) dX8_thieves_204 rfl ?_
                              refine go_cS (pc := 206) dX8_thieves_206 (ev_has (by omega) (by omega)) lX8_193 YX8_has SX8_has rfl (by decide) rfl (Nat.le_of_ble_eq_true rfl) ?_
                              refine go_if_eqB (tgt := 216) (pc := 209) dX8_thieves_209 (by decide) (fun c_209 => ?_) (fun c_209 => ?_)
                              · refine go_aload_n (pc := 216) dX8_thieves_216 rfl ?_
                                refine go_getR (pc := 217) dX8_thieves_217 fX8_31 rfl rfl ?_
                                refine go_bipush (v := nI 13) (pc := 220) dX8_thieves_220 (by decide) ?_
                                refine go_iconst (v := nI 4) (pc := 222) dX8_thieves_222 (by decide) ?_
                                refine go_iload (pc := 223) dX8_thieves_223 rfl ?_
                                refine go_imulN (pc := 225) dX8_thieves_225  ?_
                                refine go_iaddN (pc := 226) dX8_thieves_226  ?_
                                refine go_iconst (v := nI 2) (pc := 227) dX8_thieves_227 (by decide) ?_
                                refine go_iaddN (pc := 228) dX8_thieves_228  ?_
                                refine go_aldN (x := (nI (H (15 + 4 * i)))) (pc := 229) dX8_thieves_229 rfl (by show (13 + (4 * i)) + 2 < 33; omega) ((py_hm_at hT (show (13 + (4 * i)) + 2 = 15 + 4 * i by omega) (by omega)).trans (congrArg nI (py_bn_g (Nat.le_refl i)))) ?_
                                refine go_astN (pc := 230) dX8_thieves_230 rfl (by show (13 + (4 * i)) + 2 < 33; omega) ?_
                                refine go_iincN (c := 1) (pc := 231) dX8_thieves_231 rfl (by decide) (by decide) rfl ?_
                                refine go_goto (tgt := 140) (pc := 234) dX8_thieves_234 (by decide) ?_
                                have e9 : py_uw (py_lvH H) k u (i + 1) = (py_uw (py_lvH H) k u i) * k := by rw [py_tb_s]; first | rw [if_neg c_161] | rw [if_pos c_161, if_pos c_175] | rw [if_pos c_161, if_neg c_175]
                                have hTn : py_hm ((py_up s 55 ((13 + (4 * i)) + 2) ((nI (H (15 + 4 * i))))) 55) 0 (py_bn H u (i + 1)) := by rw [← py_bn_s (v := H (15 + 4 * i)) (by first | rw [if_pos c_209] | rw [if_neg c_209])]; exact py_hm_up (i := 15 + 4 * i) hT (by omega)
                                have e8 := ihi (by omega) _ hTn (hs.up (by decide) _)
                                rw [e9] at e8
                                exact e8
                              · refine go_iconst (v := nI 0) (pc := 212) dX8_thieves_212 (by decide) ?_
                                refine go_goto (tgt := 230) (pc := 213) dX8_thieves_213 (by decide) ?_
                                refine go_astN (pc := 230) dX8_thieves_230 rfl (by show (13 + (4 * i)) + 2 < 33; omega) ?_
                                refine go_iincN (c := 1) (pc := 231) dX8_thieves_231 rfl (by decide) (by decide) rfl ?_
                                refine go_goto (tgt := 140) (pc := 234) dX8_thieves_234 (by decide) ?_
                                have e9 : py_uw (py_lvH H) k u (i + 1) = (py_uw (py_lvH H) k u i) * k := by rw [py_tb_s]; first | rw [if_neg c_161] | rw [if_pos c_161, if_pos c_175] | rw [if_pos c_161, if_neg c_175]
                                have hTn : py_hm ((py_up s 55 ((13 + (4 * i)) + 2) ((nI 0))) 55) 0 (py_bn H u (i + 1)) := by rw [← py_bn_s (v := 0) (by first | rw [if_pos c_209] | rw [if_neg c_209])]; exact py_hm_up (i := 15 + 4 * i) hT (by omega)
                                have e8 := ihi (by omega) _ hTn (hs.up (by decide) _)
                                rw [e9] at e8
                                exact e8
                          · refine go_iconst (v := nI 1) (pc := 164) dX8_thieves_164 (by decide) ?_
                            refine go_goto (tgt := 186) (pc := 165) dX8_thieves_165 (by decide) ?_
                            refine go_imulN (pc := 186) dX8_thieves_186  ?_
                            refine go_istore (pc := 187) dX8_thieves_187 (by decide) rfl ?_
                            refine go_aload_n (pc := 189) dX8_thieves_189 rfl ?_
                            refine go_getR (pc := 190) dX8_thieves_190 fX8_31 rfl rfl ?_
                            refine go_bipush (v := nI 13) (pc := 193) dX8_thieves_193 (by decide) ?_
                            refine go_iconst (v := nI 4) (pc := 195) dX8_thieves_195 (by decide) ?_
                            refine go_iload (pc := 196) dX8_thieves_196 rfl ?_
                            refine go_imulN (pc := 198) dX8_thieves_198  ?_
                            refine go_iaddN (pc := 199) dX8_thieves_199  ?_
                            refine go_iconst (v := nI 2) (pc := 200) dX8_thieves_200 (by decide) ?_
                            refine go_iaddN (pc := 201) dX8_thieves_201  ?_
                            refine go_iload (pc := 202) dX8_thieves_202 rfl ?_
                            refine go_iload (pc := 204) dX8_thieves_204 rfl ?_
                            refine go_cS (pc := 206) dX8_thieves_206 (ev_has (by omega) (by omega)) lX8_193 YX8_has SX8_has rfl (by decide) rfl (Nat.le_of_ble_eq_true rfl) ?_
                            refine go_if_eqB (tgt := 216) (pc := 209) dX8_thieves_209 (by decide) (fun c_209 => ?_) (fun c_209 => ?_)
                            · refine go_aload_n (pc := 216) dX8_thieves_216 rfl ?_
                              refine go_getR (pc := 217) dX8_thieves_217 fX8_31 rfl rfl ?_
                              refine go_bipush (v := nI 13) (pc := 220) dX8_thieves_220 (by decide) ?_
                              refine go_iconst (v := nI 4) (pc := 222) dX8_thieves_222 (by decide) ?_
                              refine go_iload (pc := 223) dX8_thieves_223 rfl ?_
                              refine go_imulN (pc := 225) dX8_thieves_225  ?_
                              refine go_iaddN (pc := 226) dX8_thieves_226  ?_
                              refine go_iconst (v := nI 2) (pc := 227) dX8_thieves_227 (by decide) ?_
                              refine go_iaddN (pc := 228) dX8_thieves_228  ?_
                              refine go_aldN (x := (nI (H (15 + 4 * i)))) (pc := 229) dX8_thieves_229 rfl (by show (13 + (4 * i)) + 2 < 33; omega) ((py_hm_at hT (show (13 + (4 * i)) + 2 = 15 + 4 * i by omega) (by omega)).trans (congrArg nI (py_bn_g (Nat.le_refl i)))) ?_
                              refine go_astN (pc := 230) dX8_thieves_230 rfl (by show (13 + (4 * i)) + 2 < 33; omega) ?_
                              refine go_iincN (c := 1) (pc := 231) dX8_thieves_231 rfl (by decide) (by decide) rfl ?_
                              refine go_goto (tgt := 140) (pc := 234) dX8_thieves_234 (by decide) ?_
                              have e9 : py_uw (py_lvH H) k u (i + 1) = (py_uw (py_lvH H) k u i) * 1 := by rw [py_tb_s]; first | rw [if_neg c_161] | rw [if_pos c_161, if_pos c_175] | rw [if_pos c_161, if_neg c_175]
                              have hTn : py_hm ((py_up s 55 ((13 + (4 * i)) + 2) ((nI (H (15 + 4 * i))))) 55) 0 (py_bn H u (i + 1)) := by rw [← py_bn_s (v := H (15 + 4 * i)) (by first | rw [if_pos c_209] | rw [if_neg c_209])]; exact py_hm_up (i := 15 + 4 * i) hT (by omega)
                              have e8 := ihi (by omega) _ hTn (hs.up (by decide) _)
                              rw [e9] at e8
                              exact e8
                            · refine go_iconst (v := nI 0) (pc := 212) dX8_thieves_212 (by decide) ?_
                              refine go_goto (tgt := 230) (pc := 213) dX8_thieves_213 (by decide) ?_
                              refine go_astN (pc := 230) dX8_thieves_230 rfl (by show (13 + (4 * i)) + 2 < 33; omega) ?_
                              refine go_iincN (c := 1) (pc := 231) dX8_thieves_231 rfl (by decide) (by decide) rfl ?_
                              refine go_goto (tgt := 140) (pc := 234) dX8_thieves_234 (by decide) ?_
                              have e9 : py_uw (py_lvH H) k u (i + 1) = (py_uw (py_lvH H) k u i) * 1 := by rw [py_tb_s]; first | rw [if_neg c_161] | rw [if_pos c_161, if_pos c_175] | rw [if_pos c_161, if_neg c_175]
                              have hTn : py_hm ((py_up s 55 ((13 + (4 * i)) + 2) ((nI 0))) 55) 0 (py_bn H u (i + 1)) := by rw [← py_bn_s (v := 0) (by first | rw [if_pos c_209] | rw [if_neg c_209])]; exact py_hm_up (i := 15 + 4 * i) hT (by omega)
                              have e8 := ihi (by omega) _ hTn (hs.up (by decide) _)
                              rw [e9] at e8
                              exact e8
                      exact inner 0 (Nat.zero_le _) s1 (by rw [py_bn_0]; exact hT1) hs1
                    refine go_top (y := nI (py_sub u (py_lvH H))) (py_andn2 (by omega) hal) ?_
                    have hsb := py_sub_lt u (py_lvH H)
                    refine go_if_neN (tgt := 130) (pc := 123) dX8_thieves_123 (by omega) (by decide) (fun c_123 => ?_) (fun c_123 => ?_)
                    · refine go_iconst (v := nI 0) (pc := 130) dX8_thieves_130 (by decide) ?_
                      refine go_top (y := nI (py_uw (py_lvH H) k u 0)) (by rw [py_uw_0, if_neg (by omega)]) ?_
                      exact K
                    · refine go_iconst (v := nI 1) (pc := 126) dX8_thieves_126 (by decide) ?_
                      refine go_goto (tgt := 131) (pc := 127) dX8_thieves_127 (by decide) ?_
                      refine go_top (y := nI (py_uw (py_lvH H) k u 0)) (by rw [py_uw_0, if_pos c_123]) ?_
                      exact K
                exact loop 0 (Nat.zero_le _) σ (py_fr.rf _ _ σ)
              · refine go_iload (pc := 79) dX8_thieves_79 rfl ?_
                refine go_iload (pc := 81) dX8_thieves_81 rfl ?_
                refine go_iload (pc := 83) dX8_thieves_83 rfl ?_
                refine go_cS (pc := 85) dX8_thieves_85 (ev_has (by omega) (by omega)) lX8_193 YX8_has SX8_has rfl (by decide) rfl (Nat.le_of_ble_eq_true rfl) ?_
                refine go_if_eqB (tgt := 96) (pc := 88) dX8_thieves_88 (by decide) (fun c_88 => ?_) (fun c_88 => ?_)
                · refine go_iconst (v := nI 1) (pc := 96) dX8_thieves_96 (by decide) ?_
                  refine go_imulN (pc := 97) dX8_thieves_97  ?_
                  refine go_istore (pc := 98) dX8_thieves_98 (by decide) rfl ?_
                  refine go_iincN (c := 1) (pc := 100) dX8_thieves_100 rfl (by decide) (by decide) rfl ?_
                  refine go_goto (tgt := 67) (pc := 103) dX8_thieves_103 (by decide) ?_
                  have e9 : 10 ^ py_cn (fun p => decide (0 < H (15 + 4 * p))) (i + 1) = (10 ^ py_cn (fun p => decide (0 < H (15 + 4 * p))) i) * 1 := by first | rw [← py_cn_t (f := fun p => decide (0 < H (15 + 4 * p))) (p := i) ((py_bs_bit _ (show i < H 12 by omega)).symm.trans c_88), Nat.pow_succ] | rw [← py_cn_f (f := fun p => decide (0 < H (15 + 4 * p))) (p := i) ((py_bs_bit _ (show i < H 12 by omega)).symm.trans (show py_bit (py_lvH H) i = false by simpa using c_88)), Nat.mul_one]
                  have e8 := ih1 (by omega)
                  rw [e9] at e8
                  exact e8
                · refine go_bipush (v := nI 10) (pc := 91) dX8_thieves_91 (by decide) ?_
                  refine go_goto (tgt := 97) (pc := 93) dX8_thieves_93 (by decide) ?_
                  refine go_imulN (pc := 97) dX8_thieves_97  ?_
                  refine go_istore (pc := 98) dX8_thieves_98 (by decide) rfl ?_
                  refine go_iincN (c := 1) (pc := 100) dX8_thieves_100 rfl (by decide) (by decide) rfl ?_
                  refine go_goto (tgt := 67) (pc := 103) dX8_thieves_103 (by decide) ?_
                  have e9 : 10 ^ py_cn (fun p => decide (0 < H (15 + 4 * p))) (i + 1) = (10 ^ py_cn (fun p => decide (0 < H (15 + 4 * p))) i) * 10 := by first | rw [← py_cn_t (f := fun p => decide (0 < H (15 + 4 * p))) (p := i) ((py_bs_bit _ (show i < H 12 by omega)).symm.trans c_88), Nat.pow_succ] | rw [← py_cn_f (f := fun p => decide (0 < H (15 + 4 * p))) (p := i) ((py_bs_bit _ (show i < H 12 by omega)).symm.trans (show py_bit (py_lvH H) i = false by simpa using c_88)), Nat.mul_one]
                  have e8 := ih1 (by omega)
                  rw [e9] at e8
                  exact e8
            exact low 0 (Nat.zero_le _)
          · refine go_ldc (pc := 46) dX8_thieves_46 kX8_67 ?_
            exact go_retI (pc := 48) dX8_thieves_48 (by unfold an_thieves; (repeat' split) <;> first | rfl | omega) ⟨hI, py_fr.rf _ _ σ⟩
  · refine go_ldc (pc := 7) dX8_thieves_7 kX8_169 ?_
    exact go_retI (pc := 9) dX8_thieves_9 (by unfold an_thieves; (repeat' split) <;> first | rfl | omega) ⟨hI, py_fr.rf _ _ σ⟩
