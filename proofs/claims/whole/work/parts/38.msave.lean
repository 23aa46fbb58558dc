/-! contracts: the reference's save, draws, what fits -/
/-- a house n years on that nobody has faded in -/
def py_yr (H : Nat → Nat) (n : Nat) : Nat → Nat := fun j => if j = 2 then H 2 + n else H j
theorem py_yr_o {H : Nat → Nat} {n j : Nat} (h : j ≠ 2) : py_yr H n j = H j := by
  unfold py_yr
  rw [if_neg h]
theorem py_yr_2 (H : Nat → Nat) (n : Nat) : py_yr H n 2 = H 2 + n := rfl
theorem py_yr_0 (H : Nat → Nat) : py_yr H 0 = H := by
  funext j
  unfold py_yr
  by_cases h : j = 2
  · rw [if_pos h, h, Nat.add_zero]
  · rw [if_neg h]
theorem py_yr_s (H : Nat → Nat) (n : Nat) : (fun j => if j = 2 then H 2 + n + 1 else py_yr H n j) = py_yr H (n + 1) := by
  funext j
  unfold py_yr
  by_cases h : j = 2
  · rw [if_pos h, if_pos h]; omega
  · rw [if_neg h, if_neg h, if_neg h]
theorem py_yr_wm {H : Nat → Nat} (h : py_wm H) {n : Nat} (hn : H 2 + n ≤ 5000) : py_wm (py_yr H n) := by
  refine py_wm_c h (fun j h2 _ => py_yr_o h2) hn (fun p hp => ?_)
  rw [py_yr_o (by omega)]
  exact (h.2.2.2.2 p hp).2.2.2.1
theorem py_yr_f1 {H : Nat → Nat} (n p : Nat) : py_f1 (py_yr H n) p = py_fk H n p := by
  unfold py_f1 py_fk
  rw [py_yr_o (j := 13 + 4 * p) (by omega), py_yr_o (j := 14 + 4 * p) (by omega), py_yr_o (j := 16 + 4 * p) (by omega), py_yr_o (j := 4 + 2 * H (16 + 4 * p)) (by omega), py_yr_o (j := 5 + 2 * H (16 + 4 * p)) (by omega), py_yr_2]
theorem py_fn_s {H : Nat → Nat} (hw : py_wf H) {p : Nat} (hp : p < H 12) (n : Nat) : py_fn H p (n + 1) = py_fn H p n + py_fk H n p := py_fs_s (py_bd_of hw hp).1
theorem py_fn_le {H : Nat → Nat} (hw : py_wf H) {p : Nat} (hp : p < H 12) (n : Nat) : py_fn H p n ≤ 20 * n := by
  have h := py_bd_of hw hp
  exact py_fs_le h.1 h.2.2.1 h.2.2.2.1 n
theorem py_fk_le {H : Nat → Nat} (hw : py_wf H) {p : Nat} (hp : p < H 12) (n : Nat) : py_fk H n p ≤ 20 := by
  have h := py_bd_of hw hp
  exact py_fd_le h.2.2.1 h.2.2.2.1
theorem py_sv_s (H : Nat → Nat) (t d n : Nat) : py_sv H t d (n + 1) = py_sv H t d n + (if py_bit t n then py_nd H n d else 0) := rfl
theorem py_sv_b {H : Nat → Nat} (hw : py_wf H) {t d : Nat} (hd : d ≤ 60) : ∀ n, n ≤ H 12 → py_sv H t d n ≤ 1201 * n
  | 0, _ => Nat.le_refl _
  | n + 1, hn => by
    have ih := py_sv_b hw (t := t) hd n (by omega)
    have h := py_fn_le hw (show n < H 12 by omega) d
    have h2 : py_nd H n d ≤ 1201 := by unfold py_nd; omega
    rw [py_sv_s]
    split <;> omega
theorem py_all_s (f : Nat → Bool) (n : Nat) : py_all f (n + 1) = true ↔ py_all f n = true ∧ f n = true := by
  show (py_all f n && f n) = true ↔ _
  rw [Bool.and_eq_true]
theorem py_ok1_iff (H : Nat → Nat) (t d p : Nat) : py_ok1 H t d p = true ↔ (py_bit t p = true → 0 < H (15 + 4 * p) ∧ py_fn H p d + 1 ≤ 60) := by
  unfold py_ok1
  cases py_bit t p <;> simp
set_option maxHeartbeats 4000000 in
set_option maxRecDepth 100000 in
theorem mo_save {X : py_X} {σ : py_H} {R : py_Rt} {q : Int32} {B : Nat → Nat} {N : Nat} {ft : Int32} {H : Nat → Nat} {n : Nat} {As : Nat → Nat → Nat} {I0 I1 : Option (Nat → Nat)} {t : Nat} {tr : Nat → Int32} (hI : py_IM σ R q B N ft H n As I0 I1 t tr) (hW : py_IW H n As I0 I1 t) {x y : Int32} : py_Ev X 3 yX8_save cX8_save 8 (some .int) [.ref 47, .int (x), .int (y)] σ (py_vs (some (.int (an_save H x y))) (fun s => py_IM s R q B N ft H n As I0 I1 t tr ∧ py_fr py_SM [] σ s)) := by
  obtain ⟨h1, h2, h3, h4, h5, h6, h7, h8, h9⟩ := id hI
  obtain ⟨hw, hA, hJ0, hJ1, ht16⟩ := id hW
  obtain ⟨w0, w1, w2, w3, w12, w03, w00, wW, wP, wR⟩ := id hw
  have hm := py_wm_of hw
  refine py_ofI (own := RX8) YX8_save.2.2.2.2 rfl rfl (Nat.le_of_ble_eq_true rfl)  ?_
  show py_Go X RX8 cX8_save 8 3 0 [some (.ref 47), some (.int (x)), some (.int (y)), none, none, none, none, none] [] σ (py_vs (some (.int (an_save H x y))) (fun s => py_IM s R q B N ft H n As I0 I1 t tr ∧ py_fr py_SM [] σ s))
  have loop : ∀ v d, (v < 32 ∧ v ≤ 2 ^ H 12 - 1 ∧ 1 ≤ 2 ^ H 12 ∧ d ≤ 60 ∧ 0 < H 0 ∧ x = nI v ∧ y = nI d ∧ (nI v).toInt = (v : Int) ∧ (nI d).toInt = (d : Int) ∧ (nI v).toNatClampNeg = v ∧ (nI d).toNatClampNeg = d) → ∀ i, i ≤ H 12 → ∀ s, py_fr [55] [] σ s → py_Go X RX8 cX8_save 8 3 47 [some (.ref 47), some (.int (nI v)), some (.int (nI d)), some (.int (nI (py_sv H v d i))), some (.int (py_b (py_all (py_ok1 H v d) i = true))), some (.int (nI i)), none, none] [] s (py_vs (some (.int (an_save H x y))) (fun s => py_IM s R q B N ft H n As I0 I1 t tr ∧ py_fr py_SM [] σ s)) := by
    intro v d hvd
    obtain ⟨hv32, hvp, hp21, hd, h00, hx, hy, hvI, hdI, hvC, hdC⟩ := hvd
    subst hx hy
    refine py_loop _ (H 12) (fun i hi ih s hs => ?_)
    have h5s : py_hm (s 53) 0 H := by rw [hs.at 53 (by decide) (by decide)]; exact h5
    have h5s0 := h5s
    have hsvb := py_sv_b hw (t := v) hd i hi
    refine go_iload (pc := 47) dX8_save_47 rfl ?_
    refine go_aload_n (pc := 49) dX8_save_49 rfl ?_
    refine go_getR (pc := 50) dX8_save_50 fX8_25 rfl rfl ?_
    refine go_bipush (v := nI 12) (pc := 53) dX8_save_53 (by decide) ?_
    refine go_aldN (x := (nI (H 12))) (pc := 55) dX8_save_55 rfl (by show 12 < 33; omega) (py_hm_at h5s (show 12 = 12 by omega) (by omega)) ?_
    refine go_icmp_geN (tgt := 195) (pc := 56) dX8_save_56 (by omega) (by omega) (by decide) (fun c_56 => ?_) (fun c_56 => ?_)
    · refine go_iload (pc := 195) dX8_save_195 rfl ?_
      refine go_if_eqB (tgt := 214) (pc := 197) dX8_save_197 (by decide) (fun c_197 => ?_) (fun c_197 => ?_)
      · refine go_ldc (pc := 214) dX8_save_214 kX8_53 ?_
        have e8 : i = H 12 := by omega
        exact go_retI (pc := 216) dX8_save_216 (by unfold an_save; rw [if_pos (by omega), if_pos (by omega), hvC, hdC]; unfold py_saveI; rw [if_neg (by rw [← e8]; intro z; first | exact c_197 z.1 | omega)]) ⟨⟨py_rk_fr hs (by decide) h1, (by rw [hs 47 4 (by decide) (by decide)]; exact h2), py_tm_fr hs (by decide) h3, (by rw [hs 47 7 (by decide) (by decide)]; exact h4), (by rw [hs.at 53 (by decide) (by decide)]; exact h5), py_am_fr hs (by decide) h6, py_ik_fr hs (by decide) h7, py_ik_fr hs (by decide) h8, py_tn_fr hs (by decide) h9⟩, hs.wd (by decide) (by decide)⟩
      · refine go_iload_n (pc := 200) dX8_save_200 rfl ?_
        refine go_aload_n (pc := 201) dX8_save_201 rfl ?_
        refine go_getR (pc := 202) dX8_save_202 fX8_25 rfl rfl ?_
        refine go_iconst (v := nI 1) (pc := 205) dX8_save_205 (by decide) ?_
        refine go_aldN (x := (nI (H 1))) (pc := 206) dX8_save_206 rfl (by show 1 < 33; omega) (py_hm_at h5s (show 1 = 1 by omega) (by omega)) ?_
        refine go_icmp_gtN (tgt := 214) (pc := 207) dX8_save_207 (by omega) (by omega) (by decide) (fun c_207 => ?_) (fun c_207 => ?_)
        · refine go_ldc (pc := 214) dX8_save_214 kX8_53 ?_
          have e8 : i = H 12 := by omega
          exact go_retI (pc := 216) dX8_save_216 (by unfold an_save; rw [if_pos (by omega), if_pos (by omega), hvC, hdC]; unfold py_saveI; rw [if_neg (by rw [← e8]; intro z; first | exact c_197 z.1 | omega)]) ⟨⟨py_rk_fr hs (by decide) h1, (by rw [hs 47 4 (by decide) (by decide)]; exact h2), py_tm_fr hs (by decide) h3, (by rw [hs 47 7 (by decide) (by decide)]; exact h4), (by rw [hs.at 53 (by decide) (by decide)]; exact h5), py_am_fr hs (by decide) h6, py_ik_fr hs (by decide) h7, py_ik_fr hs (by decide) h8, py_tn_fr hs (by decide) h9⟩, hs.wd (by decide) (by decide)⟩
        · refine go_iload_n (pc := 210) dX8_save_210 rfl ?_
          refine go_goto (tgt := 216) (pc := 211) dX8_save_211 (by decide) ?_
          have e8 : i = H 12 := by omega
          exact go_retI (pc := 216) dX8_save_216 (by unfold an_save; rw [if_pos (by omega), if_pos (by omega), hvC, hdC]; unfold py_saveI; rw [if_pos (by rw [← e8]; exact ⟨c_197, c_207⟩), e8]) ⟨⟨py_rk_fr hs (by decide) h1, (by rw [hs 47 4 (by decide) (by decide)]; exact h2), py_tm_fr hs (by decide) h3, (by rw [hs 47 7 (by decide) (by decide)]; exact h4), (by rw [hs.at 53 (by decide) (by decide)]; exact h5), py_am_fr hs (by decide) h6, py_ik_fr hs (by decide) h7, py_ik_fr hs (by decide) h8, py_tn_fr hs (by decide) h9⟩, hs.wd (by decide) (by decide)⟩
    · have hiH : i < H 12 := by omega
      refine go_aload_n (pc := 59) dX8_save_59 rfl ?_
      refine go_cVv (pc := 60) dX8_save_60 (ev_tries h5s0) lX8_186 YX8_tries VX8_tries rfl rfl rfl (by decide) rfl (Nat.le_of_ble_eq_true rfl) (fun s1 hs1 => ?_)
      obtain ⟨hT1, hf1⟩ := hs1
      have hs1 := hs.tr hf1 (by decide) (by decide)
      refine go_iconst (v := nI 1) (pc := 63) dX8_save_63 (by decide) ?_
      refine go_istore (pc := 64) dX8_save_64 (by decide) rfl ?_
      refine go_iconst (v := nI 0) (pc := 66) dX8_save_66 (by decide) ?_
      refine go_istore (pc := 67) dX8_save_67 (by decide) rfl ?_
      have inner : ∀ u, u ≤ d → ∀ s, py_hm (s 55) 0 (py_yr H u) → py_fr [55] [] σ s → py_Go X RX8 cX8_save 8 3 69 [some (.ref 47), some (.int (nI v)), some (.int (nI d)), some (.int (nI (py_sv H v d i))), some (.int (py_b (py_all (py_ok1 H v d) i = true))), some (.int (nI i)), some (.int (nI (1 + py_fn H i u))), some (.int (nI u))] [] s (py_vs (some (.int (an_save H (nI v) (nI d)))) (fun s => py_IM s R q B N ft H n As I0 I1 t tr ∧ py_fr py_SM [] σ s)) := by
        refine py_loop _ d (fun u hn ihn s hT hs => ?_)
        have hfn0 := py_fn_le hw hiH u
        have hfk0 := py_fk_le hw hiH u
        have h5s : py_hm (s 53) 0 H := by rw [hs.at 53 (by decide) (by decide)]; exact h5
        refine go_iload (pc := 69) dX8_save_69 rfl ?_
        refine go_iload_n (pc := 71) dX8_save_71 rfl ?_
        refine go_icmp_geN (tgt := 105) (pc := 72) dX8_save_72 (by omega) (by omega) (by decide) (fun c_72 => ?_) (fun c_72 => ?_)
        · have hnd : d = u := by omega
          subst hnd
          refine go_aload_n (pc := 105) dX8_save_105 rfl ?_
          refine go_getR (pc := 106) dX8_save_106 fX8_25 rfl rfl ?_
          refine go_bipush (v := nI 13) (pc := 109) dX8_save_109 (by decide) ?_
          refine go_iconst (v := nI 4) (pc := 111) dX8_save_111 (by decide) ?_
          refine go_iload (pc := 112) dX8_save_112 rfl ?_
          refine go_imulN (pc := 114) dX8_save_114  ?_
          refine go_iaddN (pc := 115) dX8_save_115  ?_
          refine go_iconst (v := nI 2) (pc := 116) dX8_save_116 (by decide) ?_
          refine go_iaddN (pc := 117) dX8_save_117  ?_
          refine go_aldN (x := (nI (H (15 + 4 * i)))) (pc := 118) dX8_save_118 rfl (by show (13 + (4 * i)) + 2 < 33; omega) (py_hm_at h5s (show (13 + (4 * i)) + 2 = 15 + 4 * i by omega) (by omega)) ?_
          refine go_istore (pc := 119) dX8_save_119 (by decide) rfl ?_
          have hl60 : H (15 + 4 * i) ≤ 60 := (wP i hiH).2.2.2.2.1
          have hfn := py_fn_le hw hiH d
          refine go_iload (pc := 121) dX8_save_121 rfl ?_
          refine go_if_eqB (tgt := 158) (pc := 123) dX8_save_123 (by decide) (fun c_123 => ?_) (fun c_123 => ?_)
          · refine go_iconst (v := nI 0) (pc := 158) dX8_save_158 (by decide) ?_
            refine go_istore (pc := 159) dX8_save_159 (by decide) rfl ?_
            refine go_iload_n (pc := 161) dX8_save_161 rfl ?_
            refine go_iload_n (pc := 162) dX8_save_162 rfl ?_
            refine go_iload (pc := 163) dX8_save_163 rfl ?_
            refine go_cS (pc := 165) dX8_save_165 (ev_has (by omega) (by omega)) lX8_193 YX8_has SX8_has rfl (by decide) rfl (Nat.le_of_ble_eq_true rfl) ?_
            refine go_if_eqB (tgt := 186) (pc := 168) dX8_save_168 (by decide) (fun c_168 => ?_) (fun c_168 => ?_)
            · refine go_iconst (v := nI 0) (pc := 186) dX8_save_186 (by decide) ?_
              refine go_iaddN (pc := 187) dX8_save_187  ?_
              refine go_istore_n (pc := 188) dX8_save_188 (by decide) rfl ?_
              refine go_iincN (c := 1) (pc := 189) dX8_save_189 rfl (by decide) (by decide) rfl ?_
              refine go_goto (tgt := 47) (pc := 192) dX8_save_192 (by decide) ?_
              have e4 : py_b (py_all (py_ok1 H v d) (i + 1) = true) = nI 0 := py_b_f (by rw [py_all_s, py_ok1_iff]; rintro ⟨z1, z2⟩; first | exact c_123 z1 | (have z3 := z2 c_132; omega))
              have e3 : py_sv H v d (i + 1) = (py_sv H v d i) + 0 := by rw [py_sv_s]; first | (rw [if_neg c_168]; done) | (rw [if_pos c_168]; unfold py_nd; omega)
              have e8 := ih (by omega) s hs
              rw [e4, e3] at e8
              exact go_mask [true, true, true, true, true, true, false, false] rfl e8
            · refine go_iload (pc := 171) dX8_save_171 rfl ?_
              refine go_iload (pc := 173) dX8_save_173 rfl ?_
              refine go_icmp_leN (tgt := 186) (pc := 175) dX8_save_175 (by omega) (by omega) (by decide) (fun c_175 => ?_) (fun c_175 => ?_)
              · refine go_iconst (v := nI 0) (pc := 186) dX8_save_186 (by decide) ?_
                refine go_iaddN (pc := 187) dX8_save_187  ?_
                refine go_istore_n (pc := 188) dX8_save_188 (by decide) rfl ?_
                refine go_iincN (c := 1) (pc := 189) dX8_save_189 rfl (by decide) (by decide) rfl ?_
                refine go_goto (tgt := 47) (pc := 192) dX8_save_192 (by decide) ?_
                have e4 : py_b (py_all (py_ok1 H v d) (i + 1) = true) = nI 0 := py_b_f (by rw [py_all_s, py_ok1_iff]; rintro ⟨z1, z2⟩; first | exact c_123 z1 | (have z3 := z2 c_132; omega))
                have e3 : py_sv H v d (i + 1) = (py_sv H v d i) + 0 := by rw [py_sv_s]; first | (rw [if_neg c_168]; done) | (rw [if_pos c_168]; unfold py_nd; omega)
                have e8 := ih (by omega) s hs
                rw [e4, e3] at e8
                exact go_mask [true, true, true, true, true, true, false, false] rfl e8
              · refine go_iload (pc := 178) dX8_save_178 rfl ?_
                refine go_iload (pc := 180) dX8_save_180 rfl ?_
                refine go_isubN (pc := 182) dX8_save_182 (by omega) ?_
                refine go_goto (tgt := 187) (pc := 183) dX8_save_183 (by decide) ?_
                refine go_iaddN (pc := 187) dX8_save_187  ?_
                refine go_istore_n (pc := 188) dX8_save_188 (by decide) rfl ?_
                refine go_iincN (c := 1) (pc := 189) dX8_save_189 rfl (by decide) (by decide) rfl ?_
                refine go_goto (tgt := 47) (pc := 192) dX8_save_192 (by decide) ?_
                have e4 : py_b (py_all (py_ok1 H v d) (i + 1) = true) = nI 0 := py_b_f (by rw [py_all_s, py_ok1_iff]; rintro ⟨z1, z2⟩; first | exact c_123 z1 | (have z3 := z2 c_132; omega))
                have e3 : py_sv H v d (i + 1) = (py_sv H v d i) + ((1 + py_fn H i d) - (H (15 + 4 * i))) := by rw [py_sv_s]; first | (rw [if_neg c_168]; done) | (rw [if_pos c_168]; unfold py_nd; omega)
                have e8 := ih (by omega) s hs
                rw [e4, e3] at e8
                exact go_mask [true, true, true, true, true, true, false, false] rfl e8
          · refine go_iload_n (pc := 126) dX8_save_126 rfl ?_
            refine go_iload (pc := 127) dX8_save_127 rfl ?_
            refine go_cS (pc := 129) dX8_save_129 (ev_has (by omega) (by omega)) lX8_193 YX8_has SX8_has rfl (by decide) rfl (Nat.le_of_ble_eq_true rfl) ?_
            refine go_if_eqB (tgt := 154) (pc := 132) dX8_save_132 (by decide) (fun c_132 => ?_) (fun c_132 => ?_)
            · refine go_iconst (v := nI 1) (pc := 154) dX8_save_154 (by decide) ?_
              refine go_goto (tgt := 159) (pc := 155) dX8_save_155 (by decide) ?_
              refine go_istore (pc := 159) dX8_save_159 (by decide) rfl ?_
              refine go_iload_n (pc := 161) dX8_save_161 rfl ?_
              refine go_iload_n (pc := 162) dX8_save_162 rfl ?_
              refine go_iload (pc := 163) dX8_save_163 rfl ?_
              refine go_cS (pc := 165) dX8_save_165 (ev_has (by omega) (by omega)) lX8_193 YX8_has SX8_has rfl (by decide) rfl (Nat.le_of_ble_eq_true rfl) ?_
              refine go_if_eqB (tgt := 186) (pc := 168) dX8_save_168 (by decide) (fun c_168 => ?_) (fun c_168 => ?_)
              · refine go_iconst (v := nI 0) (pc := 186) dX8_save_186 (by decide) ?_
                refine go_iaddN (pc := 187) dX8_save_187  ?_
                refine go_istore_n (pc := 188) dX8_save_188 (by decide) rfl ?_
                refine go_iincN (c := 1) (pc := 189) dX8_save_189 rfl (by decide) (by decide) rfl ?_
                refine go_goto (tgt := 47) (pc := 192) dX8_save_192 (by decide) ?_
                have e4 : py_b (py_all (py_ok1 H v d) (i + 1) = true) = nI 1 := py_b_t (by rw [py_all_s, py_ok1_iff]; first | exact ⟨c_123, fun hb => absurd hb c_132⟩ | exact ⟨c_123, fun hb => by omega⟩)
                have e3 : py_sv H v d (i + 1) = (py_sv H v d i) + 0 := by rw [py_sv_s]; first | (rw [if_neg c_168]; done) | (rw [if_pos c_168]; unfold py_nd; omega)
                have e8 := ih (by omega) s hs
                rw [e4, e3] at e8
                exact go_mask [true, true, true, true, true, true, false, false] rfl e8
              · refine go_iload (pc := 171) dX8_save_171 rfl ?_
                refine go_iload (pc := 173) dX8_save_173 rfl ?_
                refine go_icmp_leN (tgt := 186) (pc := 175) dX8_save_175 (by omega) (by omega) (by decide) (fun c_175 => ?_) (fun c_175 => ?_)
                · refine go_iconst (v := nI 0) (pc := 186) dX8_save_186 (by decide) ?_
                  refine go_iaddN (pc := 187) dX8_save_187  ?_
                  refine go_istore_n (pc := 188) dX8_save_188 (by decide) rfl ?_
                  refine go_iincN (c := 1) (pc := 189) dX8_save_189 rfl (by decide) (by decide) rfl ?_
                  refine go_goto (tgt := 47) (pc := 192) dX8_save_192 (by decide) ?_
                  have e4 : py_b (py_all (py_ok1 H v d) (i + 1) = true) = nI 1 := py_b_t (by rw [py_all_s, py_ok1_iff]; first | exact ⟨c_123, fun hb => absurd hb c_132⟩ | exact ⟨c_123, fun hb => by omega⟩)
                  have e3 : py_sv H v d (i + 1) = (py_sv H v d i) + 0 := by rw [py_sv_s]; first | (rw [if_neg c_168]; done) | (rw [if_pos c_168]; unfold py_nd; omega)
                  have e8 := ih (by omega) s hs
                  rw [e4, e3] at e8
                  exact go_mask [true, true, true, true, true, true, false, false] rfl e8
                · refine go_iload (pc := 178) dX8_save_178 rfl ?_
                  refine go_iload (pc := 180) dX8_save_180 rfl ?_
                  refine go_isubN (pc := 182) dX8_save_182 (by omega) ?_
                  refine go_goto (tgt := 187) (pc := 183) dX8_save_183 (by decide) ?_
                  refine go_iaddN (pc := 187) dX8_save_187  ?_
                  refine go_istore_n (pc := 188) dX8_save_188 (by decide) rfl ?_
                  refine go_iincN (c := 1) (pc := 189) dX8_save_189 rfl (by decide) (by decide) rfl ?_
                  refine go_goto (tgt := 47) (pc := 192) dX8_save_192 (by decide) ?_
                  have e4 : py_b (py_all (py_ok1 H v d) (i + 1) = true) = nI 1 := py_b_t (by rw [py_all_s, py_ok1_iff]; first | exact ⟨c_123, fun hb => absurd hb c_132⟩ | exact ⟨c_123, fun hb => by omega⟩)
                  have e3 : py_sv H v d (i + 1) = (py_sv H v d i) + ((1 + py_fn H i d) - (H (15 + 4 * i))) := by rw [py_sv_s]; first | (rw [if_neg c_168]; done) | (rw [if_pos c_168]; unfold py_nd; omega)
                  have e8 := ih (by omega) s hs
                  rw [e4, e3] at e8
                  exact go_mask [true, true, true, true, true, true, false, false] rfl e8
            · refine go_iload (pc := 135) dX8_save_135 rfl ?_
              refine go_if_leN (tgt := 158) (pc := 137) dX8_save_137 (by omega) (by decide) (fun c_137 => ?_) (fun c_137 => ?_)
              · refine go_iconst (v := nI 0) (pc := 158) dX8_save_158 (by decide) ?_
                refine go_istore (pc := 159) dX8_save_159 (by decide) rfl ?_
                refine go_iload_n (pc := 161) dX8_save_161 rfl ?_
                refine go_iload_n (pc := 162) dX8_save_162 rfl ?_
                refine go_iload (pc := 163) dX8_save_163 rfl ?_
                refine go_cS (pc := 165) dX8_save_165 (ev_has (by omega) (by omega)) lX8_193 YX8_has SX8_has rfl (by decide) rfl (Nat.le_of_ble_eq_true rfl) ?_
                refine go_if_eqB (tgt := 186) (pc := 168) dX8_save_168 (by decide) (fun c_168 => ?_) (fun c_168 => ?_)
                · refine go_iconst (v := nI 0) (pc := 186) dX8_save_186 (by decide) ?_
                  refine go_iaddN (pc := 187) dX8_save_187  ?_
                  refine go_istore_n (pc := 188) dX8_save_188 (by decide) rfl ?_
                  refine go_iincN (c := 1) (pc := 189) dX8_save_189 rfl (by decide) (by decide) rfl ?_
                  refine go_goto (tgt := 47) (pc := 192) dX8_save_192 (by decide) ?_
                  have e4 : py_b (py_all (py_ok1 H v d) (i + 1) = true) = nI 0 := py_b_f (by rw [py_all_s, py_ok1_iff]; rintro ⟨z1, z2⟩; first | exact c_123 z1 | (have z3 := z2 c_132; omega))
                  have e3 : py_sv H v d (i + 1) = (py_sv H v d i) + 0 := by rw [py_sv_s]; first | (rw [if_neg c_168]; done) | (rw [if_pos c_168]; unfold py_nd; omega)
                  have e8 := ih (by omega) s hs
                  rw [e4, e3] at e8
                  exact go_mask [true, true, true, true, true, true, false, false] rfl e8
                · refine go_iload (pc := 171) dX8_save_171 rfl ?_
                  refine go_iload (pc := 173) dX8_save_173 rfl ?_
                  refine go_icmp_leN (tgt := 186) (pc := 175) dX8_save_175 (by omega) (by omega) (by decide) (fun c_175 => ?_) (fun c_175 => ?_)
                  · refine go_iconst (v := nI 0) (pc := 186) dX8_save_186 (by decide) ?_
                    refine go_iaddN (pc := 187) dX8_save_187  ?_
                    refine go_istore_n (pc := 188) dX8_save_188 (by decide) rfl ?_
                    refine go_iincN (c := 1) (pc := 189) dX8_save_189 rfl (by decide) (by decide) rfl ?_
                    refine go_goto (tgt := 47) (pc := 192) dX8_save_192 (by decide) ?_
                    have e4 : py_b (py_all (py_ok1 H v d) (i + 1) = true) = nI 0 := py_b_f (by rw [py_all_s, py_ok1_iff]; rintro ⟨z1, z2⟩; first | exact c_123 z1 | (have z3 := z2 c_132; omega))
                    have e3 : py_sv H v d (i + 1) = (py_sv H v d i) + 0 := by rw [py_sv_s]; first | (rw [if_neg c_168]; done) | (rw [if_pos c_168]; unfold py_nd; omega)
                    have e8 := ih (by omega) s hs
                    rw [e4, e3] at e8
                    exact go_mask [true, true, true, true, true, true, false, false] rfl e8
                  · refine go_iload (pc := 178) dX8_save_178 rfl ?_
                    refine go_iload (pc := 180) dX8_save_180 rfl ?_
                    refine go_isubN (pc := 182) dX8_save_182 (by omega) ?_
                    refine go_goto (tgt := 187) (pc := 183) dX8_save_183 (by decide) ?_
                    refine go_iaddN (pc := 187) dX8_save_187  ?_
                    refine go_istore_n (pc := 188) dX8_save_188 (by decide) rfl ?_
                    refine go_iincN (c := 1) (pc := 189) dX8_save_189 rfl (by decide) (by decide) rfl ?_
                    refine go_goto (tgt := 47) (pc := 192) dX8_save_192 (by decide) ?_
                    have e4 : py_b (py_all (py_ok1 H v d) (i + 1) = true) = nI 0 := py_b_f (by rw [py_all_s, py_ok1_iff]; rintro ⟨z1, z2⟩; first | exact c_123 z1 | (have z3 := z2 c_132; omega))
                    have e3 : py_sv H v d (i + 1) = (py_sv H v d i) + ((1 + py_fn H i d) - (H (15 + 4 * i))) := by rw [py_sv_s]; first | (rw [if_neg c_168]; done) | (rw [if_pos c_168]; unfold py_nd; omega)
                    have e8 := ih (by omega) s hs
                    rw [e4, e3] at e8
                    exact go_mask [true, true, true, true, true, true, false, false] rfl e8
              · refine go_iload (pc := 140) dX8_save_140 rfl ?_
                refine go_bipush (v := nI 60) (pc := 142) dX8_save_142 (by decide) ?_
                refine go_icmp_leN (tgt := 154) (pc := 144) dX8_save_144 (by omega) (by omega) (by decide) (fun c_144 => ?_) (fun c_144 => ?_)
                · refine go_iconst (v := nI 1) (pc := 154) dX8_save_154 (by decide) ?_
                  refine go_goto (tgt := 159) (pc := 155) dX8_save_155 (by decide) ?_
                  refine go_istore (pc := 159) dX8_save_159 (by decide) rfl ?_
                  refine go_iload_n (pc := 161) dX8_save_161 rfl ?_
                  refine go_iload_n (pc := 162) dX8_save_162 rfl ?_
                  refine go_iload (pc := 163) dX8_save_163 rfl ?_
                  refine go_cS (pc := 165) dX8_save_165 (ev_has (by omega) (by omega)) lX8_193 YX8_has SX8_has rfl (by decide) rfl (Nat.le_of_ble_eq_true rfl) ?_
                  refine go_if_eqB (tgt := 186) (pc := 168) dX8_save_168 (by decide) (fun c_168 => ?_) (fun c_168 => ?_)
                  · refine go_iconst (v := nI 0) (pc := 186) dX8_save_186 (by decide) ?_
                    refine go_iaddN (pc := 187) dX8_save_187  ?_
                    refine go_istore_n (pc := 188) dX8_save_188 (by decide) rfl ?_
                    refine go_iincN (c := 1) (pc := 189) dX8_save_189 rfl (by decide) (by decide) rfl ?_
                    refine go_goto (tgt := 47) (pc := 192) dX8_save_192 (by decide) ?_
                    have e4 : py_b (py_all (py_ok1 H v d) (i + 1) = true) = nI 1 := py_b_t (by rw [py_all_s, py_ok1_iff]; first | exact ⟨c_123, fun hb => absurd hb c_132⟩ | exact ⟨c_123, fun hb => by omega⟩)
                    have e3 : py_sv H v d (i + 1) = (py_sv H v d i) + 0 := by rw [py_sv_s]; first | (rw [if_neg c_168]; done) | (rw [if_pos c_168]; unfold py_nd; omega)
                    have e8 := ih (by omega) s hs
                    rw [e4, e3] at e8
                    exact go_mask [true, true, true, true, true, true, false, false] rfl e8
                  · refine go_iload (pc := 171) dX8_save_171 rfl ?_
                    refine go_iload (pc := 173) dX8_save_173 rfl ?_
                    refine go_icmp_leN (tgt := 186) (pc := 175) dX8_save_175 (by omega) (by omega) (by decide) (fun c_175 => ?_) (fun c_175 => ?_)
                    · refine go_iconst (v := nI 0) (pc := 186) dX8_save_186 (by decide) ?_
                      refine go_iaddN (pc := 187) dX8_save_187  ?_
                      refine go_istore_n (pc := 188) dX8_save_188 (by decide) rfl ?_
                      refine go_iincN (c := 1) (pc := 189) dX8_save_189 rfl (by decide) (by decide) rfl ?_
                      refine go_goto (tgt := 47) (pc := 192) dX8_save_192 (by decide) ?_
                      have e4 : py_b (py_all (py_ok1 H v d) (i + 1) = true) = nI 1 := py_b_t (by rw [py_all_s, py_ok1_iff]; first | exact ⟨c_123, fun hb => absurd hb c_132⟩ | exact ⟨c_123, fun hb => by omega⟩)
                      have e3 : py_sv H v d (i + 1) = (py_sv H v d i) + 0 := by rw [py_sv_s]; first | (rw [if_neg c_168]; done) | (rw [if_pos c_168]; unfold py_nd; omega)
                      have e8 := ih (by omega) s hs
                      rw [e4, e3] at e8
                      exact go_mask [true, true, true, true, true, true, false, false] rfl e8
                    · refine go_iload (pc := 178) dX8_save_178 rfl ?_
                      refine go_iload (pc := 180) dX8_save_180 rfl ?_
                      refine go_isubN (pc := 182) dX8_save_182 (by omega) ?_
                      refine go_goto (tgt := 187) (pc := 183) dX8_save_183 (by decide) ?_
                      refine go_iaddN (pc := 187) dX8_save_187  ?_
                      refine go_istore_n (pc := 188) dX8_save_188 (by decide) rfl ?_
                      refine go_iincN (c := 1) (pc := 189) dX8_save_189 rfl (by decide) (by decide) rfl ?_
                      refine go_goto (tgt := 47) (pc := 192) dX8_save_192 (by decide) ?_
                      have e4 : py_b (py_all (py_ok1 H v d) (i + 1) = true) = nI 1 := py_b_t (by rw [py_all_s, py_ok1_iff]; first | exact ⟨c_123, fun hb => absurd hb c_132⟩ | exact ⟨c_123, fun hb => by omega⟩)
                      have e3 : py_sv H v d (i + 1) = (py_sv H v d i) + ((1 + py_fn H i d) - (H (15 + 4 * i))) := by rw [py_sv_s]; first | (rw [if_neg c_168]; done) | (rw [if_pos c_168]; unfold py_nd; omega)
                      have e8 := ih (by omega) s hs
                      rw [e4, e3] at e8
                      exact go_mask [true, true, true, true, true, true, false, false] rfl e8
                · refine go_iload (pc := 147) dX8_save_147 rfl ?_
                  refine go_iload (pc := 149) dX8_save_149 rfl ?_
                  refine go_icmp_gtN (tgt := 158) (pc := 151) dX8_save_151 (by omega) (by omega) (by decide) (fun c_151 => ?_) (fun c_151 => ?_)
                  · refine go_iconst (v := nI 0) (pc := 158) dX8_save_158 (by decide) ?_
                    refine go_istore (pc := 159) dX8_save_159 (by decide) rfl ?_
                    refine go_iload_n (pc := 161) dX8_save_161 rfl ?_
                    refine go_iload_n (pc := 162) dX8_save_162 rfl ?_
                    refine go_iload (pc := 163) dX8_save_163 rfl ?_
                    refine go_cS (pc := 165) dX8_save_165 (ev_has (by omega) (by omega)) lX8_193 YX8_has SX8_has rfl (by decide) rfl (Nat.le_of_ble_eq_true rfl) ?_
                    refine go_if_eqB (tgt := 186) (pc := 168) dX8_save_168 (by decide) (fun c_168 => ?_) (fun c_168 => ?_)
                    · refine go_iconst (v := nI 0) (pc := 186) dX8_save_186 (by decide) ?_
                      refine go_iaddN (pc := 187) dX8_save_187  ?_
                      refine go_istore_n (pc := 188) dX8_save_188 (by decide) rfl ?_
                      refine go_iincN (c := 1) (pc := 189) dX8_save_189 rfl (by decide) (by decide) rfl ?_
                      refine go_goto (tgt := 47) (pc := 192) dX8_save_192 (by decide) ?_
                      have e4 : py_b (py_all (py_ok1 H v d) (i + 1) = true) = nI 0 := py_b_f (by rw [py_all_s, py_ok1_iff]; rintro ⟨z1, z2⟩; first | exact c_123 z1 | (have z3 := z2 c_132; omega))
                      have e3 : py_sv H v d (i + 1) = (py_sv H v d i) + 0 := by rw [py_sv_s]; first | (rw [if_neg c_168]; done) | (rw [if_pos c_168]; unfold py_nd; omega)
                      have e8 := ih (by omega) s hs
                      rw [e4, e3] at e8
                      exact go_mask [true, true, true, true, true, true, false, false] rfl e8
                    · refine go_iload (pc := 171) dX8_save_171 rfl ?_
                      refine go_iload (pc := 173) dX8_save_173 rfl ?_
                      refine go_icmp_leN (tgt := 186) (pc := 175) dX8_save_175 (by omega) (by omega) (by decide) (fun c_175 => ?_) (fun c_175 => ?_)
                      · refine go_iconst (v := nI 0) (pc := 186) dX8_save_186 (by decide) ?_
                        refine go_iaddN (pc := 187) dX8_save_187  ?_
                        refine go_istore_n (pc := 188) dX8_save_188 (by decide) rfl ?_
                        refine go_iincN (c := 1) (pc := 189) dX8_save_189 rfl (by decide) (by decide) rfl ?_
                        refine go_goto (tgt := 47) (pc := 192) dX8_save_192 (by decide) ?_
                        have e4 : py_b (py_all (py_ok1 H v d) (i + 1) = true) = nI 0 := py_b_f (by rw [py_all_s, py_ok1_iff]; rintro ⟨z1, z2⟩; first | exact c_123 z1 | (have z3 := z2 c_132; omega))
                        have e3 : py_sv H v d (i + 1) = (py_sv H v d i) + 0 := by rw [py_sv_s]; first | (rw [if_neg c_168]; done) | (rw [if_pos c_168]; unfold py_nd; omega)
                        have e8 := ih (by omega) s hs
                        rw [e4, e3] at e8
                        exact go_mask [true, true, true, true, true, true, false, false] rfl e8
                      · refine go_iload (pc := 178) dX8_save_178 rfl ?_
                        refine go_iload (pc := 180) dX8_save_180 rfl ?_
                        refine go_isubN (pc := 182) dX8_save_182 (by omega) ?_
                        refine go_goto (tgt := 187) (pc := 183) dX8_save_183 (by decide) ?_
                        refine go_iaddN (pc := 187) dX8_save_187  ?_
                        refine go_istore_n (pc := 188) dX8_save_188 (by decide) rfl ?_
                        refine go_iincN (c := 1) (pc := 189) dX8_save_189 rfl (by decide) (by decide) rfl ?_
                        refine go_goto (tgt := 47) (pc := 192) dX8_save_192 (by decide) ?_
                        have e4 : py_b (py_all (py_ok1 H v d) (i + 1) = true) = nI 0 := py_b_f (by rw [py_all_s, py_ok1_iff]; rintro ⟨z1, z2⟩; first | exact c_123 z1 | (have z3 := z2 c_132; omega))
                        have e3 : py_sv H v d (i + 1) = (py_sv H v d i) + ((1 + py_fn H i d) - (H (15 + 4 * i))) := by rw [py_sv_s]; first | (rw [if_neg c_168]; done) | (rw [if_pos c_168]; unfold py_nd; omega)
                        have e8 := ih (by omega) s hs
                        rw [e4, e3] at e8
                        exact go_mask [true, true, true, true, true, true, false, false] rfl e8
                  · exfalso; omega
        · refine go_iload (pc := 75) dX8_save_75 rfl ?_
          refine go_aload_n (pc := 77) dX8_save_77 rfl ?_
          refine go_getR (pc := 78) dX8_save_78 fX8_31 rfl rfl ?_
          refine go_iload (pc := 81) dX8_save_81 rfl ?_
          refine go_cS (pc := 83) dX8_save_83 (ev_fades_55 hT (py_yr_wm hm (by omega)) (show i < py_yr H u 12 from hiH)) lX8_155 YX8_fades SX8_fades rfl (by decide) rfl (Nat.le_of_ble_eq_true rfl) ?_
          refine go_top (y := nI (py_fk H u i)) (by rw [py_yr_f1]) ?_
          refine go_iaddN (pc := 86) dX8_save_86  ?_
          refine go_istore (pc := 87) dX8_save_87 (by decide) rfl ?_
          refine go_aload_n (pc := 89) dX8_save_89 rfl ?_
          refine go_getR (pc := 90) dX8_save_90 fX8_31 rfl rfl ?_
          refine go_iconst (v := nI 2) (pc := 93) dX8_save_93 (by decide) ?_
          refine go_dup2 (pc := 94) dX8_save_94 rfl rfl ?_
          refine go_aldN (x := (nI (H 2 + u))) (pc := 95) dX8_save_95 rfl (by show 2 < 33; omega) ((py_hm_at hT (show 2 = 2 by omega) (by omega)).trans (congrArg nI (py_yr_2 H u))) ?_
          refine go_iconst (v := nI 1) (pc := 96) dX8_save_96 (by decide) ?_
          refine go_iaddN (pc := 97) dX8_save_97  ?_
          refine go_astN (pc := 98) dX8_save_98 rfl (by show 2 < 33; omega) ?_
          refine go_iincN (c := 1) (pc := 99) dX8_save_99 rfl (by decide) (by decide) rfl ?_
          refine go_goto (tgt := 69) (pc := 102) dX8_save_102 (by decide) ?_
          rw [show 1 + py_fn H i u + py_fk H u i = 1 + py_fn H i (u + 1) by rw [py_fn_s hw hiH]; omega]
          exact ihn (by omega) _ (by rw [← py_yr_s]; exact py_hm_up (i := 2) hT rfl) (hs.up (by decide) _)
      have e8 := inner 0 (Nat.zero_le _) s1 (by rw [py_yr_0]; exact hT1) hs1
      rw [show 1 + py_fn H i 0 = 1 by unfold py_fn; rw [py_fs_0]] at e8
      exact e8
  refine go_aload_n (pc := 0) dX8_save_0 rfl ?_
  refine go_cV (pc := 1) dX8_save_1 (ev_isHouse h5 w0) lX8_166 YX8_isHouse VX8_isHouse rfl rfl rfl (by decide) rfl (Nat.le_of_ble_eq_true rfl) ?_
  refine go_if_neB (tgt := 10) (pc := 4) dX8_save_4 (by decide) (fun c_4 => ?_) (fun c_4 => ?_)
  · refine go_iload_n (pc := 10) dX8_save_10 rfl ?_
    refine go_iconst (v := nI 0) (pc := 11) dX8_save_11 (by decide) ?_
    refine go_iconst (v := nI 1) (pc := 12) dX8_save_12 (by decide) ?_
    refine go_aload_n (pc := 13) dX8_save_13 rfl ?_
    refine go_getR (pc := 14) dX8_save_14 fX8_25 rfl rfl ?_
    refine go_bipush (v := nI 12) (pc := 17) dX8_save_17 (by decide) ?_
    refine go_aldN (x := (nI (H 12))) (pc := 19) dX8_save_19 rfl (by show 12 < 33; omega) (py_hm_at h5 (show 12 = 12 by omega) (by omega)) ?_
    refine go_ishl (pc := 20) dX8_save_20 ?_
    refine go_iconst (v := nI 1) (pc := 21) dX8_save_21 (by decide) ?_
    refine go_isub (pc := 22) dX8_save_22  ?_
    have hp2 := py_p2 w12
    refine go_top (y := nI (2 ^ H 12 - 1)) hp2.1 ?_
    refine go_cS (pc := 23) dX8_save_23 (ev_inN (hb := by omega)) lX8_59 YX8_in SX8_in rfl (by decide) rfl (Nat.le_of_ble_eq_true rfl) ?_
    refine go_if_eqB (tgt := 36) (pc := 26) dX8_save_26 (by decide) (fun c_26 => ?_) (fun c_26 => ?_)
    · refine go_ldc (pc := 36) dX8_save_36 kX8_67 ?_
      exact go_retI (pc := 38) dX8_save_38 (by unfold an_save; (repeat' split) <;> first | rfl | omega) ⟨hI, py_fr.rf _ _ σ⟩
    · obtain ⟨v, rfl, hv0, hv, hvI, hvC⟩ := py_rg_of (x := x) (a := 0) (b := 2 ^ H 12 - 1) c_26
      have hv31 : v < 32 := by omega
      refine go_iload_n (pc := 29) dX8_save_29 rfl ?_
      refine go_cS (pc := 30) dX8_save_30 ev_misFar lX8_183 YX8_isFar SX8_isFar rfl (by decide) rfl (Nat.le_of_ble_eq_true rfl) ?_
      refine go_if_neB (tgt := 39) (pc := 33) dX8_save_33 (by decide) (fun c_33 => ?_) (fun c_33 => ?_)
      · obtain ⟨d, rfl, hd0, hd, hdI, hdC⟩ := py_rg_of (x := y) (a := 0) (b := 60) c_33
        refine go_iconst (v := nI 0) (pc := 39) dX8_save_39 (by decide) ?_
        refine go_istore_n (pc := 40) dX8_save_40 (by decide) rfl ?_
        refine go_iconst (v := nI 1) (pc := 41) dX8_save_41 (by decide) ?_
        refine go_istore (pc := 42) dX8_save_42 (by decide) rfl ?_
        refine go_iconst (v := nI 0) (pc := 44) dX8_save_44 (by decide) ?_
        refine go_istore (pc := 45) dX8_save_45 (by decide) rfl ?_
        exact loop v d ⟨hv31, by omega, by omega, hd, by omega, rfl, rfl, hvI, hdI, hvC, hdC⟩ 0 (by omega) σ (py_fr.rf _ _ σ)
      · refine go_ldc (pc := 36) dX8_save_36 kX8_67 ?_
        exact go_retI (pc := 38) dX8_save_38 (by unfold an_save; (repeat' split) <;> first | rfl | omega) ⟨hI, py_fr.rf _ _ σ⟩
  · refine go_ldc (pc := 7) dX8_save_7 kX8_169 ?_
    exact go_retI (pc := 9) dX8_save_9 (by unfold an_save; (repeat' split) <;> first | rfl | omega) ⟨hI, py_fr.rf _ _ σ⟩
/-- a house with other cells, in another year -/
def py_cs (H : Nat → Nat) (Y : Nat) (c : Nat → Nat) : Nat → Nat := fun j => if j = 2 then Y else if 15 ≤ j ∧ (j - 15) % 4 = 0 ∧ (j - 15) / 4 < H 12 then c ((j - 15) / 4) else H j
theorem py_cs_2 (H : Nat → Nat) (Y : Nat) (c : Nat → Nat) : py_cs H Y c 2 = Y := rfl
theorem py_cs_l (H : Nat → Nat) (Y : Nat) (c : Nat → Nat) {p : Nat} (hp : p < H 12) : py_cs H Y c (15 + 4 * p) = c p := by
  unfold py_cs
  rw [if_neg (by omega), if_pos (by refine ⟨by omega, by omega, by omega⟩), show (15 + 4 * p - 15) / 4 = p by omega]
theorem py_cs_o (H : Nat → Nat) (Y : Nat) (c : Nat → Nat) {j : Nat} (h2 : j ≠ 2) (h : ∀ p, j ≠ 15 + 4 * p) : py_cs H Y c j = H j := by
  unfold py_cs
  rw [if_neg h2, if_neg]
  rintro ⟨a, b, d⟩
  exact h ((j - 15) / 4) (by omega)
theorem py_cs_12 (H : Nat → Nat) (Y : Nat) (c : Nat → Nat) : py_cs H Y c 12 = H 12 := py_cs_o H Y c (by decide) (fun p => by omega)
theorem py_cs_id (H : Nat → Nat) : py_cs H (H 2) (fun p => H (15 + 4 * p)) = H := by
  funext j
  unfold py_cs
  by_cases h2 : j = 2
  · rw [if_pos h2, h2]
  · rw [if_neg h2]
    by_cases h : 15 ≤ j ∧ (j - 15) % 4 = 0 ∧ (j - 15) / 4 < H 12
    · rw [if_pos h]
      have e : 15 + 4 * ((j - 15) / 4) = j := by omega
      dsimp only
      rw [e]
    · rw [if_neg h]
theorem py_cs_wm {H : Nat → Nat} (h : py_wm H) {Y : Nat} {c : Nat → Nat} (hY : Y ≤ 5000) (hc : ∀ p, p < H 12 → c p ≤ 60) : py_wm (py_cs H Y c) :=
  py_wm_c h (fun j h2 hj => py_cs_o H Y c h2 hj) hY (fun p hp => by rw [py_cs_l H Y c hp]; exact hc p hp)
theorem py_cs_cong {H : Nat → Nat} {Y : Nat} {c d : Nat → Nat} (h : ∀ p, p < H 12 → c p = d p) : py_cs H Y c = py_cs H Y d := by
  funext j
  unfold py_cs
  by_cases h2 : j = 2
  · rw [if_pos h2, if_pos h2]
  · rw [if_neg h2, if_neg h2]
    by_cases hq : 15 ≤ j ∧ (j - 15) % 4 = 0 ∧ (j - 15) / 4 < H 12
    · rw [if_pos hq, if_pos hq, h _ hq.2.2]
    · rw [if_neg hq, if_neg hq]
theorem py_cs_pc2 {H : Nat → Nat} {Y : Nat} {c : Nat → Nat} {p v : Nat} (hp : p < H 12) : py_pc2 (py_cs H Y c) p v = py_cs H Y (fun q => if q = p then v else c q) := by
  funext j
  unfold py_pc2
  by_cases hj : j = 15 + 4 * p
  · rw [if_pos hj, hj, py_cs_l H Y _ hp, if_pos rfl]
  · rw [if_neg hj]
    unfold py_cs
    by_cases h2 : j = 2
    · rw [if_pos h2, if_pos h2]
    · rw [if_neg h2, if_neg h2]
      by_cases hq : 15 ≤ j ∧ (j - 15) % 4 = 0 ∧ (j - 15) / 4 < H 12
      · rw [if_pos hq, if_pos hq]
        dsimp only
        rw [if_neg (show ¬ (j - 15) / 4 = p by omega)]
      · rw [if_neg hq, if_neg hq]
theorem py_cs_age {H : Nat → Nat} (h : py_wm H) {k : Nat} {c : Nat → Nat} : py_age (py_cs H (H 2 + k) c) 1 = py_cs H (H 2 + (k + 1)) (fun p => c p - py_fk H k p) := by
  funext j
  have e12 := py_cs_12 H (H 2 + k) c
  by_cases h2 : j = 2
  · subst h2; rw [py_age_2, py_cs_2, py_cs_2]; omega
  by_cases hl : ∃ p, p < H 12 ∧ j = 15 + 4 * p
  · obtain ⟨p, hp, rfl⟩ := hl
    have z := h.2.2.2.2 p hp
    have h3 := h.2.1
    rw [py_age_l _ 1 (by rw [e12]; exact hp), py_cs_l H _ c hp, py_cs_l H _ _ hp]
    congr 1
    unfold py_fn py_fk
    rw [py_cs_o H _ c (j := 13 + 4 * p) (by omega) (fun q => by omega), py_cs_o H _ c (j := 14 + 4 * p) (by omega) (fun q => by omega), py_cs_o H _ c (j := 16 + 4 * p) (by omega) (fun q => by omega), py_cs_o H _ c (j := 4 + 2 * H (16 + 4 * p)) (by omega) (fun q => by omega), py_cs_o H _ c (j := 5 + 2 * H (16 + 4 * p)) (by omega) (fun q => by omega), py_cs_2, py_fs_1 z.2.1]
  · rw [py_age_o _ 1 h2 (fun p hp e => hl ⟨p, by rw [← e12]; exact hp, e⟩)]
    unfold py_cs
    rw [if_neg h2, if_neg h2]
    have hq : ¬ (15 ≤ j ∧ (j - 15) % 4 = 0 ∧ (j - 15) / 4 < H 12) := by
      rintro ⟨a, b, c⟩
      exact hl ⟨(j - 15) / 4, c, by omega⟩
    rw [if_neg hq, if_neg hq]
theorem py_mk_t {n x p : Nat} {ag : Nat → Nat} (hn : 0 < n) (hp : p = x % n) : (fun q => if q = p then ag p - x % 5 else ag q) = py_mk n x ag := by
  funext q
  unfold py_mk
  subst hp
  by_cases hq : q = x % n
  · rw [if_pos hq, if_pos ⟨hn, hq⟩, hq]
  · rw [if_neg hq, if_neg (fun z => hq z.2)]
theorem py_mk_f {n x : Nat} {ag : Nat → Nat} (hn : n = 0) : ag = py_mk n x ag := by
  funext q
  unfold py_mk
  rw [if_neg (by omega)]
set_option maxHeartbeats 4000000 in
set_option maxRecDepth 100000 in
theorem mo_drawn {X : py_X} {σ : py_H} {R : py_Rt} {q : Int32} {B : Nat → Nat} {N : Nat} {ft : Int32} {H : Nat → Nat} {n : Nat} {As : Nat → Nat → Nat} {I0 I1 : Option (Nat → Nat)} {t : Nat} {tr : Nat → Int32} (hI : py_IM σ R q B N ft H n As I0 I1 t tr) (hW : py_IW H n As I0 I1 t) {x sd y : Int32} : py_Ev X 4 yX8_drawn cX8_drawn 7 (some .int) [.ref 47, .int (x), .int (sd), .int (y)] σ (py_vs (some (.int (an_drawn H x sd y))) (fun s => py_IM s R q B N ft H n As I0 I1 t tr ∧ py_fr py_SM [] σ s)) := by
  obtain ⟨h1, h2, h3, h4, h5, h6, h7, h8, h9⟩ := id hI
  obtain ⟨hw, hA, hJ0, hJ1, ht16⟩ := id hW
  obtain ⟨w0, w1, w2, w3, w12, w03, w00, wW, wP, wR⟩ := id hw
  have hm := py_wm_of hw
  refine py_ofI (own := RX8) YX8_drawn.2.2.2.2 rfl rfl (Nat.le_of_ble_eq_true rfl)  ?_
  show py_Go X RX8 cX8_drawn 7 4 0 [some (.ref 47), some (.int (x)), some (.int (sd)), some (.int (y)), none, none, none] [] σ (py_vs (some (.int (an_drawn H x sd y))) (fun s => py_IM s R q B N ft H n As I0 I1 t tr ∧ py_fr py_SM [] σ s))
  have loop : ∀ e k b, (e ≤ 60 ∧ 1 ≤ k ∧ k ≤ 999999 ∧ b ≤ 1 ∧ 0 < H 0 ∧ x = nI e ∧ sd = nI k ∧ y = nI b ∧ (nI e).toInt = (e : Int) ∧ (nI k).toInt = (k : Int) ∧ (nI b).toInt = (b : Int) ∧ (nI e).toNatClampNeg = e ∧ (nI k).toNatClampNeg = k) → ∀ i, i ≤ e → ∀ s, py_hm (s 55) 0 (py_cs H (H 2 + i) (py_dg H k i)) → py_fr [55] [] σ s → py_Go X RX8 cX8_drawn 7 4 50 [some (.ref 47), some (.int (nI e)), some (.int (nI k)), some (.int (nI b)), some (.long (lN (py_dx k i))), none, some (.int (nI i))] [] s (py_vs (some (.int (an_drawn H x sd y))) (fun s => py_IM s R q B N ft H n As I0 I1 t tr ∧ py_fr py_SM [] σ s)) := by
    intro e k b hekb
    obtain ⟨he, hk0, hk, hb, h00, hx, hz, hy, heI, hkI, hbI, heC, hkC⟩ := hekb
    subst hx hy hz
    refine py_loop _ e (fun i hi ih s hT hs => ?_)
    have h5s : py_hm (s 53) 0 H := by rw [hs.at 53 (by decide) (by decide)]; exact h5
    have hdl0 := py_dx_lt (sd := k) (by omega) i
    refine go_iload (pc := 50) dX8_drawn_50 rfl ?_
    refine go_iload_n (pc := 52) dX8_drawn_52 rfl ?_
    refine go_icmp_geN (tgt := 117) (pc := 53) dX8_drawn_53 (by omega) (by omega) (by decide) (fun c_53 => ?_) (fun c_53 => ?_)
    · refine go_iload_n (pc := 117) dX8_drawn_117 rfl ?_
      refine go_if_neN (tgt := 131) (pc := 118) dX8_drawn_118 (by omega) (by decide) (fun c_118 => ?_) (fun c_118 => ?_)
      · refine go_aload_n (pc := 131) dX8_drawn_131 rfl ?_
        refine go_getR (pc := 132) dX8_drawn_132 fX8_31 rfl rfl ?_
        refine go_cS (pc := 135) dX8_drawn_135 (ev_together hT (by rw [py_cs_12]; exact w12)) lX8_200 YX8_together SX8_together rfl (by decide) rfl (Nat.le_of_ble_eq_true rfl) ?_
        have hie : i = e := by omega
        exact go_retI (pc := 138) dX8_drawn_138 (by unfold an_drawn; rw [if_pos (by omega), if_pos (by omega), if_neg (by omega), heC, hkC, py_cs_12, hie]; exact congrArg nI (py_sm_cong (fun p hp => by rw [py_cs_l H _ _ hp]))) ⟨⟨py_rk_fr hs (by decide) h1, (by rw [hs 47 4 (by decide) (by decide)]; exact h2), py_tm_fr hs (by decide) h3, (by rw [hs 47 7 (by decide) (by decide)]; exact h4), (by rw [hs.at 53 (by decide) (by decide)]; exact h5), py_am_fr hs (by decide) h6, py_ik_fr hs (by decide) h7, py_ik_fr hs (by decide) h8, py_tn_fr hs (by decide) h9⟩, hs.wd (by decide) (by decide)⟩
      · refine go_aload_n (pc := 121) dX8_drawn_121 rfl ?_
        refine go_getR (pc := 122) dX8_drawn_122 fX8_31 rfl rfl ?_
        refine go_cS (pc := 125) dX8_drawn_125 (ev_mliving_55 hT (by rw [py_cs_12]; exact w12) (fun p hp => by rw [py_cs_12] at hp; rw [py_cs_l H _ _ hp]; exact Nat.le_trans (py_dg_le H _ _ p) (wP p hp).2.2.2.2.1)) lX8_173 YX8_living SX8_living rfl (by decide) rfl (Nat.le_of_ble_eq_true rfl) ?_
        refine go_goto (tgt := 138) (pc := 128) dX8_drawn_128 (by decide) ?_
        have hie : i = e := by omega
        exact go_retI (pc := 138) dX8_drawn_138 (by unfold an_drawn; rw [if_pos (by omega), if_pos (by omega), if_pos (by omega), heC, hkC]; unfold py_lvH; rw [py_cs_12, hie]; exact congrArg nI (py_bs_cong (fun p hp => by rw [py_cs_l H _ _ hp]))) ⟨⟨py_rk_fr hs (by decide) h1, (by rw [hs 47 4 (by decide) (by decide)]; exact h2), py_tm_fr hs (by decide) h3, (by rw [hs 47 7 (by decide) (by decide)]; exact h4), (by rw [hs.at 53 (by decide) (by decide)]; exact h5), py_am_fr hs (by decide) h6, py_ik_fr hs (by decide) h7, py_ik_fr hs (by decide) h8, py_tn_fr hs (by decide) h9⟩, hs.wd (by decide) (by decide)⟩
    · refine go_lload (pc := 56) dX8_drawn_56 rfl ?_
      refine go_ldc2 (pc := 58) dX8_drawn_58 kX8_210 ?_
      refine go_topl (y := lN 16807) (by decide) ?_
      refine go_lmulN (pc := 61) dX8_drawn_61 ?_
      refine go_ldc2 (pc := 62) dX8_drawn_62 kX8_212 ?_
      refine go_topl (y := lN 2147483647) (by decide) ?_
      refine go_lremN (pc := 65) dX8_drawn_65 (by have z := py_dx_lt (sd := k) (by omega) i; omega) (by decide) (by decide) ?_
      refine go_topl (y := lN (py_dx k (i + 1))) rfl ?_
      have hxl := py_dx_lt (sd := k) (by omega) (i + 1)
      refine go_lstore (pc := 66) dX8_drawn_66 (by decide) rfl ?_
      refine go_aload_n (pc := 68) dX8_drawn_68 rfl ?_
      refine go_getR (pc := 69) dX8_drawn_69 fX8_25 rfl rfl ?_
      refine go_bipush (v := nI 12) (pc := 72) dX8_drawn_72 (by decide) ?_
      refine go_aldN (x := (nI (H 12))) (pc := 74) dX8_drawn_74 rfl (by show 12 < 33; omega) (py_hm_at h5s (show 12 = 12 by omega) (by omega)) ?_
      refine go_if_leN (tgt := 104) (pc := 75) dX8_drawn_75 (by omega) (by decide) (fun c_75 => ?_) (fun c_75 => ?_)
      · refine go_aload_n (pc := 104) dX8_drawn_104 rfl ?_
        refine go_getR (pc := 105) dX8_drawn_105 fX8_31 rfl rfl ?_
        have hT1 : py_hm (s 55) 0 (py_cs H (H 2 + i) (py_mk (H 12) (py_dx k (i + 1)) (py_dg H k i))) := by rw [← py_mk_f c_75]; exact hT
        have hf1 : py_fr [55] [] s s := py_fr.rf _ _ s
        refine go_cSv (pc := 108) dX8_drawn_108 (ev_passes_55 hT1 (py_cs_wm hm (by omega) (fun p hp => Nat.le_trans (py_mk_le _ _ _ p) (Nat.le_trans (py_dg_le H _ _ p) (wP p hp).2.2.2.2.1)))) lX8_162 YX8_passes SX8_passes rfl (by decide) rfl (Nat.le_of_ble_eq_true rfl) (fun s2 hs2 => ?_)
        obtain ⟨hT2, hf2⟩ := hs2
        rw [py_cs_age hm] at hT2
        refine go_iincN (c := 1) (pc := 111) dX8_drawn_111 rfl (by decide) (by decide) rfl ?_
        refine go_goto (tgt := 50) (pc := 114) dX8_drawn_114 (by decide) ?_
        exact ih (by omega) s2 hT2 ((hs.tr hf1 (by decide) (by decide)).tr hf2 (by decide) (by decide))
      · refine go_aload_n (pc := 78) dX8_drawn_78 rfl ?_
        refine go_getR (pc := 79) dX8_drawn_79 fX8_31 rfl rfl ?_
        refine go_lload (pc := 82) dX8_drawn_82 rfl ?_
        refine go_aload_n (pc := 84) dX8_drawn_84 rfl ?_
        refine go_getR (pc := 85) dX8_drawn_85 fX8_25 rfl rfl ?_
        refine go_bipush (v := nI 12) (pc := 88) dX8_drawn_88 (by decide) ?_
        refine go_aldN (x := (nI (H 12))) (pc := 90) dX8_drawn_90 rfl (by show 12 < 33; omega) (py_hm_at h5s (show 12 = 12 by omega) (by omega)) ?_
        refine go_i2lN (pc := 91) dX8_drawn_91 (by omega) ?_
        refine go_lremN (pc := 92) dX8_drawn_92 (by omega) (by omega) (by omega) ?_
        refine go_l2iN (pc := 93) dX8_drawn_93 ?_
        refine go_lload (pc := 94) dX8_drawn_94 rfl ?_
        refine go_ldc2 (pc := 96) dX8_drawn_96 kX8_214 ?_
        refine go_topl (y := lN 5) (by decide) ?_
        refine go_lremN (pc := 99) dX8_drawn_99 (by omega) (by decide) (by decide) ?_
        refine go_l2iN (pc := 100) dX8_drawn_100 ?_
        have hmp : py_dx k (i + 1) % H 12 < H 12 := Nat.mod_lt _ c_75
        have hm5 : py_dx k (i + 1) % 5 < 5 := Nat.mod_lt _ (by decide)
        have hcsl := py_cs_l H (H 2 + i) (py_dg H k i) hmp
        refine go_cSv (pc := 101) dX8_drawn_101 (ev_takesOff_55 hT (by omega) (by rw [hcsl]; exact Nat.le_trans (py_dg_le H _ _ _) (wP _ hmp).2.2.2.2.1) (by omega)) lX8_158 YX8_takesOff SX8_takesOff rfl (by decide) rfl (Nat.le_of_ble_eq_true rfl) (fun s1 hs1 => ?_)
        obtain ⟨hT1, hf1⟩ := hs1
        rw [hcsl, py_cs_pc2 hmp, py_mk_t c_75 rfl] at hT1
        refine go_aload_n (pc := 104) dX8_drawn_104 rfl ?_
        refine go_getR (pc := 105) dX8_drawn_105 fX8_31 rfl rfl ?_
        refine go_cSv (pc := 108) dX8_drawn_108 (ev_passes_55 hT1 (py_cs_wm hm (by omega) (fun p hp => Nat.le_trans (py_mk_le _ _ _ p) (Nat.le_trans (py_dg_le H _ _ p) (wP p hp).2.2.2.2.1)))) lX8_162 YX8_passes SX8_passes rfl (by decide) rfl (Nat.le_of_ble_eq_true rfl) (fun s2 hs2 => ?_)
        obtain ⟨hT2, hf2⟩ := hs2
        rw [py_cs_age hm] at hT2
        refine go_iincN (c := 1) (pc := 111) dX8_drawn_111 rfl (by decide) (by decide) rfl ?_
        refine go_goto (tgt := 50) (pc := 114) dX8_drawn_114 (by decide) ?_
        exact ih (by omega) s2 hT2 ((hs.tr hf1 (by decide) (by decide)).tr hf2 (by decide) (by decide))
  refine go_aload_n (pc := 0) dX8_drawn_0 rfl ?_
  refine go_cV (pc := 1) dX8_drawn_1 (ev_isHouse h5 w0) lX8_166 YX8_isHouse VX8_isHouse rfl rfl rfl (by decide) rfl (Nat.le_of_ble_eq_true rfl) ?_
  refine go_if_neB (tgt := 10) (pc := 4) dX8_drawn_4 (by decide) (fun c_4 => ?_) (fun c_4 => ?_)
  · refine go_iload_n (pc := 10) dX8_drawn_10 rfl ?_
    refine go_cS (pc := 11) dX8_drawn_11 ev_misFar lX8_183 YX8_isFar SX8_isFar rfl (by decide) rfl (Nat.le_of_ble_eq_true rfl) ?_
    refine go_if_eqB (tgt := 36) (pc := 14) dX8_drawn_14 (by decide) (fun c_14 => ?_) (fun c_14 => ?_)
    · refine go_ldc (pc := 36) dX8_drawn_36 kX8_67 ?_
      exact go_retI (pc := 38) dX8_drawn_38 (by unfold an_drawn; (repeat' split) <;> first | rfl | omega) ⟨hI, py_fr.rf _ _ σ⟩
    · obtain ⟨e, rfl, he0, he, heI, heC⟩ := py_rg_of (x := x) (a := 0) (b := 60) c_14
      refine go_iload_n (pc := 17) dX8_drawn_17 rfl ?_
      refine go_iconst (v := nI 1) (pc := 18) dX8_drawn_18 (by decide) ?_
      refine go_ldc (pc := 19) dX8_drawn_19 kX8_209 ?_
      refine go_cS (pc := 21) dX8_drawn_21 ev_in lX8_59 YX8_in SX8_in rfl (by decide) rfl (Nat.le_of_ble_eq_true rfl) ?_
      have hm1 : (nI 1).toInt = 1 := by decide
      have hm9 : (999999 : Int32).toInt = 999999 := by decide
      refine go_if_eqB (tgt := 36) (pc := 24) dX8_drawn_24 (by decide) (fun c_24 => ?_) (fun c_24 => ?_)
      · refine go_ldc (pc := 36) dX8_drawn_36 kX8_67 ?_
        exact go_retI (pc := 38) dX8_drawn_38 (by unfold an_drawn; (repeat' split) <;> first | rfl | omega) ⟨hI, py_fr.rf _ _ σ⟩
      · obtain ⟨k, rfl, hk0, hk, hkI, hkC⟩ := py_rg_of (x := sd) (a := 1) (b := 999999) ⟨by omega, by omega⟩
        refine go_iload_n (pc := 27) dX8_drawn_27 rfl ?_
        refine go_iconst (v := nI 0) (pc := 28) dX8_drawn_28 (by decide) ?_
        refine go_iconst (v := nI 1) (pc := 29) dX8_drawn_29 (by decide) ?_
        refine go_cS (pc := 30) dX8_drawn_30 ev_inN lX8_59 YX8_in SX8_in rfl (by decide) rfl (Nat.le_of_ble_eq_true rfl) ?_
        refine go_if_neB (tgt := 39) (pc := 33) dX8_drawn_33 (by decide) (fun c_33 => ?_) (fun c_33 => ?_)
        · obtain ⟨b, rfl, hb0, hb, hbI, hbC⟩ := py_rg_of (x := y) (a := 0) (b := 1) c_33
          refine go_aload_n (pc := 39) dX8_drawn_39 rfl ?_
          refine go_cVv (pc := 40) dX8_drawn_40 (ev_tries h5) lX8_186 YX8_tries VX8_tries rfl rfl rfl (by decide) rfl (Nat.le_of_ble_eq_true rfl) (fun s1 hs1 => ?_)
          obtain ⟨hT1, hf1⟩ := hs1
          refine go_iload_n (pc := 43) dX8_drawn_43 rfl ?_
          refine go_i2lN (pc := 44) dX8_drawn_44 (by omega) ?_
          refine go_lstore (pc := 45) dX8_drawn_45 (by decide) rfl ?_
          refine go_iconst (v := nI 0) (pc := 47) dX8_drawn_47 (by decide) ?_
          refine go_istore (pc := 48) dX8_drawn_48 (by decide) rfl ?_
          exact loop e k b ⟨he, hk0, hk, hb, by omega, rfl, rfl, rfl, heI, hkI, hbI, heC, hkC⟩ 0 (by omega) s1 (by have z := py_cs_id H; rw [Nat.add_zero]; show py_hm (s1 55) 0 (py_cs H (H 2) (fun p => H (15 + 4 * p))); rw [z]; exact hT1) hf1
        · refine go_ldc (pc := 36) dX8_drawn_36 kX8_67 ?_
          exact go_retI (pc := 38) dX8_drawn_38 (by unfold an_drawn; (repeat' split) <;> first | rfl | omega) ⟨hI, py_fr.rf _ _ σ⟩
  · refine go_ldc (pc := 7) dX8_drawn_7 kX8_169 ?_
    exact go_retI (pc := 9) dX8_drawn_9 (by unfold an_drawn; (repeat' split) <;> first | rfl | omega) ⟨hI, py_fr.rf _ _ σ⟩
