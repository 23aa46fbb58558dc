/-! contracts: the reference's house -/
theorem py_lr_k {α : Type} {s : py_H} {B : Nat → Nat} {N k j : Nat} {v ft : Int32} {r : py_Re α} (hk : k ≠ 47) (h : py_lr s B N ft r) : py_lr (py_up s k j v) B N ft r := by
  have e : py_up s k j v 47 = s 47 := py_up_k _ _ _ (fun z => hk z.symm)
  unfold py_lr py_lx at h ⊢
  rw [e]
  exact h
theorem py_lr_6 {α : Type} {s : py_H} {B : Nat → Nat} {N : Nat} {v ft : Int32} {r : py_Re α} (h : py_lr s B N ft r) : py_lr (py_up s 47 6 v) B N ft r := by
  unfold py_lr py_lx at h ⊢
  rw [py_up_j _ _ _ (show 7 ≠ 6 by decide), py_up_j _ _ _ (show 8 ≠ 6 by decide), py_up_j _ _ _ (show 9 ≠ 6 by decide), py_up_j _ _ _ (show 10 ≠ 6 by decide), py_up_j _ _ _ (show 11 ≠ 6 by decide), py_up_j _ _ _ (show 12 ≠ 6 by decide)]
  exact h
theorem py_law_sp (r1 : py_Re Nat) (f g h : Nat → py_Re Nat) (mk : Nat → Nat → (Nat → Nat)) : py_sp (py_bi r1 (fun a _ => py_bi (f a) (fun a r => py_bi (g a) (fun a q => py_bi (h a) (fun a _ => (.inr (a, mk r q) : py_Re (Nat → Nat))))))) = py_sp (py_bi (py_bi (py_bi r1 (fun a _ => f a)) (fun a _ => g a)) (fun a _ => h a)) := by
  cases r1 with
  | inl e => rfl
  | inr q =>
    obtain ⟨a2, l⟩ := q
    rw [py_bi_i, py_bi_i]
    cases f a2 with
    | inl e => rfl
    | inr p =>
      obtain ⟨a3, c⟩ := p
      rw [py_bi_i, py_bi_i]
      cases g a3 with
      | inl e => rfl
      | inr u =>
        obtain ⟨a5, w⟩ := u
        rw [py_bi_i, py_bi_i]
        cases h a5 with
        | inl e => rfl
        | inr v => rfl
theorem py_plaw_b (B : Nat → Nat) (N : Nat) : py_plaw B N = py_bi (py_chr B N 0 103) (fun a _ => py_bi (py_num B N a 1 5) (fun a r => py_bi (py_bi (py_chr B N a 44) (fun a _ => py_num B N a 0 99)) (fun a q => py_bi (py_chr B N a 59) (fun a _ => .inr (a, py_law r q))))) := by
  unfold py_plaw
  congr 1
  funext a _
  congr 1
  funext a r
  rw [py_bi_a]
theorem py_pws_1 {B : Nat → Nat} {N f w a : Nat} {H : Nat → Nat} (h : w = 0 ∨ (a < N ∧ B a = 119)) : py_pws B N (f + 1) w a H = py_bi (py_pwall B N a H) (fun a H => py_pws B N f (w + 1) a H) := by
  show (if _ then _ else _) = _
  rw [if_pos h]
theorem py_pws_0 {B : Nat → Nat} {N f w a : Nat} {H : Nat → Nat} (h : ¬ (w = 0 ∨ (a < N ∧ B a = 119))) : py_pws B N (f + 1) w a H = .inr (a, H) := by
  show (if _ then _ else _) = _
  rw [if_neg h]
theorem py_pps_1 {B : Nat → Nat} {N f a : Nat} {H : Nat → Nat} (h : a < N) : py_pps B N (f + 1) a H = py_bi (py_ppic B N a H) (fun a H => py_pps B N f a H) := by
  show (if _ then _ else _) = _
  rw [if_pos h]
theorem py_pps_0 {B : Nat → Nat} {N f a : Nat} {H : Nat → Nat} (h : ¬ a < N) : py_pps B N (f + 1) a H = .inr (a, H) := by
  show (if _ then _ else _) = _
  rw [if_neg h]
set_option maxHeartbeats 4000000 in
set_option maxRecDepth 100000 in
theorem mo_house {X : py_X} {σ : py_H} {R : py_Rt} {q : Int32} {B : Nat → Nat} {N : Nat} {ft : Int32} {H : Nat → Nat} {n : Nat} {As : Nat → Nat → Nat} {I0 I1 : Option (Nat → Nat)} {t : Nat} {tr : Nat → Int32} (hI : py_IM σ R q B N ft H n As I0 I1 t tr) (hW : py_IW H n As I0 I1 t) : py_Ev X 6 yX8_house cX8_house 2 (some .int) [.ref 47] σ (py_vs (some (.int (an_house (py_read B N)))) (fun s => py_IM s R q B (0) (nf_house ft (py_read B N)) (nh_house H (py_read B N)) (na_house n (py_read B N)) As I0 I1 t tr ∧ py_fr py_SM [] σ s)) := by
  obtain ⟨h1, h2, h3, h4, h5, h6, h7, h8, h9⟩ := id hI
  obtain ⟨hw, hA, hJ0, hJ1, ht16⟩ := id hW
  obtain ⟨w0, w1, w2, w3, w12, w03, w00, wW, wP, wR⟩ := id hw
  have hm := py_wm_of hw
  refine py_ofI (own := RX8) YX8_house.2.2.2.2 rfl rfl (Nat.le_of_ble_eq_true rfl)  ?_
  show py_Go X RX8 cX8_house 2 6 0 [some (.ref 47), none] [] σ (py_vs (some (.int (an_house (py_read B N)))) (fun s => py_IM s R q B (0) (nf_house ft (py_read B N)) (nh_house H (py_read B N)) (na_house n (py_read B N)) As I0 I1 t tr ∧ py_fr py_SM [] σ s))
  have hN := h3.2.1
  have hB : ∀ i, i < N → B i ≤ 255 := fun i hi => (h3.2.2 i hi).2
  have fin : ∀ (r : py_Re (Nat → Nat)) s, r = py_read B N → py_lr s B N ft r → (∀ a G, r = .inr (a, G) → py_hm (s 54) 0 G) → py_fr [54] py_T6 σ s → py_Go X RX8 cX8_house 2 6 222 [some (.ref 47), none] [] s (py_vs (some (.int (an_house (py_read B N)))) (fun s => py_IM s R q B (0) (nf_house ft (py_read B N)) (nh_house H (py_read B N)) (na_house n (py_read B N)) As I0 I1 t tr ∧ py_fr py_SM [] σ s)) := by
    intro r s hr h hD hs
    have h6z := py_lr_6 (v := nI 0) h
    rw [← hr]
    match r, h, h6z, hD, hr with
    | .inl e, h, h6x, hD, hr =>
      refine go_aload_n (pc := 222) dX8_house_222 rfl ?_
      refine go_iconst (v := nI 0) (pc := 223) dX8_house_223 (by decide) ?_
      refine go_putI (pc := 224) dX8_house_224 fX8_85 rfl rfl ?_
      refine go_aload_n (pc := 227) dX8_house_227 rfl ?_
      refine go_cV (pc := 228) dX8_house_228 (ev_isWell hN h6x) lX8_107 YX8_isWell VX8_isWell rfl rfl rfl (by decide) rfl (Nat.le_of_ble_eq_true rfl) ?_
      refine go_if_neB (tgt := 242) (pc := 231) dX8_house_231 (by decide) (fun c_231 => ?_) (fun c_231 => ?_)
      · exact absurd c_231 Bool.false_ne_true
      · refine go_ldc (pc := 234) dX8_house_234 kX8_147 ?_
        refine go_aload_n (pc := 236) dX8_house_236 rfl ?_
        refine go_getI (x := (nI (e.1))) (pc := 237) dX8_house_237 fX8_104 rfl rfl h6x.1 ?_
        refine go_isub (pc := 240) dX8_house_240  ?_
        have hf : py_fr [54] (py_T6 ++ [(47, 6), (47, 17)]) σ (py_up s 47 6 (nI 0)) := (hs.wd (S := [54]) (T := (py_T6 ++ [(47, 6), (47, 17)])) (by decide) (by decide)).ut (by decide) _
        refine go_retI (pc := 241) dX8_house_241 rfl ⟨?_, hf.wd (by decide) (by decide)⟩
        show py_IM (py_up s 47 6 (nI 0)) R q B (0) (nI e.2) H n As I0 I1 t tr
        exact ⟨py_rk_fr hf (by decide) h1, (by rw [hf 47 4 (by decide) (by decide)]; exact h2), ⟨py_up_s _ _ _ _, by decide, fun i hi => absurd hi (Nat.not_lt_zero i)⟩, (by rw [py_up_j _ _ _ (by decide)]; exact h.2.1), (by rw [hf.at 53 (by decide) (by decide)]; exact h5), (by rw [hf.at 56 (by decide) (by decide), py_up_j _ _ _ (by decide), hs 47 17 (by decide) (by decide)]; exact h6), py_ik_fr hf (by decide) h7, py_ik_fr hf (by decide) h8, py_tn_fr hf (by decide) h9⟩
    | .inr (a, G), h, h6x, hD, hr =>
      refine go_aload_n (pc := 222) dX8_house_222 rfl ?_
      refine go_iconst (v := nI 0) (pc := 223) dX8_house_223 (by decide) ?_
      refine go_putI (pc := 224) dX8_house_224 fX8_85 rfl rfl ?_
      refine go_aload_n (pc := 227) dX8_house_227 rfl ?_
      refine go_cV (pc := 228) dX8_house_228 (ev_isWell hN h6x) lX8_107 YX8_isWell VX8_isWell rfl rfl rfl (by decide) rfl (Nat.le_of_ble_eq_true rfl) ?_
      refine go_if_neB (tgt := 242) (pc := 231) dX8_house_231 (by decide) (fun c_231 => ?_) (fun c_231 => ?_)
      · refine go_aload_n (pc := 242) dX8_house_242 rfl ?_
        refine go_getR (pc := 243) dX8_house_243 fX8_28 rfl rfl ?_
        refine go_iconst (v := nI 0) (pc := 246) dX8_house_246 (by decide) ?_
        refine go_aload_n (pc := 247) dX8_house_247 rfl ?_
        refine go_getR (pc := 248) dX8_house_248 fX8_25 rfl rfl ?_
        refine go_iconst (v := nI 0) (pc := 251) dX8_house_251 (by decide) ?_
        refine go_cSv (pc := 252) dX8_house_252 ev_copies_54_53 lX8_148 YX8_copies SX8_copies rfl (by decide) rfl (Nat.le_of_ble_eq_true rfl) (fun s1 e1 => ?_)
        subst e1
        have hG53 : py_hm ((py_up (py_row (py_up s 47 6 (nI 0)) 53 (va_cpy ((py_up s 47 6 (nI 0)) 54) ((py_up s 47 6 (nI 0)) 53) (0) (0) 33)) 47 17 (nI 0)) 53) 0 G := by rw [py_up_k _ _ _ (by decide), py_row_self]; refine py_hm_cpy ?_; rw [py_up_k _ _ _ (by decide)]; exact hD a G rfl
        refine go_aload_n (pc := 255) dX8_house_255 rfl ?_
        refine go_iconst (v := nI 0) (pc := 256) dX8_house_256 (by decide) ?_
        refine go_putI (pc := 257) dX8_house_257 fX8_152 rfl rfl ?_
        refine go_aload_n (pc := 260) dX8_house_260 rfl ?_
        refine go_getR (pc := 261) dX8_house_261 fX8_25 rfl rfl ?_
        refine go_bipush (v := nI 12) (pc := 264) dX8_house_264 (by decide) ?_
        refine go_aldN (x := (nI (G 12))) (pc := 266) dX8_house_266 rfl (by show 12 < 33; omega) (py_hm_at hG53 (show 12 = 12 by omega) (by omega)) ?_
        have hf : py_fr [53, 54] (py_T6 ++ [(47, 6), (47, 17)]) σ (py_up (py_row (py_up s 47 6 (nI 0)) 53 (va_cpy ((py_up s 47 6 (nI 0)) 54) ((py_up s 47 6 (nI 0)) 53) (0) (0) 33)) 47 17 (nI 0)) := ((((hs.wd (S := [53, 54]) (T := (py_T6 ++ [(47, 6), (47, 17)])) (by decide) (by decide)).ut (by decide) _).row (by decide) _).ut (by decide) _)
        refine go_retI (pc := 267) dX8_house_267 rfl ⟨?_, hf.wd (by decide) (by decide)⟩
        show py_IM (py_up (py_row (py_up s 47 6 (nI 0)) 53 (va_cpy ((py_up s 47 6 (nI 0)) 54) ((py_up s 47 6 (nI 0)) 53) (0) (0) 33)) 47 17 (nI 0)) R q B (0) ft (G) (0) As I0 I1 t tr
        exact ⟨py_rk_fr hf (by decide) h1, (by rw [hf 47 4 (by decide) (by decide)]; exact h2), ⟨by rw [py_up_j _ _ _ (by decide), py_row_ne _ _ (by decide), py_up_s], by decide, fun i hi => absurd hi (Nat.not_lt_zero i)⟩, (by rw [py_up_j _ _ _ (by decide), py_row_ne _ _ (by decide), py_up_j _ _ _ (by decide)]; exact h.2.2.1), hG53, ⟨py_up_s _ _ _ _, fun i hi => absurd hi (Nat.not_lt_zero i)⟩, py_ik_fr hf (by decide) h7, py_ik_fr hf (by decide) h8, py_tn_fr hf (by decide) h9⟩
      · exact absurd rfl c_231
  have flt : ∀ e s, py_read B N = .inl e → py_lr s B N ft (Sum.inl e : py_Re (Nat → Nat)) → py_fr [54] py_T6 σ s → py_Go X RX8 cX8_house 2 6 169 [some (.ref 47), none] [] s (py_vs (some (.int (an_house (py_read B N)))) (fun s => py_IM s R q B (0) (nf_house ft (py_read B N)) (nh_house H (py_read B N)) (na_house n (py_read B N)) As I0 I1 t tr ∧ py_fr py_SM [] σ s)) := by
    intro e s hr h hs
    refine go_aload_n (pc := 169) dX8_house_169 rfl ?_
    refine go_cV (pc := 170) dX8_house_170 (ev_isWell hN h) lX8_107 YX8_isWell VX8_isWell rfl rfl rfl (by decide) rfl (Nat.le_of_ble_eq_true rfl) ?_
    refine go_if_eqB (tgt := 201) (pc := 173) dX8_house_173 (by decide) (fun c_173 => ?_) (fun c_173 => ?_)
    · refine go_aload_n (pc := 201) dX8_house_201 rfl ?_
      refine go_cV (pc := 202) dX8_house_202 (ev_isWell hN h) lX8_107 YX8_isWell VX8_isWell rfl rfl rfl (by decide) rfl (Nat.le_of_ble_eq_true rfl) ?_
      refine go_if_eqB (tgt := 222) (pc := 205) dX8_house_205 (by decide) (fun c_205 => ?_) (fun c_205 => ?_)
      · exact fin (Sum.inl e : py_Re (Nat → Nat)) s hr.symm h (fun a G z => nomatch z) hs
      · exact absurd c_205 Bool.false_ne_true
    · exact absurd c_173 Bool.false_ne_true
  have flt8 : ∀ e s, py_read B N = .inl e → py_lr s B N ft (Sum.inl e : py_Re (Nat → Nat)) → py_fr [54] py_T6 σ s → py_Go X RX8 cX8_house 2 6 138 [some (.ref 47), none] [] s (py_vs (some (.int (an_house (py_read B N)))) (fun s => py_IM s R q B (0) (nf_house ft (py_read B N)) (nh_house H (py_read B N)) (na_house n (py_read B N)) As I0 I1 t tr ∧ py_fr py_SM [] σ s)) := by
    intro e s hr h hs
    refine go_aload_n (pc := 138) dX8_house_138 rfl ?_
    refine go_cV (pc := 139) dX8_house_139 (ev_isWell hN h) lX8_107 YX8_isWell VX8_isWell rfl rfl rfl (by decide) rfl (Nat.le_of_ble_eq_true rfl) ?_
    refine go_if_eqB (tgt := 169) (pc := 142) dX8_house_142 (by decide) (fun c_142 => ?_) (fun c_142 => ?_)
    · exact flt e s hr h hs
    · exact absurd c_142 Bool.false_ne_true
  have pics : ∀ f a G s, f + G 12 = 6 → py_rd G → 1 ≤ G 3 → py_lr s B N ft (Sum.inr (a, G) : py_Re (Nat → Nat)) → py_hm (s 54) 0 G → py_fr [54] py_T6 σ s → py_pps B N f a G = py_read B N → py_Go X RX8 cX8_house 2 6 169 [some (.ref 47), none] [] s (py_vs (some (.int (an_house (py_read B N)))) (fun s => py_IM s R q B (0) (nf_house ft (py_read B N)) (nh_house H (py_read B N)) (na_house n (py_read B N)) As I0 I1 t tr ∧ py_fr py_SM [] σ s)) := by
    intro f
    induction f with
    | zero => intro a G s hf6 hrd h31 h hD hs hread; have z := hrd.2.2.2.2.2.1; omega
    | succ f ih =>
      intro a G s hf6 hrd h31 h hD hs hread
      have htk5 := py_tk_5 B N a
      have hts : py_tm s B N := py_tm_6 hs (by decide) h3
      have hkk := py_tk_k (a := a) hN hB
      have haN := h.2.2.2
      obtain ⟨g0, g05, g1, g2, g3, g12, gW, gP, gR⟩ := id hrd
      refine go_aload_n (pc := 169) dX8_house_169 rfl ?_
      refine go_cV (pc := 170) dX8_house_170 (ev_isWell hN h) lX8_107 YX8_isWell VX8_isWell rfl rfl rfl (by decide) rfl (Nat.le_of_ble_eq_true rfl) ?_
      refine go_if_eqB (tgt := 201) (pc := 173) dX8_house_173 (by decide) (fun c_173 => ?_) (fun c_173 => ?_)
      · exact absurd rfl c_173
      · refine go_aload_n (pc := 176) dX8_house_176 rfl ?_
        refine go_getI (x := (nI (py_tk B N a))) (pc := 177) dX8_house_177 fX8_101 rfl rfl h.2.1.2.2.1 ?_
        refine go_iconst (v := nI 1) (pc := 180) dX8_house_180 (by decide) ?_
        refine go_icmp_neN (tgt := 201) (pc := 181) dX8_house_181 (by omega) (by omega) (by decide) (fun c_181 => ?_) (fun c_181 => ?_)
        · have hk0 : ¬ 0 < py_kd (py_at B N a) := fun z => by have y := hkk.mpr z; omega
          refine go_aload_n (pc := 201) dX8_house_201 rfl ?_
          refine go_cV (pc := 202) dX8_house_202 (ev_isWell hN h) lX8_107 YX8_isWell VX8_isWell rfl rfl rfl (by decide) rfl (Nat.le_of_ble_eq_true rfl) ?_
          refine go_if_eqB (tgt := 222) (pc := 205) dX8_house_205 (by decide) (fun c_205 => ?_) (fun c_205 => ?_)
          · exact absurd rfl c_205
          · refine go_aload_n (pc := 208) dX8_house_208 rfl ?_
            refine go_getI (x := (nI (py_tk B N a))) (pc := 209) dX8_house_209 fX8_101 rfl rfl h.2.1.2.2.1 ?_
            refine go_if_eqN (tgt := 222) (pc := 212) dX8_house_212 (by omega) (by decide) (fun c_212 => ?_) (fun c_212 => ?_)
            · exact fin (Sum.inr (a, G) : py_Re (Nat → Nat)) s (by rw [← hread, py_pps_0 (py_tk_0.mp c_212)]) h (fun a2 G2 z => by injection z with z; injection z with z1 z2; subst z2; exact hD) hs
            · refine go_aload_n (pc := 215) dX8_house_215 rfl ?_
              refine go_iconst (v := nI 0) (pc := 216) dX8_house_216 (by decide) ?_
              refine go_iconst (v := nI 1) (pc := 217) dX8_house_217 (by decide) ?_
              refine go_cVi (pc := 218) dX8_house_218 (ev_takes (b := False) (k := 1) hts h) lX8_117 YX8_takes VX8_takes rfl rfl rfl (by decide) rfl (Nat.le_of_ble_eq_true rfl) (fun s1 hs1 => ?_)
              have h1x : py_lr s1 B N ft (Sum.inl (a, 1) : py_Re (Nat → Nat)) := py_lr_sp (by rw [py_tks_f (fun z => z)]; rfl) hs1.1
              have hs1 := hs.tr hs1.2 (by decide) (by decide)
              refine go_pop (pc := 221) dX8_house_221 rfl ?_
              have hlt9 : a < N := Classical.byContradiction (fun z => by have y := py_tk_0 (B := B) (N := N) (a := a) |>.mpr z; omega)
              exact fin (Sum.inl (a, 1)) s1 (by rw [← hread, py_pps_1 hlt9]; unfold py_ppic; rw [if_pos (by omega)]; rfl) h1x (fun a G z => nomatch z) hs1
        · refine go_aload_n (pc := 184) dX8_house_184 rfl ?_
          refine go_getI (x := (py_vl B N a)) (pc := 185) dX8_house_185 fX8_98 rfl rfl h.2.1.2.2.2 ?_
          refine go_cS (pc := 188) dX8_house_188 ev_kindOf lX8_134 YX8_kindOf SX8_kindOf rfl (by decide) rfl (Nat.le_of_ble_eq_true rfl) ?_
          have hkl : py_kdI (py_vl B N a) ≤ 5 := by unfold py_kdI; (repeat' split) <;> omega
          refine go_if_leN (tgt := 201) (pc := 191) dX8_house_191 (by omega) (by decide) (fun c_191 => ?_) (fun c_191 => ?_)
          · have hk0 : ¬ 0 < py_kd (py_at B N a) := fun z => by have y := hkk.mpr z; omega
            refine go_aload_n (pc := 201) dX8_house_201 rfl ?_
            refine go_cV (pc := 202) dX8_house_202 (ev_isWell hN h) lX8_107 YX8_isWell VX8_isWell rfl rfl rfl (by decide) rfl (Nat.le_of_ble_eq_true rfl) ?_
            refine go_if_eqB (tgt := 222) (pc := 205) dX8_house_205 (by decide) (fun c_205 => ?_) (fun c_205 => ?_)
            · exact absurd rfl c_205
            · refine go_aload_n (pc := 208) dX8_house_208 rfl ?_
              refine go_getI (x := (nI (py_tk B N a))) (pc := 209) dX8_house_209 fX8_101 rfl rfl h.2.1.2.2.1 ?_
              refine go_if_eqN (tgt := 222) (pc := 212) dX8_house_212 (by omega) (by decide) (fun c_212 => ?_) (fun c_212 => ?_)
              · exact fin (Sum.inr (a, G) : py_Re (Nat → Nat)) s (by rw [← hread, py_pps_0 (py_tk_0.mp c_212)]) h (fun a2 G2 z => by injection z with z; injection z with z1 z2; subst z2; exact hD) hs
              · refine go_aload_n (pc := 215) dX8_house_215 rfl ?_
                refine go_iconst (v := nI 0) (pc := 216) dX8_house_216 (by decide) ?_
                refine go_iconst (v := nI 1) (pc := 217) dX8_house_217 (by decide) ?_
                refine go_cVi (pc := 218) dX8_house_218 (ev_takes (b := False) (k := 1) hts h) lX8_117 YX8_takes VX8_takes rfl rfl rfl (by decide) rfl (Nat.le_of_ble_eq_true rfl) (fun s1 hs1 => ?_)
                have h1x : py_lr s1 B N ft (Sum.inl (a, 1) : py_Re (Nat → Nat)) := py_lr_sp (by rw [py_tks_f (fun z => z)]; rfl) hs1.1
                have hs1 := hs.tr hs1.2 (by decide) (by decide)
                refine go_pop (pc := 221) dX8_house_221 rfl ?_
                have hlt9 : a < N := Classical.byContradiction (fun z => by have y := py_tk_0 (B := B) (N := N) (a := a) |>.mpr z; omega)
                exact fin (Sum.inl (a, 1)) s1 (by rw [← hread, py_pps_1 hlt9]; unfold py_ppic; rw [if_pos (by omega)]; rfl) h1x (fun a G z => nomatch z) hs1
          · refine go_aload_n (pc := 194) dX8_house_194 rfl ?_
            have hk := hkk.mp ⟨c_181, c_191⟩
            have hal := py_kd_at hk
            refine go_cVv (pc := 195) dX8_house_195 (ev_readsPicture hts h hD hk g3 h31 g12 g05 (fun p hp => by have z := (gP p hp).2.2.2.2.2; omega)) lX8_144 YX8_readsPicture VX8_readsPicture rfl rfl rfl (by decide) rfl (Nat.le_of_ble_eq_true rfl) (fun s1 hs1 => ?_)
            obtain ⟨h1x, hD1, hf1⟩ := hs1
            have hs1 := hs.tr hf1 (by decide) (by decide)
            rw [py_pps_1 hal] at hread
            refine go_goto (tgt := 169) (pc := 198) dX8_house_198 (by decide) ?_
            cases hp : py_ppic B N a G with
            | inl e =>
              rw [hp] at h1x hread
              exact flt e s1 hread.symm h1x hs1
            | inr q9 =>
              obtain ⟨a2, G2⟩ := q9
              have hv9 := py_ppic_v hN hrd h31 hp
              have hm9 := hD1 a2 G2 hp
              rw [hp] at h1x hread
              exact ih a2 G2 s1 (by omega) hv9.2.1 (by omega) h1x hm9 hs1 hread
  have walls : ∀ f a G s, f + G 3 = 5 → py_rd G → G 12 = 0 → (G 3 = 0 → a < N ∧ B a = 119) → py_lr s B N ft (Sum.inr (a, G) : py_Re (Nat → Nat)) → py_hm (s 54) 0 G → py_fr [54] py_T6 σ s → py_bi (py_pws B N f (G 3) a G) (fun a H => py_pps B N 6 a H) = py_read B N → py_Go X RX8 cX8_house 2 6 138 [some (.ref 47), none] [] s (py_vs (some (.int (an_house (py_read B N)))) (fun s => py_IM s R q B (0) (nf_house ft (py_read B N)) (nh_house H (py_read B N)) (na_house n (py_read B N)) As I0 I1 t tr ∧ py_fr py_SM [] σ s)) := by
    intro f
    induction f with
    | zero => intro a G s hf5 hrd h120 hfst h hD hs hread; have z := hrd.2.2.2.2.1; omega
    | succ f ih =>
      intro a G s hf5 hrd h120 hfst h hD hs hread
      have htk5 := py_tk_5 B N a
      have hts : py_tm s B N := py_tm_6 hs (by decide) h3
      have hww := py_tk_l (a := a) (c := 119) hN hB (by decide)
      obtain ⟨g0, g05, g1, g2, g3, g12, gW, gP, gR⟩ := id hrd
      refine go_aload_n (pc := 138) dX8_house_138 rfl ?_
      refine go_cV (pc := 139) dX8_house_139 (ev_isWell hN h) lX8_107 YX8_isWell VX8_isWell rfl rfl rfl (by decide) rfl (Nat.le_of_ble_eq_true rfl) ?_
      refine go_if_eqB (tgt := 169) (pc := 142) dX8_house_142 (by decide) (fun c_142 => ?_) (fun c_142 => ?_)
      · exact absurd rfl c_142
      · refine go_aload_n (pc := 145) dX8_house_145 rfl ?_
        refine go_getI (x := (nI (py_tk B N a))) (pc := 146) dX8_house_146 fX8_101 rfl rfl h.2.1.2.2.1 ?_
        refine go_iconst (v := nI 1) (pc := 149) dX8_house_149 (by decide) ?_
        refine go_icmp_neN (tgt := 169) (pc := 150) dX8_house_150 (by omega) (by omega) (by decide) (fun c_150 => ?_) (fun c_150 => ?_)
        · have hnw : ¬ (a < N ∧ B a = 119) := fun z => by have y := hww.mpr z; first | exact c_159 y.2 | exact c_150 y.1
          have hg30 : ¬ G 3 = 0 := fun z => hnw (hfst z)
          rw [py_pws_0 (fun z => z.elim hg30 hnw)] at hread
          exact pics 6 a G s (by omega) hrd (by omega) h hD hs hread
        · refine go_aload_n (pc := 153) dX8_house_153 rfl ?_
          refine go_getI (x := (py_vl B N a)) (pc := 154) dX8_house_154 fX8_98 rfl rfl h.2.1.2.2.2 ?_
          refine go_bipush (v := nI 119) (pc := 157) dX8_house_157 (by decide) ?_
          refine go_icmp_ne (tgt := 169) (pc := 159) dX8_house_159 (by decide) (fun c_159 => ?_) (fun c_159 => ?_)
          · have hnw : ¬ (a < N ∧ B a = 119) := fun z => by have y := hww.mpr z; first | exact c_159 y.2 | exact c_150 y.1
            have hg30 : ¬ G 3 = 0 := fun z => hnw (hfst z)
            rw [py_pws_0 (fun z => z.elim hg30 hnw)] at hread
            exact pics 6 a G s (by omega) hrd (by omega) h hD hs hread
          · refine go_aload_n (pc := 162) dX8_house_162 rfl ?_
            have hwl := hww.mp ⟨c_150, c_159⟩
            refine go_cVv (pc := 163) dX8_house_163 (ev_readsWall hts h hD hwl g3) lX8_141 YX8_readsWall VX8_readsWall rfl rfl rfl (by decide) rfl (Nat.le_of_ble_eq_true rfl) (fun s1 hs1 => ?_)
            obtain ⟨h1x, hD1, hf1⟩ := hs1
            have hs1 := hs.tr hf1 (by decide) (by decide)
            rw [py_pws_1 (Or.inr hwl), py_bi_a] at hread
            refine go_goto (tgt := 138) (pc := 166) dX8_house_166 (by decide) ?_
            cases hp : py_pwall B N a G with
            | inl e =>
              rw [hp] at h1x hread
              exact flt8 e s1 hread.symm h1x hs1
            | inr q9 =>
              obtain ⟨a2, G2⟩ := q9
              have hv9 := py_pwall_v hN hrd h120 hp
              have hm9 := hD1 a2 G2 hp
              rw [hp] at h1x hread
              exact ih a2 G2 s1 (by omega) hv9.2.1 hv9.2.2.2 (fun z => by omega) h1x hm9 hs1 (by rw [hv9.2.2.1]; exact hread)
  have law : ∀ s, py_lr s B N ft (py_plaw B N) → (∀ a G, py_plaw B N = .inr (a, G) → py_hm (s 54) 0 G) → py_fr [54] py_T6 σ s → py_Go X RX8 cX8_house 2 6 107 [some (.ref 47), none] [] s (py_vs (some (.int (an_house (py_read B N)))) (fun s => py_IM s R q B (0) (nf_house ft (py_read B N)) (nh_house H (py_read B N)) (na_house n (py_read B N)) As I0 I1 t tr ∧ py_fr py_SM [] σ s)) := by
    intro s h hD hs
    have hts : py_tm s B N := py_tm_6 hs (by decide) h3
    cases hl : py_plaw B N with
    | inl e =>
      rw [hl] at h
      have hread : py_read B N = .inl e := by unfold py_read; rw [hl]; rfl
      refine go_aload_n (pc := 107) dX8_house_107 rfl ?_
      refine go_cV (pc := 108) dX8_house_108 (ev_isWell hN h) lX8_107 YX8_isWell VX8_isWell rfl rfl rfl (by decide) rfl (Nat.le_of_ble_eq_true rfl) ?_
      refine go_if_eqB (tgt := 138) (pc := 111) dX8_house_111 (by decide) (fun c_111 => ?_) (fun c_111 => ?_)
      · exact flt8 e s hread h hs
      · exact absurd c_111 Bool.false_ne_true
    | inr q9 =>
      obtain ⟨a, G⟩ := q9
      have hv9 := py_plaw_v hN hl
      have hD0 := hD a G hl
      rw [hl] at h
      have hread : py_read B N = py_bi (py_pws B N 5 0 a G) (fun a H => py_pps B N 6 a H) := by unfold py_read; rw [hl]; rfl
      have htk5 := py_tk_5 B N a
      have hww := py_tk_l (a := a) (c := 119) hN hB (by decide)
      refine go_aload_n (pc := 107) dX8_house_107 rfl ?_
      refine go_cV (pc := 108) dX8_house_108 (ev_isWell hN h) lX8_107 YX8_isWell VX8_isWell rfl rfl rfl (by decide) rfl (Nat.le_of_ble_eq_true rfl) ?_
      refine go_if_eqB (tgt := 138) (pc := 111) dX8_house_111 (by decide) (fun c_111 => ?_) (fun c_111 => ?_)
      · exact absurd rfl c_111
      · refine go_aload_n (pc := 114) dX8_house_114 rfl ?_
        refine go_getI (x := (nI (py_tk B N a))) (pc := 115) dX8_house_115 fX8_101 rfl rfl h.2.1.2.2.1 ?_
        refine go_iconst (v := nI 1) (pc := 118) dX8_house_118 (by decide) ?_
        refine go_icmp_neN (tgt := 131) (pc := 119) dX8_house_119 (by omega) (by omega) (by decide) (fun c_119 => ?_) (fun c_119 => ?_)
        · refine go_aload_n (pc := 131) dX8_house_131 rfl ?_
          refine go_iconst (v := nI 0) (pc := 132) dX8_house_132 (by decide) ?_
          refine go_iconst (v := nI 1) (pc := 133) dX8_house_133 (by decide) ?_
          refine go_cVi (pc := 134) dX8_house_134 (ev_takes (b := False) (k := 1) hts h) lX8_117 YX8_takes VX8_takes rfl rfl rfl (by decide) rfl (Nat.le_of_ble_eq_true rfl) (fun s1 hs1 => ?_)
          have h1x : py_lr s1 B N ft (Sum.inl (a, 1) : py_Re (Nat → Nat)) := py_lr_sp (by rw [py_tks_f (fun z => z)]; rfl) hs1.1
          have hs1 := hs.tr hs1.2 (by decide) (by decide)
          refine go_pop (pc := 137) dX8_house_137 rfl ?_
          have hnw : ¬ (a < N ∧ B a = 119) := fun z => by have y := hww.mpr z; first | exact c_128 y.2 | exact c_119 y.1
          have hr9 : py_read B N = .inl (a, 1) := by
            rw [hread, py_pws_1 (Or.inl rfl)]
            have e9 : py_pwall B N a G = .inl (a, 1) := by
              unfold py_pwall
              rw [if_neg (fun z => hnw z.1)]
              have e8 : py_chr B N a 119 = .inl (a, 1) := by unfold py_chr; rw [if_neg hnw]
              rw [e8]; rfl
            rw [e9]; rfl
          exact flt8 (a, 1) s1 hr9 h1x hs1
        · refine go_aload_n (pc := 122) dX8_house_122 rfl ?_
          refine go_getI (x := (py_vl B N a)) (pc := 123) dX8_house_123 fX8_98 rfl rfl h.2.1.2.2.2 ?_
          refine go_bipush (v := nI 119) (pc := 126) dX8_house_126 (by decide) ?_
          refine go_icmp_eq (tgt := 138) (pc := 128) dX8_house_128 (by decide) (fun c_128 => ?_) (fun c_128 => ?_)
          · exact walls 5 a G s (by omega) hv9.2.1 hv9.2.2.2 (fun _ => hww.mp ⟨c_119, c_128⟩) h hD0 hs (by rw [hv9.2.2.1]; exact hread.symm)
          · refine go_aload_n (pc := 131) dX8_house_131 rfl ?_
            refine go_iconst (v := nI 0) (pc := 132) dX8_house_132 (by decide) ?_
            refine go_iconst (v := nI 1) (pc := 133) dX8_house_133 (by decide) ?_
            refine go_cVi (pc := 134) dX8_house_134 (ev_takes (b := False) (k := 1) hts h) lX8_117 YX8_takes VX8_takes rfl rfl rfl (by decide) rfl (Nat.le_of_ble_eq_true rfl) (fun s1 hs1 => ?_)
            have h1x : py_lr s1 B N ft (Sum.inl (a, 1) : py_Re (Nat → Nat)) := py_lr_sp (by rw [py_tks_f (fun z => z)]; rfl) hs1.1
            have hs1 := hs.tr hs1.2 (by decide) (by decide)
            refine go_pop (pc := 137) dX8_house_137 rfl ?_
            have hnw : ¬ (a < N ∧ B a = 119) := fun z => by have y := hww.mpr z; first | exact c_128 y.2 | exact c_119 y.1
            have hr9 : py_read B N = .inl (a, 1) := by
              rw [hread, py_pws_1 (Or.inl rfl)]
              have e9 : py_pwall B N a G = .inl (a, 1) := by
                unfold py_pwall
                rw [if_neg (fun z => hnw z.1)]
                have e8 : py_chr B N a 119 = .inl (a, 1) := by unfold py_chr; rw [if_neg hnw]
                rw [e8]; rfl
              rw [e9]; rfl
            exact flt8 (a, 1) s1 hr9 h1x hs1
  have zero : ∀ i, i ≤ 33 → py_Go X RX8 cX8_house 2 6 2 [some (.ref 47), some (.int (nI i))] [] (py_row σ 54 (py_zs (σ 54) 0 (i))) (py_vs (some (.int (an_house (py_read B N)))) (fun s => py_IM s R q B (0) (nf_house ft (py_read B N)) (nh_house H (py_read B N)) (na_house n (py_read B N)) As I0 I1 t tr ∧ py_fr py_SM [] σ s)) := by
    refine py_loop _ 33 (fun i hi ihz => ?_)
    refine go_iload_n (pc := 2) dX8_house_2 rfl ?_
    refine go_bipush (v := nI 33) (pc := 3) dX8_house_3 (by decide) ?_
    refine go_icmp_geN (tgt := 21) (pc := 5) dX8_house_5 (by omega) (by omega) (by decide) (fun c_5 => ?_) (fun c_5 => ?_)
    · have hi33 : i = 33 := by omega
      subst hi33
      refine go_mask [true, false] rfl ?_
      refine go_aload_n (pc := 21) dX8_house_21 rfl ?_
      refine go_iconst (v := nI 0) (pc := 22) dX8_house_22 (by decide) ?_
      refine go_putI (pc := 23) dX8_house_23 fX8_89 rfl rfl ?_
      refine go_aload_n (pc := 26) dX8_house_26 rfl ?_
      refine go_iconst (v := -1) (pc := 27) dX8_house_27 (by decide) ?_
      refine go_putI (pc := 28) dX8_house_28 fX8_104 rfl rfl ?_
      refine go_aload_n (pc := 31) dX8_house_31 rfl ?_
      have hf0 : py_fr [54] py_T6 σ (py_up (py_up (py_row σ 54 (py_zs (σ 54) 0 (33))) 47 9 ((nI 0))) 47 8 ((-1))) := (((py_fr.rf [54] py_T6 σ).row (by decide) _).ut (by decide) _).ut (by decide) _
      have ht0 : py_tm (py_up (py_up (py_row σ 54 (py_zs (σ 54) 0 (33))) 47 9 ((nI 0))) 47 8 ((-1))) B N := py_tm_6 hf0 (by decide) h3
      refine go_cVv (pc := 32) dX8_house_32 (ev_advances ht0 (show _ = nI 0 by rw [py_up_j _ _ _ (by decide), py_up_s]) (Nat.zero_le _)) lX8_114 YX8_advances VX8_advances rfl rfl rfl (by decide) rfl (Nat.le_of_ble_eq_true rfl) (fun s1 hs1 => ?_)
      obtain ⟨hx1, hf1a⟩ := hs1
      have hf1 : py_fr [54] py_T6 σ s1 := hf0.tr hf1a (by decide) (by decide)
      have ht1 := py_tm_6 hf1 (by decide) h3
      have h1x : py_lr s1 B N ft (Sum.inr (0, 0) : py_Re Nat) := ⟨by rw [hf1a 47 8 (by decide) (by decide), py_up_s], hx1, by rw [hf1a 47 7 (by decide) (by decide), py_up_j _ _ _ (by decide), py_up_j _ _ _ (by decide), py_row_ne _ _ (by decide)]; exact h4, Nat.zero_le _⟩
      have hz1 : ∀ j, j < 33 → s1 54 j = nI 0 := fun j hj => by rw [hf1a.at 54 (by decide) (by decide), py_up_k _ _ _ (by decide), py_up_k _ _ _ (by decide), py_row_self]; unfold py_zs; rw [if_pos (by omega)]
      have htk0 := py_tk_5 B N 0
      have hgg := py_tk_l (a := 0) (c := 103) hN hB (by decide)
      refine go_aload_n (pc := 35) dX8_house_35 rfl ?_
      refine go_aload_n (pc := 36) dX8_house_36 rfl ?_
      refine go_getI (x := (nI (py_tk B N 0))) (pc := 37) dX8_house_37 fX8_101 rfl rfl h1x.2.1.2.2.1 ?_
      refine go_iconst (v := nI 1) (pc := 40) dX8_house_40 (by decide) ?_
      suffices K : py_Go X RX8 cX8_house 2 6 58 [some (.ref 47), none] [.int (py_b (0 < N ∧ B 0 = 103)), .ref 47] s1 (py_vs (some (.int (an_house (py_read B N)))) (fun s => py_IM s R q B (0) (nf_house ft (py_read B N)) (nh_house H (py_read B N)) (na_house n (py_read B N)) As I0 I1 t tr ∧ py_fr py_SM [] σ s)) by
        refine go_icmp_neN (tgt := 57) (pc := 41) dX8_house_41 (by omega) (by omega) (by decide) (fun c_41 => ?_) (fun c_41 => ?_)
        · refine go_iconst (v := nI 0) (pc := 57) dX8_house_57 (by decide) ?_
          have e9 := K
          rw [py_b_f (fun z => by have y := hgg.mpr z; first | exact c_50 y.2 | exact c_41 y.1)] at e9
          exact e9
        · refine go_aload_n (pc := 44) dX8_house_44 rfl ?_
          refine go_getI (x := (py_vl B N 0)) (pc := 45) dX8_house_45 fX8_98 rfl rfl h1x.2.1.2.2.2 ?_
          refine go_bipush (v := nI 103) (pc := 48) dX8_house_48 (by decide) ?_
          refine go_icmp_ne (tgt := 57) (pc := 50) dX8_house_50 (by decide) (fun c_50 => ?_) (fun c_50 => ?_)
          · refine go_iconst (v := nI 0) (pc := 57) dX8_house_57 (by decide) ?_
            have e9 := K
            rw [py_b_f (fun z => by have y := hgg.mpr z; first | exact c_50 y.2 | exact c_41 y.1)] at e9
            exact e9
          · refine go_iconst (v := nI 1) (pc := 53) dX8_house_53 (by decide) ?_
            refine go_goto (tgt := 58) (pc := 54) dX8_house_54 (by decide) ?_
            have e9 := K
            rw [py_b_t (hgg.mp ⟨c_41, c_50⟩)] at e9
            exact e9
      refine go_iconst (v := nI 1) (pc := 58) dX8_house_58 (by decide) ?_
      refine go_cVi (pc := 59) dX8_house_59 (ev_takes (b := 0 < N ∧ B 0 = 103) (k := 1) ht1 h1x) lX8_117 YX8_takes VX8_takes rfl rfl rfl (by decide) rfl (Nat.le_of_ble_eq_true rfl) (fun s2 hs2 => ?_)
      have h2x : py_lr s2 B N ft (py_chr B N 0 103) := by
        refine py_lr_sp ?_ hs2.1
        unfold py_chr
        by_cases hb : 0 < N ∧ B 0 = 103
        · rw [py_tks_t hb, if_pos hb, (py_tk_o (B := B) hN hb.1 (by omega)).2.1]; rfl
        · rw [py_tks_f hb, if_neg hb]; rfl
      have hf2 := hf1.tr hs2.2 (by decide) (by decide)
      have ht2 := py_tm_6 hf2 (by decide) h3
      refine go_pop (pc := 62) dX8_house_62 rfl ?_
      refine go_aload_n (pc := 63) dX8_house_63 rfl ?_
      refine go_getR (pc := 64) dX8_house_64 fX8_28 rfl rfl ?_
      refine go_iconst (v := nI 0) (pc := 67) dX8_house_67 (by decide) ?_
      refine go_aload_n (pc := 68) dX8_house_68 rfl ?_
      refine go_iconst (v := nI 1) (pc := 69) dX8_house_69 (by decide) ?_
      refine go_iconst (v := nI 5) (pc := 70) dX8_house_70 (by decide) ?_
      refine go_cVi (pc := 71) dX8_house_71 (ev_figure ht2 h2x (by decide) (by decide)) lX8_121 YX8_figure VX8_figure rfl rfl rfl (by decide) rfl (Nat.le_of_ble_eq_true rfl) (fun s3 hs3 => ?_)
      have h3x : py_lr s3 B N ft (py_bi (py_chr B N 0 103) (fun a _ => py_num B N a 1 5)) := hs3.1
      have hf3 := hf2.tr hs3.2 (by decide) (by decide)
      refine go_astN (pc := 74) dX8_house_74 rfl (by show 0 < 33; omega) ?_
      refine go_aload_n (pc := 75) dX8_house_75 rfl ?_
      refine go_getR (pc := 76) dX8_house_76 fX8_28 rfl rfl ?_
      refine go_iconst (v := nI 1) (pc := 79) dX8_house_79 (by decide) ?_
      refine go_aload_n (pc := 80) dX8_house_80 rfl ?_
      refine go_iconst (v := nI 0) (pc := 81) dX8_house_81 (by decide) ?_
      refine go_bipush (v := nI 99) (pc := 82) dX8_house_82 (by decide) ?_
      have h3u : py_lr (py_up s3 54 0 ((py_rv0 (py_bi (py_chr B N 0 103) (fun a _ => py_num B N a 1 5))))) B N ft (py_bi (py_chr B N 0 103) (fun a _ => py_num B N a 1 5)) := py_lr_k (by decide) h3x
      have hf3u : py_fr [54] py_T6 σ (py_up s3 54 0 ((py_rv0 (py_bi (py_chr B N 0 103) (fun a _ => py_num B N a 1 5))))) := hf3.up (by decide) _
      have ht3u := py_tm_6 hf3u (by decide) h3
      refine go_cVi (pc := 84) dX8_house_84 (ev_next2 ht3u h3u (by decide) (by decide)) lX8_124 YX8_next VX8_next rfl rfl rfl (by decide) rfl (Nat.le_of_ble_eq_true rfl) (fun s4 hs4 => ?_)
      have h4x : py_lr s4 B N ft (py_bi (py_bi (py_chr B N 0 103) (fun a _ => py_num B N a 1 5)) (fun a _ => py_bi (py_chr B N a 44) (fun a _ => py_num B N a 0 99))) := hs4.1
      have hf4 := hf3u.tr hs4.2 (by decide) (by decide)
      refine go_astN (pc := 87) dX8_house_87 rfl (by show 1 < 33; omega) ?_
      refine go_aload_n (pc := 88) dX8_house_88 rfl ?_
      refine go_aload_n (pc := 89) dX8_house_89 rfl ?_
      refine go_getI (x := ((py_up s4 54 1 ((py_rv0 (py_bi (py_bi (py_chr B N 0 103) (fun a _ => py_num B N a 1 5)) (fun a _ => py_bi (py_chr B N a 44) (fun a _ => py_num B N a 0 99)))))) 47 11)) (pc := 90) dX8_house_90 fX8_101 rfl rfl rfl ?_
      refine go_iconst (v := nI 4) (pc := 93) dX8_house_93 (by decide) ?_
      suffices K94 : py_Go X RX8 cX8_house 2 6 102 [some (.ref 47), none] [.int (py_b (((py_up s4 54 1 ((py_rv0 (py_bi (py_bi (py_chr B N 0 103) (fun a _ => py_num B N a 1 5)) (fun a _ => py_bi (py_chr B N a 44) (fun a _ => py_num B N a 0 99)))))) 47 11) = (nI 4))), .ref 47] (py_up s4 54 1 ((py_rv0 (py_bi (py_bi (py_chr B N 0 103) (fun a _ => py_num B N a 1 5)) (fun a _ => py_bi (py_chr B N a 44) (fun a _ => py_num B N a 0 99)))))) (py_vs (some (.int (an_house (py_read B N)))) (fun s => py_IM s R q B (0) (nf_house ft (py_read B N)) (nh_house H (py_read B N)) (na_house n (py_read B N)) As I0 I1 t tr ∧ py_fr py_SM [] σ s)) by
        refine go_icmp_ne (tgt := 101) (pc := 94) dX8_house_94 (by decide) (fun c_94 => ?_) (fun c_94 => ?_)
        · refine go_iconst (v := nI 0) (pc := 101) dX8_house_101 (by decide) ?_
          have e9 := K94
          rw [py_b_f c_94] at e9
          exact e9
        · refine go_iconst (v := nI 1) (pc := 97) dX8_house_97 (by decide) ?_
          refine go_goto (tgt := 102) (pc := 98) dX8_house_98 (by decide) ?_
          have e9 := K94
          rw [py_b_t c_94] at e9
          exact e9
      refine go_iconst (v := nI 1) (pc := 102) dX8_house_102 (by decide) ?_
      have h4u : py_lr (py_up s4 54 1 ((py_rv0 (py_bi (py_bi (py_chr B N 0 103) (fun a _ => py_num B N a 1 5)) (fun a _ => py_bi (py_chr B N a 44) (fun a _ => py_num B N a 0 99)))))) B N ft (py_bi (py_bi (py_chr B N 0 103) (fun a _ => py_num B N a 1 5)) (fun a _ => py_bi (py_chr B N a 44) (fun a _ => py_num B N a 0 99))) := py_lr_k (by decide) h4x
      have hf4u : py_fr [54] py_T6 σ (py_up s4 54 1 ((py_rv0 (py_bi (py_bi (py_chr B N 0 103) (fun a _ => py_num B N a 1 5)) (fun a _ => py_bi (py_chr B N a 44) (fun a _ => py_num B N a 0 99)))))) := hf4.up (by decide) _
      have ht4u := py_tm_6 hf4u (by decide) h3
      refine go_cVi (pc := 103) dX8_house_103 (ev_takes (b := (py_up s4 54 1 ((py_rv0 (py_bi (py_bi (py_chr B N 0 103) (fun a _ => py_num B N a 1 5)) (fun a _ => py_bi (py_chr B N a 44) (fun a _ => py_num B N a 0 99)))))) 47 11 = nI 4) (k := 1) ht4u h4u) lX8_117 YX8_takes VX8_takes rfl rfl rfl (by decide) rfl (Nat.le_of_ble_eq_true rfl) (fun s5 hs5 => ?_)
      have h5x : py_lr s5 B N ft (py_bi (py_bi (py_bi (py_chr B N 0 103) (fun a _ => py_num B N a 1 5)) (fun a _ => py_bi (py_chr B N a 44) (fun a _ => py_num B N a 0 99))) (fun a _ => py_chr B N a 59)) := py_lr_sp (py_tks_c (c := 59) hN (Or.inr ⟨rfl, rfl⟩) h4u) hs5.1
      have hf5 := hf4u.tr hs5.2 (by decide) (by decide)
      refine go_pop (pc := 106) dX8_house_106 rfl ?_
      have hsp : py_sp (py_plaw B N) = py_sp (py_bi (py_bi (py_bi (py_chr B N 0 103) (fun a _ => py_num B N a 1 5)) (fun a _ => py_bi (py_chr B N a 44) (fun a _ => py_num B N a 0 99))) (fun a _ => py_chr B N a 59)) := by rw [py_plaw_b]; exact py_law_sp _ _ _ _ _
      refine law s5 (py_lr_sp hsp.symm h5x) (fun a G hl => ?_) hf5
      have e54 : ∀ j, s5 54 j = (py_up s4 54 1 (py_rv0 (py_bi (py_bi (py_chr B N 0 103) (fun a _ => py_num B N a 1 5)) (fun a _ => py_bi (py_chr B N a 44) (fun a _ => py_num B N a 0 99))))) 54 j := fun j => by rw [hs5.2.at 54 (by decide) (by decide)]
      have e44 : ∀ j, s4 54 j = (py_up s3 54 0 (py_rv0 (py_bi (py_chr B N 0 103) (fun a _ => py_num B N a 1 5)))) 54 j := fun j => by rw [hs4.2.at 54 (by decide) (by decide)]
      have e33 : ∀ j, s3 54 j = s1 54 j := fun j => by rw [hs3.2.at 54 (by decide) (by decide), hs2.2.at 54 (by decide) (by decide)]
      rw [py_plaw_b] at hl
      obtain ⟨a1, v1, hr1, hl⟩ := py_bi_r hl
      obtain ⟨a2, r2, hr2, hl⟩ := py_bi_r hl
      obtain ⟨a3, q3, hr3, hl⟩ := py_bi_r hl
      obtain ⟨a4, v4, hr4, hl⟩ := py_bi_r hl
      injection hl with hl
      injection hl with hl1 hl2
      subst hl2
      have er2 : py_bi (py_chr B N 0 103) (fun a _ => py_num B N a 1 5) = .inr (a2, r2) := by rw [hr1, py_bi_i]; exact hr2
      have er3 : py_bi (py_bi (py_chr B N 0 103) (fun a _ => py_num B N a 1 5)) (fun a _ => py_bi (py_chr B N a 44) (fun a _ => py_num B N a 0 99)) = .inr (a3, q3) := by rw [er2, py_bi_i]; exact hr3
      have ev2 : py_rv0 (py_bi (py_chr B N 0 103) (fun a _ => py_num B N a 1 5)) = nI r2 := by rw [er2]; rfl
      have ev3 : py_rv0 (py_bi (py_bi (py_chr B N 0 103) (fun a _ => py_num B N a 1 5)) (fun a _ => py_bi (py_chr B N a 44) (fun a _ => py_num B N a 0 99))) = nI q3 := by rw [er3]; rfl
      intro j hj
      rw [Nat.zero_add, e54, ev3]
      unfold py_law
      by_cases j1 : j = 1
      · subst j1; rw [py_up_s]; rfl
      · rw [py_up_j _ _ _ j1, e44, ev2]
        by_cases j0 : j = 0
        · subst j0; rw [py_up_s]; rfl
        · rw [py_up_j _ _ _ j0, e33, hz1 j hj, if_neg j0, if_neg j1]
    · refine go_aload_n (pc := 8) dX8_house_8 rfl ?_
      refine go_getR (pc := 9) dX8_house_9 fX8_28 rfl rfl ?_
      refine go_iload_n (pc := 12) dX8_house_12 rfl ?_
      refine go_iconst (v := nI 0) (pc := 13) dX8_house_13 (by decide) ?_
      refine go_astN (pc := 14) dX8_house_14 rfl (by show i < 33; omega) ?_
      refine go_iincN (c := 1) (pc := 15) dX8_house_15 rfl (by decide) (by decide) rfl ?_
      refine go_goto (tgt := 2) (pc := 18) dX8_house_18 (by decide) ?_
      rw [py_up_row]
      have e7 := py_zs_s (σ 54) 0 i
      rw [Nat.zero_add] at e7
      rw [e7]
      exact ihz (by omega)
  refine go_iconst (v := nI 0) (pc := 0) dX8_house_0 (by decide) ?_
  refine go_istore_n (pc := 1) dX8_house_1 (by decide) rfl ?_
  have e8 := zero 0 (by decide)
  rw [py_zs_0, py_row_id] at e8
  exact e8
