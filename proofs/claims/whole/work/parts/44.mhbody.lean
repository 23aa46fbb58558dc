/-! contracts: the reference's hanging, its loop -/
def py_mB (B : py_B) : Int32 := match B with
  | none => -1000000
  | some q => nI q.1
def py_cB (B : py_B) : Int32 := match B with
  | none => -1000000
  | some q => nI q.2.1
def py_bm (s : py_H) (n : Nat) (B : py_B) : Prop := match B with
  | none => True
  | some q => q.1 ≤ 5 ∧ q.2.1 ≤ 300 ∧ ∀ i, i < n → s 60 i = nI (q.2.2 i)
theorem py_bm_fr {s s2 : py_H} {n : Nat} {B : py_B} {S : List Nat} {T : List (Nat × Nat)} (hf : py_fr S T s s2) (h : 60 ∉ S ∧ ∀ q ∈ T, q.1 ≠ 60) (hb : py_bm s n B) : py_bm s2 n B := by
  have e := hf.at 60 h.1 h.2
  cases B with
  | none => trivial
  | some q =>
    refine ⟨hb.1, hb.2.1, fun i hi => ?_⟩
    rw [e]
    exact hb.2.2 i hi
/-- the loop's head: one more is to come, or none -/
def py_hq (X : py_X) (σ : py_H) (P : py_P) (n d : Nat) (y : Int32) (more : Nat) (tw : Nat → Nat) (B : py_B) : Prop :=
  ∀ s, py_fr [55, 59, 60] [] σ s → (more = 1 → ∀ q, q < n → s 59 q = nI (tw q)) → py_bm s n B → py_Go X RX8 cX8_hanging 10 4 60 [some (.ref 47), some (.int (nI d)), some (.int y), some (.int (py_mB B)), some (.int (py_cB B)), some (.int (nI more)), none, none, none, none] [] s P
set_option maxHeartbeats 4000000 in
set_option maxRecDepth 100000 in
theorem py_hbody {X : py_X} {σ : py_H} {H : Nat → Nat} (hw : py_wf H) (h5 : py_hm (σ 53) 0 H) {d : Nat} (hd : d ≤ 60) {y : Int32} {P : py_P} : ∀ tw B, (∀ q, q < H 12 → tw q < H 3) → (match py_nx2 (H 3) (H 12) tw with | none => (∀ t, py_hq X σ P (H 12) d y 0 t (py_leaf H d tw B)) | some t => py_hq X σ P (H 12) d y 1 t (py_leaf H d tw B)) → py_hq X σ P (H 12) d y 1 tw B := by
  obtain ⟨w0, w1, w2, w3, w12, w03, w00, wW, wP, wR⟩ := id hw
  have hm := py_wm_of hw
  intro tw B hv hn s hs ht hb
  have ht := ht rfl
  have h5s : py_hm (s 53) 0 H := by rw [hs.at 53 (by decide) (by decide)]; exact h5
  cases B with
  | none =>
    show py_Go X RX8 cX8_hanging 10 4 60 [some (.ref 47), some (.int (nI d)), some (.int (y)), some (.int (-1000000)), some (.int (-1000000)), some (.int (nI 1)), none, none, none, none] [] s P
    refine go_iload (pc := 60) dX8_hanging_60 rfl ?_
    refine go_if_eqN (tgt := 245) (pc := 62) dX8_hanging_62 (by omega) (by decide) (fun c_62 => ?_) (fun c_62 => ?_)
    · exact absurd c_62 (by decide)
    · refine go_aload_n (pc := 65) dX8_hanging_65 rfl ?_
      refine go_cVv (pc := 66) dX8_hanging_66 (ev_tries h5s) lX8_186 YX8_tries VX8_tries rfl rfl rfl (by decide) rfl (Nat.le_of_ble_eq_true rfl) (fun s1 hs1 => ?_)
      obtain ⟨hT1, hf1⟩ := hs1
      have hs1 := hs.tr (hf1.wd (S := [55]) (T := []) (by decide) (by decide)) (by decide) (by decide)
      have h59 : ∀ q, q < H 12 → s1 59 q = nI (tw q) := fun q hq => by rw [hf1.at 59 (by decide) (by decide)]; exact ht q hq
      refine go_iconst (v := nI 0) (pc := 69) dX8_hanging_69 (by decide) ?_
      refine go_istore (pc := 70) dX8_hanging_70 (by decide) rfl ?_
      have hang : ∀ i, i ≤ H 12 → ∀ u, py_hm (u 55) 0 (py_hw H tw i) → py_fr [55, 59, 60] [] σ u → (∀ q, q < H 12 → u 59 q = nI (tw q)) → py_bm u (H 12) none → py_Go X RX8 cX8_hanging 10 4 72 [some (.ref 47), some (.int (nI d)), some (.int (y)), some (.int (-1000000)), some (.int (-1000000)), some (.int (nI 1)), some (.int (nI i)), none, none, none] [] u P := by
        refine py_loop _ (H 12) (fun i hi ihi u hTu hu hu59 hbu => ?_)
        have h5u : py_hm (u 53) 0 H := by rw [hu.at 53 (by decide) (by decide)]; exact h5
        refine go_iload (pc := 72) dX8_hanging_72 rfl ?_
        refine go_aload_n (pc := 74) dX8_hanging_74 rfl ?_
        refine go_getR (pc := 75) dX8_hanging_75 fX8_25 rfl rfl ?_
        refine go_bipush (v := nI 12) (pc := 78) dX8_hanging_78 (by decide) ?_
        refine go_aldN (x := (nI (H 12))) (pc := 80) dX8_hanging_80 rfl (by show 12 < 33; omega) (py_hm_at h5u (show 12 = 12 by omega) (by omega)) ?_
        refine go_icmp_geN (tgt := 111) (pc := 81) dX8_hanging_81 (by omega) (by omega) (by decide) (fun c_81 => ?_) (fun c_81 => ?_)
        · have hiH : i = H 12 := by omega
          rw [hiH] at hTu
          have hxl := py_hl_le hw d tw
          have hxk := py_hk_le hw d tw
          refine go_mask [true, true, true, true, true, true, false, true, true, true] rfl ?_
          refine go_aload_n (pc := 111) dX8_hanging_111 rfl ?_
          refine go_cV (pc := 112) dX8_hanging_112 (ev_isRoom h5u hTu w0 w12 w3 hv) lX8_197 YX8_isRoom VX8_isRoom rfl rfl rfl (by decide) rfl (Nat.le_of_ble_eq_true rfl) ?_
          refine go_if_eqB (tgt := 236) (pc := 115) dX8_hanging_115 (by decide) (fun c_115 => ?_) (fun c_115 => ?_)
          · have hgs := hu
            have hg59 := hu59
            have hlf : py_leaf H d tw none = none := by unfold py_leaf; rw [if_neg c_115]
            have hbg : py_bm u (H 12) (py_leaf H d tw none) := by rw [hlf]; exact hbu
            have h5g : py_hm (u 53) 0 H := by rw [hgs.at 53 (by decide) (by decide)]; exact h5
            refine go_aload_n (pc := 236) dX8_hanging_236 rfl ?_
            refine go_cVi (pc := 237) dX8_hanging_237 (ev_nextHanging h5g w12 w3 hg59 hv) lX8_203 YX8_nextHanging VX8_nextHanging rfl rfl rfl (by decide) rfl (Nat.le_of_ble_eq_true rfl) (fun g hg => ?_)
            obtain ⟨hgn, hfg⟩ := hg
            have hgf := hgs.tr hfg (by decide) (by decide)
            have hbg2 := py_bm_fr hfg (by decide) hbg
            refine go_istore (pc := 240) dX8_hanging_240 (by decide) rfl ?_
            refine go_goto (tgt := 60) (pc := 242) dX8_hanging_242 (by decide) ?_
            cases hnx : py_nx2 (H 3) (H 12) tw with
            | none =>
              rw [hnx] at hn hgn
              have e8 := hn (fun _ => 0) g hgf (fun z => absurd z (by decide)) hbg2
              rw [hlf] at e8
              exact go_mask [true, true, true, true, true, true, false, false, false, false] rfl e8
            | some t =>
              rw [hnx] at hn hgn
              have e8 := hn g hgf (fun _ => hgn) hbg2
              rw [hlf] at e8
              exact go_mask [true, true, true, true, true, true, false, false, false, false] rfl e8
          · refine go_aload_n (pc := 118) dX8_hanging_118 rfl ?_
            refine go_iload_n (pc := 119) dX8_hanging_119 rfl ?_
            have h2k : py_hw H tw (H 12) 2 = H 2 := py_hw_o (fun p => by omega)
            refine go_cVv (pc := 120) dX8_hanging_120 (ev_goes hTu (py_hw_wm hm hv) (by omega) (by rw [h2k]; omega)) lX8_189 YX8_goes VX8_goes rfl rfl rfl (by decide) rfl (Nat.le_of_ble_eq_true rfl) (fun v hv1 => ?_)
            obtain ⟨hTv, hfv⟩ := hv1
            have hvs := hu.tr hfv (by decide) (by decide)
            have h12k : py_age (py_hw H tw (H 12)) d 12 = H 12 := by rw [py_age_12]; exact py_hw_o (fun p => by omega)
            have hv59 : ∀ q, q < H 12 → v 59 q = nI (tw q) := fun q hq => by rw [hfv.at 59 (by decide) (by decide)]; exact hu59 q hq
            have hbv := py_bm_fr hfv (by decide) hbu
            have h5u : py_hm (v 53) 0 H := by rw [hvs.at 53 (by decide) (by decide)]; exact h5
            refine go_aload_n (pc := 123) dX8_hanging_123 rfl ?_
            refine go_getR (pc := 124) dX8_hanging_124 fX8_31 rfl rfl ?_
            refine go_cS (pc := 127) dX8_hanging_127 (ev_mliving_55 hTv (by rw [h12k]; exact w12) (py_age_60 (py_hw_wm hm hv) d (by rw [h2k]; omega))) lX8_173 YX8_living SX8_living rfl (by decide) rfl (Nat.le_of_ble_eq_true rfl) ?_
            refine go_cS (pc := 130) dX8_hanging_130 (ev_ones (py_lvH_lt (by rw [h12k]; exact w12))) lX8_131 YX8_ones SX8_ones rfl (by decide) rfl (Nat.le_of_ble_eq_true rfl) ?_
            refine go_top (y := nI (py_hl H d tw (H 12))) (by rw [py_hw_hl hm hv]) ?_
            refine go_istore (pc := 133) dX8_hanging_133 (by decide) rfl ?_
            refine go_aload_n (pc := 135) dX8_hanging_135 rfl ?_
            refine go_getR (pc := 136) dX8_hanging_136 fX8_31 rfl rfl ?_
            refine go_cS (pc := 139) dX8_hanging_139 (ev_together hTv (by rw [h12k]; exact w12)) lX8_200 YX8_together SX8_together rfl (by decide) rfl (Nat.le_of_ble_eq_true rfl) ?_
            refine go_top (y := nI (py_hk H d tw (H 12))) (by rw [py_hw_hk hm hv]) ?_
            refine go_istore (pc := 142) dX8_hanging_142 (by decide) rfl ?_
            have hmn : (-1000000 : Int32).toInt = -1000000 := by decide
            refine go_iload (pc := 144) dX8_hanging_144 rfl ?_
            refine go_iload_n (pc := 146) dX8_hanging_146 rfl ?_
            refine go_icmp_gtNJ (tgt := 163) (pc := 147) dX8_hanging_147 (by omega) (by decide) (fun c_147 => ?_) (fun c_147 => ?_)
            · refine go_iconst (v := nI 1) (pc := 163) dX8_hanging_163 (by decide) ?_
              refine go_goto (tgt := 168) (pc := 164) dX8_hanging_164 (by decide) ?_
              refine go_istore (pc := 168) dX8_hanging_168 (by decide) rfl ?_
              refine go_iconst (v := nI 0) (pc := 170) dX8_hanging_170 (by decide) ?_
              refine go_istore (pc := 171) dX8_hanging_171 (by decide) rfl ?_
              have cop : ∀ j, j ≤ H 12 → py_Go X RX8 cX8_hanging 10 4 173 [some (.ref 47), some (.int (nI d)), some (.int (y)), some (.int (-1000000)), some (.int (-1000000)), some (.int (nI 1)), some (.int (nI (py_hl H d tw (H 12)))), some (.int (nI (py_hk H d tw (H 12)))), some (.int (nI 1)), some (.int (nI j))] [] (py_row v 60 (va_cpy (v 59) (v 60) 0 0 (j))) P := by
                refine py_loop _ (H 12) (fun j hj ihj => ?_)
                refine go_iload (pc := 173) dX8_hanging_173 rfl ?_
                refine go_aload_n (pc := 175) dX8_hanging_175 rfl ?_
                refine go_getR (pc := 176) dX8_hanging_176 fX8_25 rfl rfl ?_
                refine go_bipush (v := nI 12) (pc := 179) dX8_hanging_179 (by decide) ?_
                refine go_aldN (x := (nI (H 12))) (pc := 181) dX8_hanging_181 rfl (by show 12 < 33; omega) (py_hm_at (show py_hm ((py_row v 60 (va_cpy (v 59) (v 60) 0 0 (j))) 53) 0 H by rw [py_row_ne _ _ (by decide)]; exact h5u) (show 12 = 12 by omega) (by omega)) ?_
                refine go_icmp_geN (tgt := 210) (pc := 182) dX8_hanging_182 (by omega) (by omega) (by decide) (fun c_182 => ?_) (fun c_182 => ?_)
                · refine go_iload (pc := 210) dX8_hanging_210 rfl ?_
                  refine go_if_eqN (tgt := 220) (pc := 212) dX8_hanging_212 (by omega) (by decide) (fun c_212 => ?_) (fun c_212 => ?_)
                  · exact absurd c_212 (by decide)
                  · refine go_iload (pc := 215) dX8_hanging_215 rfl ?_
                    refine go_goto (tgt := 221) (pc := 217) dX8_hanging_217 (by decide) ?_
                    refine go_istore_n (pc := 221) dX8_hanging_221 (by decide) rfl ?_
                    refine go_iload (pc := 222) dX8_hanging_222 rfl ?_
                    refine go_if_eqN (tgt := 232) (pc := 224) dX8_hanging_224 (by omega) (by decide) (fun c_224 => ?_) (fun c_224 => ?_)
                    · exact absurd c_224 (by decide)
                    · refine go_iload (pc := 227) dX8_hanging_227 rfl ?_
                      refine go_goto (tgt := 234) (pc := 229) dX8_hanging_229 (by decide) ?_
                      refine go_istore (pc := 234) dX8_hanging_234 (by decide) rfl ?_
                      have hjH : j = H 12 := by omega
                      rw [hjH]
                      have hf2 : py_fr [60] [] v (py_row v 60 (va_cpy (v 59) (v 60) 0 0 (H 12))) := (py_fr.rf [60] [] v).row (by decide) _
                      have hgs : py_fr [55, 59, 60] [] σ (py_row v 60 (va_cpy (v 59) (v 60) 0 0 (H 12))) := hvs.tr hf2 (by decide) (by decide)
                      have hg59 : ∀ q, q < H 12 → (py_row v 60 (va_cpy (v 59) (v 60) 0 0 (H 12))) 59 q = nI (tw q) := fun q hq => by rw [py_row_ne _ _ (by decide)]; exact hv59 q hq
                      have hlf : py_leaf H d tw none = some (py_hl H d tw (H 12), py_hk H d tw (H 12), tw) := by unfold py_leaf; rw [if_pos c_115]; rfl
                      have hbg : py_bm (py_row v 60 (va_cpy (v 59) (v 60) 0 0 (H 12))) (H 12) (py_leaf H d tw none) := by rw [hlf]; exact ⟨hxl, hxk, fun q hq => by rw [py_row_self, py_cpy_ap (by omega)]; exact hv59 q hq⟩
                      have h5g : py_hm ((py_row v 60 (va_cpy (v 59) (v 60) 0 0 (H 12))) 53) 0 H := by rw [hgs.at 53 (by decide) (by decide)]; exact h5
                      refine go_aload_n (pc := 236) dX8_hanging_236 rfl ?_
                      refine go_cVi (pc := 237) dX8_hanging_237 (ev_nextHanging h5g w12 w3 hg59 hv) lX8_203 YX8_nextHanging VX8_nextHanging rfl rfl rfl (by decide) rfl (Nat.le_of_ble_eq_true rfl) (fun g hg => ?_)
                      obtain ⟨hgn, hfg⟩ := hg
                      have hgf := hgs.tr hfg (by decide) (by decide)
                      have hbg2 := py_bm_fr hfg (by decide) hbg
                      refine go_istore (pc := 240) dX8_hanging_240 (by decide) rfl ?_
                      refine go_goto (tgt := 60) (pc := 242) dX8_hanging_242 (by decide) ?_
                      cases hnx : py_nx2 (H 3) (H 12) tw with
                      | none =>
                        rw [hnx] at hn hgn
                        have e8 := hn (fun _ => 0) g hgf (fun z => absurd z (by decide)) hbg2
                        rw [hlf] at e8
                        exact go_mask [true, true, true, true, true, true, false, false, false, false] rfl e8
                      | some t =>
                        rw [hnx] at hn hgn
                        have e8 := hn g hgf (fun _ => hgn) hbg2
                        rw [hlf] at e8
                        exact go_mask [true, true, true, true, true, true, false, false, false, false] rfl e8
                · refine go_iload (pc := 185) dX8_hanging_185 rfl ?_
                  refine go_if_eqN (tgt := 210) (pc := 187) dX8_hanging_187 (by omega) (by decide) (fun c_187 => ?_) (fun c_187 => ?_)
                  · exact absurd c_187 (by decide)
                  · refine go_aload_n (pc := 190) dX8_hanging_190 rfl ?_
                    refine go_getR (pc := 191) dX8_hanging_191 fX8_47 rfl rfl ?_
                    refine go_iload (pc := 194) dX8_hanging_194 rfl ?_
                    refine go_aload_n (pc := 196) dX8_hanging_196 rfl ?_
                    refine go_getR (pc := 197) dX8_hanging_197 fX8_44 rfl rfl ?_
                    refine go_iload (pc := 200) dX8_hanging_200 rfl ?_
                    refine go_aldN (x := (v 59 j)) (pc := 202) dX8_hanging_202 rfl (by show j < 5; omega) (by rw [py_row_ne _ _ (by decide)]) ?_
                    refine go_astN (pc := 203) dX8_hanging_203 rfl (by show j < 5; omega) ?_
                    refine go_iincN (c := 1) (pc := 204) dX8_hanging_204 rfl (by decide) (by decide) rfl ?_
                    refine go_goto (tgt := 173) (pc := 207) dX8_hanging_207 (by decide) ?_
                    rw [py_up_row]
                    have e7 := py_cpy_s (v 59) (v 60) 0 0 j
                    rw [Nat.zero_add] at e7
                    rw [e7]
                    exact ihj (by omega)
              have e8 := cop 0 (Nat.zero_le _)
              rw [py_cpy_0, py_row_id] at e8
              exact e8
            · exfalso; omega
        · refine go_aload_n (pc := 84) dX8_hanging_84 rfl ?_
          refine go_getR (pc := 85) dX8_hanging_85 fX8_31 rfl rfl ?_
          refine go_bipush (v := nI 13) (pc := 88) dX8_hanging_88 (by decide) ?_
          refine go_iconst (v := nI 4) (pc := 90) dX8_hanging_90 (by decide) ?_
          refine go_iload (pc := 91) dX8_hanging_91 rfl ?_
          refine go_imulN (pc := 93) dX8_hanging_93  ?_
          refine go_iaddN (pc := 94) dX8_hanging_94  ?_
          refine go_iconst (v := nI 3) (pc := 95) dX8_hanging_95 (by decide) ?_
          refine go_iaddN (pc := 96) dX8_hanging_96  ?_
          refine go_aload_n (pc := 97) dX8_hanging_97 rfl ?_
          refine go_getR (pc := 98) dX8_hanging_98 fX8_44 rfl rfl ?_
          refine go_iload (pc := 101) dX8_hanging_101 rfl ?_
          refine go_aldN (x := (nI (tw i))) (pc := 103) dX8_hanging_103 rfl (by show i < 5; omega) (hu59 i (by omega)) ?_
          refine go_astN (pc := 104) dX8_hanging_104 rfl (by show (13 + (4 * i)) + 3 < 33; omega) ?_
          refine go_iincN (c := 1) (pc := 105) dX8_hanging_105 rfl (by decide) (by decide) rfl ?_
          refine go_goto (tgt := 72) (pc := 108) dX8_hanging_108 (by decide) ?_
          refine ihi (by omega) _ (by rw [← py_hw_s]; exact py_hm_up (i := 16 + 4 * i) hTu (by omega)) (hu.up (by decide) _) (fun q hq => by rw [py_up_k _ _ _ (by decide)]; exact hu59 q hq) (py_bm_fr ((py_fr.rf [55] [] u).up (by decide) _) (by decide) hbu)
      exact hang 0 (Nat.zero_le _) s1 (by rw [py_hw_0]; exact hT1) hs1 h59 (py_bm_fr hf1 (by decide) hb)
  | some b =>
    show py_Go X RX8 cX8_hanging 10 4 60 [some (.ref 47), some (.int (nI d)), some (.int (y)), some (.int (nI (b.1))), some (.int (nI (b.2.1))), some (.int (nI 1)), none, none, none, none] [] s P
    refine go_iload (pc := 60) dX8_hanging_60 rfl ?_
    refine go_if_eqN (tgt := 245) (pc := 62) dX8_hanging_62 (by omega) (by decide) (fun c_62 => ?_) (fun c_62 => ?_)
    · exact absurd c_62 (by decide)
    · refine go_aload_n (pc := 65) dX8_hanging_65 rfl ?_
      refine go_cVv (pc := 66) dX8_hanging_66 (ev_tries h5s) lX8_186 YX8_tries VX8_tries rfl rfl rfl (by decide) rfl (Nat.le_of_ble_eq_true rfl) (fun s1 hs1 => ?_)
      obtain ⟨hT1, hf1⟩ := hs1
      have hs1 := hs.tr (hf1.wd (S := [55]) (T := []) (by decide) (by decide)) (by decide) (by decide)
      have h59 : ∀ q, q < H 12 → s1 59 q = nI (tw q) := fun q hq => by rw [hf1.at 59 (by decide) (by decide)]; exact ht q hq
      refine go_iconst (v := nI 0) (pc := 69) dX8_hanging_69 (by decide) ?_
      refine go_istore (pc := 70) dX8_hanging_70 (by decide) rfl ?_
      have hang : ∀ i, i ≤ H 12 → ∀ u, py_hm (u 55) 0 (py_hw H tw i) → py_fr [55, 59, 60] [] σ u → (∀ q, q < H 12 → u 59 q = nI (tw q)) → py_bm u (H 12) (some b) → py_Go X RX8 cX8_hanging 10 4 72 [some (.ref 47), some (.int (nI d)), some (.int (y)), some (.int (nI (b.1))), some (.int (nI (b.2.1))), some (.int (nI 1)), some (.int (nI i)), none, none, none] [] u P := by
        refine py_loop _ (H 12) (fun i hi ihi u hTu hu hu59 hbu => ?_)
        have h5u : py_hm (u 53) 0 H := by rw [hu.at 53 (by decide) (by decide)]; exact h5
        refine go_iload (pc := 72) dX8_hanging_72 rfl ?_
        refine go_aload_n (pc := 74) dX8_hanging_74 rfl ?_
        refine go_getR (pc := 75) dX8_hanging_75 fX8_25 rfl rfl ?_
        refine go_bipush (v := nI 12) (pc := 78) dX8_hanging_78 (by decide) ?_
        refine go_aldN (x := (nI (H 12))) (pc := 80) dX8_hanging_80 rfl (by show 12 < 33; omega) (py_hm_at h5u (show 12 = 12 by omega) (by omega)) ?_
        refine go_icmp_geN (tgt := 111) (pc := 81) dX8_hanging_81 (by omega) (by omega) (by decide) (fun c_81 => ?_) (fun c_81 => ?_)
        · have hiH : i = H 12 := by omega
          rw [hiH] at hTu
          have hxl := py_hl_le hw d tw
          have hxk := py_hk_le hw d tw
          refine go_mask [true, true, true, true, true, true, false, true, true, true] rfl ?_
          refine go_aload_n (pc := 111) dX8_hanging_111 rfl ?_
          refine go_cV (pc := 112) dX8_hanging_112 (ev_isRoom h5u hTu w0 w12 w3 hv) lX8_197 YX8_isRoom VX8_isRoom rfl rfl rfl (by decide) rfl (Nat.le_of_ble_eq_true rfl) ?_
          refine go_if_eqB (tgt := 236) (pc := 115) dX8_hanging_115 (by decide) (fun c_115 => ?_) (fun c_115 => ?_)
          · have hgs := hu
            have hg59 := hu59
            have hlf : py_leaf H d tw (some b) = (some b) := by unfold py_leaf; rw [if_neg c_115]
            have hbg : py_bm u (H 12) (py_leaf H d tw (some b)) := by rw [hlf]; exact hbu
            have h5g : py_hm (u 53) 0 H := by rw [hgs.at 53 (by decide) (by decide)]; exact h5
            refine go_aload_n (pc := 236) dX8_hanging_236 rfl ?_
            refine go_cVi (pc := 237) dX8_hanging_237 (ev_nextHanging h5g w12 w3 hg59 hv) lX8_203 YX8_nextHanging VX8_nextHanging rfl rfl rfl (by decide) rfl (Nat.le_of_ble_eq_true rfl) (fun g hg => ?_)
            obtain ⟨hgn, hfg⟩ := hg
            have hgf := hgs.tr hfg (by decide) (by decide)
            have hbg2 := py_bm_fr hfg (by decide) hbg
            refine go_istore (pc := 240) dX8_hanging_240 (by decide) rfl ?_
            refine go_goto (tgt := 60) (pc := 242) dX8_hanging_242 (by decide) ?_
            cases hnx : py_nx2 (H 3) (H 12) tw with
            | none =>
              rw [hnx] at hn hgn
              have e8 := hn (fun _ => 0) g hgf (fun z => absurd z (by decide)) hbg2
              rw [hlf] at e8
              exact go_mask [true, true, true, true, true, true, false, false, false, false] rfl e8
            | some t =>
              rw [hnx] at hn hgn
              have e8 := hn g hgf (fun _ => hgn) hbg2
              rw [hlf] at e8
              exact go_mask [true, true, true, true, true, true, false, false, false, false] rfl e8
          · refine go_aload_n (pc := 118) dX8_hanging_118 rfl ?_
            refine go_iload_n (pc := 119) dX8_hanging_119 rfl ?_
            have h2k : py_hw H tw (H 12) 2 = H 2 := py_hw_o (fun p => by omega)
            refine go_cVv (pc := 120) dX8_hanging_120 (ev_goes hTu (py_hw_wm hm hv) (by omega) (by rw [h2k]; omega)) lX8_189 YX8_goes VX8_goes rfl rfl rfl (by decide) rfl (Nat.le_of_ble_eq_true rfl) (fun v hv1 => ?_)
            obtain ⟨hTv, hfv⟩ := hv1
            have hvs := hu.tr hfv (by decide) (by decide)
            have h12k : py_age (py_hw H tw (H 12)) d 12 = H 12 := by rw [py_age_12]; exact py_hw_o (fun p => by omega)
            have hv59 : ∀ q, q < H 12 → v 59 q = nI (tw q) := fun q hq => by rw [hfv.at 59 (by decide) (by decide)]; exact hu59 q hq
            have hbv := py_bm_fr hfv (by decide) hbu
            have h5u : py_hm (v 53) 0 H := by rw [hvs.at 53 (by decide) (by decide)]; exact h5
            refine go_aload_n (pc := 123) dX8_hanging_123 rfl ?_
            refine go_getR (pc := 124) dX8_hanging_124 fX8_31 rfl rfl ?_
            refine go_cS (pc := 127) dX8_hanging_127 (ev_mliving_55 hTv (by rw [h12k]; exact w12) (py_age_60 (py_hw_wm hm hv) d (by rw [h2k]; omega))) lX8_173 YX8_living SX8_living rfl (by decide) rfl (Nat.le_of_ble_eq_true rfl) ?_
            refine go_cS (pc := 130) dX8_hanging_130 (ev_ones (py_lvH_lt (by rw [h12k]; exact w12))) lX8_131 YX8_ones SX8_ones rfl (by decide) rfl (Nat.le_of_ble_eq_true rfl) ?_
            refine go_top (y := nI (py_hl H d tw (H 12))) (by rw [py_hw_hl hm hv]) ?_
            refine go_istore (pc := 133) dX8_hanging_133 (by decide) rfl ?_
            refine go_aload_n (pc := 135) dX8_hanging_135 rfl ?_
            refine go_getR (pc := 136) dX8_hanging_136 fX8_31 rfl rfl ?_
            refine go_cS (pc := 139) dX8_hanging_139 (ev_together hTv (by rw [h12k]; exact w12)) lX8_200 YX8_together SX8_together rfl (by decide) rfl (Nat.le_of_ble_eq_true rfl) ?_
            refine go_top (y := nI (py_hk H d tw (H 12))) (by rw [py_hw_hk hm hv]) ?_
            refine go_istore (pc := 142) dX8_hanging_142 (by decide) rfl ?_
            have hbv1 : b.1 ≤ 5 := hbv.1
            have hbv2 : b.2.1 ≤ 300 := hbv.2.1
            refine go_iload (pc := 144) dX8_hanging_144 rfl ?_
            refine go_iload_n (pc := 146) dX8_hanging_146 rfl ?_
            refine go_icmp_gtN (tgt := 163) (pc := 147) dX8_hanging_147 (by omega) (by omega) (by decide) (fun c_147 => ?_) (fun c_147 => ?_)
            · refine go_iconst (v := nI 1) (pc := 163) dX8_hanging_163 (by decide) ?_
              refine go_goto (tgt := 168) (pc := 164) dX8_hanging_164 (by decide) ?_
              refine go_istore (pc := 168) dX8_hanging_168 (by decide) rfl ?_
              refine go_iconst (v := nI 0) (pc := 170) dX8_hanging_170 (by decide) ?_
              refine go_istore (pc := 171) dX8_hanging_171 (by decide) rfl ?_
              have cop : ∀ j, j ≤ H 12 → py_Go X RX8 cX8_hanging 10 4 173 [some (.ref 47), some (.int (nI d)), some (.int (y)), some (.int (nI (b.1))), some (.int (nI (b.2.1))), some (.int (nI 1)), some (.int (nI (py_hl H d tw (H 12)))), some (.int (nI (py_hk H d tw (H 12)))), some (.int (nI 1)), some (.int (nI j))] [] (py_row v 60 (va_cpy (v 59) (v 60) 0 0 (j))) P := by
                refine py_loop _ (H 12) (fun j hj ihj => ?_)
                refine go_iload (pc := 173) dX8_hanging_173 rfl ?_
                refine go_aload_n (pc := 175) dX8_hanging_175 rfl ?_
                refine go_getR (pc := 176) dX8_hanging_176 fX8_25 rfl rfl ?_
                refine go_bipush (v := nI 12) (pc := 179) dX8_hanging_179 (by decide) ?_
                refine go_aldN (x := (nI (H 12))) (pc := 181) dX8_hanging_181 rfl (by show 12 < 33; omega) (py_hm_at (show py_hm ((py_row v 60 (va_cpy (v 59) (v 60) 0 0 (j))) 53) 0 H by rw [py_row_ne _ _ (by decide)]; exact h5u) (show 12 = 12 by omega) (by omega)) ?_
                refine go_icmp_geN (tgt := 210) (pc := 182) dX8_hanging_182 (by omega) (by omega) (by decide) (fun c_182 => ?_) (fun c_182 => ?_)
                · refine go_iload (pc := 210) dX8_hanging_210 rfl ?_
                  refine go_if_eqN (tgt := 220) (pc := 212) dX8_hanging_212 (by omega) (by decide) (fun c_212 => ?_) (fun c_212 => ?_)
                  · exact absurd c_212 (by decide)
                  · refine go_iload (pc := 215) dX8_hanging_215 rfl ?_
                    refine go_goto (tgt := 221) (pc := 217) dX8_hanging_217 (by decide) ?_
                    refine go_istore_n (pc := 221) dX8_hanging_221 (by decide) rfl ?_
                    refine go_iload (pc := 222) dX8_hanging_222 rfl ?_
                    refine go_if_eqN (tgt := 232) (pc := 224) dX8_hanging_224 (by omega) (by decide) (fun c_224 => ?_) (fun c_224 => ?_)
                    · exact absurd c_224 (by decide)
                    · refine go_iload (pc := 227) dX8_hanging_227 rfl ?_
                      refine go_goto (tgt := 234) (pc := 229) dX8_hanging_229 (by decide) ?_
                      refine go_istore (pc := 234) dX8_hanging_234 (by decide) rfl ?_
                      have hjH : j = H 12 := by omega
                      rw [hjH]
                      have hf2 : py_fr [60] [] v (py_row v 60 (va_cpy (v 59) (v 60) 0 0 (H 12))) := (py_fr.rf [60] [] v).row (by decide) _
                      have hgs : py_fr [55, 59, 60] [] σ (py_row v 60 (va_cpy (v 59) (v 60) 0 0 (H 12))) := hvs.tr hf2 (by decide) (by decide)
                      have hg59 : ∀ q, q < H 12 → (py_row v 60 (va_cpy (v 59) (v 60) 0 0 (H 12))) 59 q = nI (tw q) := fun q hq => by rw [py_row_ne _ _ (by decide)]; exact hv59 q hq
                      have hlf : py_leaf H d tw (some b) = some (py_hl H d tw (H 12), py_hk H d tw (H 12), tw) := by unfold py_leaf; rw [if_pos c_115]; show (if b.1 < _ ∨ (b.1 = _ ∧ b.2.1 < _) then _ else _) = _; rw [if_pos (by omega)]
                      have hbg : py_bm (py_row v 60 (va_cpy (v 59) (v 60) 0 0 (H 12))) (H 12) (py_leaf H d tw (some b)) := by rw [hlf]; exact ⟨hxl, hxk, fun q hq => by rw [py_row_self, py_cpy_ap (by omega)]; exact hv59 q hq⟩
                      have h5g : py_hm ((py_row v 60 (va_cpy (v 59) (v 60) 0 0 (H 12))) 53) 0 H := by rw [hgs.at 53 (by decide) (by decide)]; exact h5
                      refine go_aload_n (pc := 236) dX8_hanging_236 rfl ?_
                      refine go_cVi (pc := 237) dX8_hanging_237 (ev_nextHanging h5g w12 w3 hg59 hv) lX8_203 YX8_nextHanging VX8_nextHanging rfl rfl rfl (by decide) rfl (Nat.le_of_ble_eq_true rfl) (fun g hg => ?_)
                      obtain ⟨hgn, hfg⟩ := hg
                      have hgf := hgs.tr hfg (by decide) (by decide)
                      have hbg2 := py_bm_fr hfg (by decide) hbg
                      refine go_istore (pc := 240) dX8_hanging_240 (by decide) rfl ?_
                      refine go_goto (tgt := 60) (pc := 242) dX8_hanging_242 (by decide) ?_
                      cases hnx : py_nx2 (H 3) (H 12) tw with
                      | none =>
                        rw [hnx] at hn hgn
                        have e8 := hn (fun _ => 0) g hgf (fun z => absurd z (by decide)) hbg2
                        rw [hlf] at e8
                        exact go_mask [true, true, true, true, true, true, false, false, false, false] rfl e8
                      | some t =>
                        rw [hnx] at hn hgn
                        have e8 := hn g hgf (fun _ => hgn) hbg2
                        rw [hlf] at e8
                        exact go_mask [true, true, true, true, true, true, false, false, false, false] rfl e8
                · refine go_iload (pc := 185) dX8_hanging_185 rfl ?_
                  refine go_if_eqN (tgt := 210) (pc := 187) dX8_hanging_187 (by omega) (by decide) (fun c_187 => ?_) (fun c_187 => ?_)
                  · exact absurd c_187 (by decide)
                  · refine go_aload_n (pc := 190) dX8_hanging_190 rfl ?_
                    refine go_getR (pc := 191) dX8_hanging_191 fX8_47 rfl rfl ?_
                    refine go_iload (pc := 194) dX8_hanging_194 rfl ?_
                    refine go_aload_n (pc := 196) dX8_hanging_196 rfl ?_
                    refine go_getR (pc := 197) dX8_hanging_197 fX8_44 rfl rfl ?_
                    refine go_iload (pc := 200) dX8_hanging_200 rfl ?_
                    refine go_aldN (x := (v 59 j)) (pc := 202) dX8_hanging_202 rfl (by show j < 5; omega) (by rw [py_row_ne _ _ (by decide)]) ?_
                    refine go_astN (pc := 203) dX8_hanging_203 rfl (by show j < 5; omega) ?_
                    refine go_iincN (c := 1) (pc := 204) dX8_hanging_204 rfl (by decide) (by decide) rfl ?_
                    refine go_goto (tgt := 173) (pc := 207) dX8_hanging_207 (by decide) ?_
                    rw [py_up_row]
                    have e7 := py_cpy_s (v 59) (v 60) 0 0 j
                    rw [Nat.zero_add] at e7
                    rw [e7]
                    exact ihj (by omega)
              have e8 := cop 0 (Nat.zero_le _)
              rw [py_cpy_0, py_row_id] at e8
              exact e8
            · refine go_iload (pc := 150) dX8_hanging_150 rfl ?_
              refine go_iload_n (pc := 152) dX8_hanging_152 rfl ?_
              refine go_icmp_neN (tgt := 167) (pc := 153) dX8_hanging_153 (by omega) (by omega) (by decide) (fun c_153 => ?_) (fun c_153 => ?_)
              · refine go_iconst (v := nI 0) (pc := 167) dX8_hanging_167 (by decide) ?_
                refine go_istore (pc := 168) dX8_hanging_168 (by decide) rfl ?_
                refine go_iconst (v := nI 0) (pc := 170) dX8_hanging_170 (by decide) ?_
                refine go_istore (pc := 171) dX8_hanging_171 (by decide) rfl ?_
                refine go_iload (pc := 173) dX8_hanging_173 rfl ?_
                refine go_aload_n (pc := 175) dX8_hanging_175 rfl ?_
                refine go_getR (pc := 176) dX8_hanging_176 fX8_25 rfl rfl ?_
                refine go_bipush (v := nI 12) (pc := 179) dX8_hanging_179 (by decide) ?_
                refine go_aldN (x := (nI (H 12))) (pc := 181) dX8_hanging_181 rfl (by show 12 < 33; omega) (py_hm_at h5u (show 12 = 12 by omega) (by omega)) ?_
                refine go_icmp_geN (tgt := 210) (pc := 182) dX8_hanging_182 (by omega) (by omega) (by decide) (fun c_182 => ?_) (fun c_182 => ?_)
                · refine go_iload (pc := 210) dX8_hanging_210 rfl ?_
                  refine go_if_eqN (tgt := 220) (pc := 212) dX8_hanging_212 (by omega) (by decide) (fun c_212 => ?_) (fun c_212 => ?_)
                  · refine go_iload_n (pc := 220) dX8_hanging_220 rfl ?_
                    refine go_istore_n (pc := 221) dX8_hanging_221 (by decide) rfl ?_
                    refine go_iload (pc := 222) dX8_hanging_222 rfl ?_
                    refine go_if_eqN (tgt := 232) (pc := 224) dX8_hanging_224 (by omega) (by decide) (fun c_224 => ?_) (fun c_224 => ?_)
                    · refine go_iload (pc := 232) dX8_hanging_232 rfl ?_
                      refine go_istore (pc := 234) dX8_hanging_234 (by decide) rfl ?_
                      have hgs := hvs
                      have hg59 := hv59
                      have hlf : py_leaf H d tw (some b) = (some b) := by unfold py_leaf; rw [if_pos c_115]; show (if b.1 < _ ∨ (b.1 = _ ∧ b.2.1 < _) then _ else _) = _; rw [if_neg (by omega)]
                      have hbg : py_bm v (H 12) (py_leaf H d tw (some b)) := by rw [hlf]; exact hbv
                      have h5g : py_hm (v 53) 0 H := by rw [hgs.at 53 (by decide) (by decide)]; exact h5
                      refine go_aload_n (pc := 236) dX8_hanging_236 rfl ?_
                      refine go_cVi (pc := 237) dX8_hanging_237 (ev_nextHanging h5g w12 w3 hg59 hv) lX8_203 YX8_nextHanging VX8_nextHanging rfl rfl rfl (by decide) rfl (Nat.le_of_ble_eq_true rfl) (fun g hg => ?_)
                      obtain ⟨hgn, hfg⟩ := hg
                      have hgf := hgs.tr hfg (by decide) (by decide)
                      have hbg2 := py_bm_fr hfg (by decide) hbg
                      refine go_istore (pc := 240) dX8_hanging_240 (by decide) rfl ?_
                      refine go_goto (tgt := 60) (pc := 242) dX8_hanging_242 (by decide) ?_
                      cases hnx : py_nx2 (H 3) (H 12) tw with
                      | none =>
                        rw [hnx] at hn hgn
                        have e8 := hn (fun _ => 0) g hgf (fun z => absurd z (by decide)) hbg2
                        rw [hlf] at e8
                        exact go_mask [true, true, true, true, true, true, false, false, false, false] rfl e8
                      | some t =>
                        rw [hnx] at hn hgn
                        have e8 := hn g hgf (fun _ => hgn) hbg2
                        rw [hlf] at e8
                        exact go_mask [true, true, true, true, true, true, false, false, false, false] rfl e8
                    · exact absurd c_224 (by decide)
                  · exact absurd c_212 (by decide)
                · refine go_iload (pc := 185) dX8_hanging_185 rfl ?_
                  refine go_if_eqN (tgt := 210) (pc := 187) dX8_hanging_187 (by omega) (by decide) (fun c_187 => ?_) (fun c_187 => ?_)
                  · refine go_iload (pc := 210) dX8_hanging_210 rfl ?_
                    refine go_if_eqN (tgt := 220) (pc := 212) dX8_hanging_212 (by omega) (by decide) (fun c_212 => ?_) (fun c_212 => ?_)
                    · refine go_iload_n (pc := 220) dX8_hanging_220 rfl ?_
                      refine go_istore_n (pc := 221) dX8_hanging_221 (by decide) rfl ?_
                      refine go_iload (pc := 222) dX8_hanging_222 rfl ?_
                      refine go_if_eqN (tgt := 232) (pc := 224) dX8_hanging_224 (by omega) (by decide) (fun c_224 => ?_) (fun c_224 => ?_)
                      · refine go_iload (pc := 232) dX8_hanging_232 rfl ?_
                        refine go_istore (pc := 234) dX8_hanging_234 (by decide) rfl ?_
                        have hgs := hvs
                        have hg59 := hv59
                        have hlf : py_leaf H d tw (some b) = (some b) := by unfold py_leaf; rw [if_pos c_115]; show (if b.1 < _ ∨ (b.1 = _ ∧ b.2.1 < _) then _ else _) = _; rw [if_neg (by omega)]
                        have hbg : py_bm v (H 12) (py_leaf H d tw (some b)) := by rw [hlf]; exact hbv
                        have h5g : py_hm (v 53) 0 H := by rw [hgs.at 53 (by decide) (by decide)]; exact h5
                        refine go_aload_n (pc := 236) dX8_hanging_236 rfl ?_
                        refine go_cVi (pc := 237) dX8_hanging_237 (ev_nextHanging h5g w12 w3 hg59 hv) lX8_203 YX8_nextHanging VX8_nextHanging rfl rfl rfl (by decide) rfl (Nat.le_of_ble_eq_true rfl) (fun g hg => ?_)
                        obtain ⟨hgn, hfg⟩ := hg
                        have hgf := hgs.tr hfg (by decide) (by decide)
                        have hbg2 := py_bm_fr hfg (by decide) hbg
                        refine go_istore (pc := 240) dX8_hanging_240 (by decide) rfl ?_
                        refine go_goto (tgt := 60) (pc := 242) dX8_hanging_242 (by decide) ?_
                        cases hnx : py_nx2 (H 3) (H 12) tw with
                        | none =>
                          rw [hnx] at hn hgn
                          have e8 := hn (fun _ => 0) g hgf (fun z => absurd z (by decide)) hbg2
                          rw [hlf] at e8
                          exact go_mask [true, true, true, true, true, true, false, false, false, false] rfl e8
                        | some t =>
                          rw [hnx] at hn hgn
                          have e8 := hn g hgf (fun _ => hgn) hbg2
                          rw [hlf] at e8
                          exact go_mask [true, true, true, true, true, true, false, false, false, false] rfl e8
                      · exact absurd c_224 (by decide)
                    · exact absurd c_212 (by decide)
                  · exact absurd c_187 (by decide)
              · refine go_iload (pc := 156) dX8_hanging_156 rfl ?_
                refine go_iload (pc := 158) dX8_hanging_158 rfl ?_
                refine go_icmp_leN (tgt := 167) (pc := 160) dX8_hanging_160 (by omega) (by omega) (by decide) (fun c_160 => ?_) (fun c_160 => ?_)
                · refine go_iconst (v := nI 0) (pc := 167) dX8_hanging_167 (by decide) ?_
                  refine go_istore (pc := 168) dX8_hanging_168 (by decide) rfl ?_
                  refine go_iconst (v := nI 0) (pc := 170) dX8_hanging_170 (by decide) ?_
                  refine go_istore (pc := 171) dX8_hanging_171 (by decide) rfl ?_
                  refine go_iload (pc := 173) dX8_hanging_173 rfl ?_
                  refine go_aload_n (pc := 175) dX8_hanging_175 rfl ?_
                  refine go_getR (pc := 176) dX8_hanging_176 fX8_25 rfl rfl ?_
                  refine go_bipush (v := nI 12) (pc := 179) dX8_hanging_179 (by decide) ?_
                  refine go_aldN (x := (nI (H 12))) (pc := 181) dX8_hanging_181 rfl (by show 12 < 33; omega) (py_hm_at h5u (show 12 = 12 by omega) (by omega)) ?_
                  refine go_icmp_geN (tgt := 210) (pc := 182) dX8_hanging_182 (by omega) (by omega) (by decide) (fun c_182 => ?_) (fun c_182 => ?_)
                  · refine go_iload (pc := 210) dX8_hanging_210 rfl ?_
                    refine go_if_eqN (tgt := 220) (pc := 212) dX8_hanging_212 (by omega) (by decide) (fun c_212 => ?_) (fun c_212 => ?_)
                    · refine go_iload_n (pc := 220) dX8_hanging_220 rfl ?_
                      refine go_istore_n (pc := 221) dX8_hanging_221 (by decide) rfl ?_
                      refine go_iload (pc := 222) dX8_hanging_222 rfl ?_
                      refine go_if_eqN (tgt := 232) (pc := 224) dX8_hanging_224 (by omega) (by decide) (fun c_224 => ?_) (fun c_224 => ?_)
                      · refine go_iload (pc := 232) dX8_hanging_232 rfl ?_
                        refine go_istore (pc := 234) dX8_hanging_234 (by decide) rfl ?_
                        have hgs := hvs
                        have hg59 := hv59
                        have hlf : py_leaf H d tw (some b) = (some b) := by unfold py_leaf; rw [if_pos c_115]; show (if b.1 < _ ∨ (b.1 = _ ∧ b.2.1 < _) then _ else _) = _; rw [if_neg (by omega)]
                        have hbg : py_bm v (H 12) (py_leaf H d tw (some b)) := by rw [hlf]; exact hbv
                        have h5g : py_hm (v 53) 0 H := by rw [hgs.at 53 (by decide) (by decide)]; exact h5
                        refine go_aload_n (pc := 236) dX8_hanging_236 rfl ?_
                        refine go_cVi (pc := 237) dX8_hanging_237 (ev_nextHanging h5g w12 w3 hg59 hv) lX8_203 YX8_nextHanging VX8_nextHanging rfl rfl rfl (by decide) rfl (Nat.le_of_ble_eq_true rfl) (fun g hg => ?_)
                        obtain ⟨hgn, hfg⟩ := hg
                        have hgf := hgs.tr hfg (by decide) (by decide)
                        have hbg2 := py_bm_fr hfg (by decide) hbg
                        refine go_istore (pc := 240) dX8_hanging_240 (by decide) rfl ?_
                        refine go_goto (tgt := 60) (pc := 242) dX8_hanging_242 (by decide) ?_
                        cases hnx : py_nx2 (H 3) (H 12) tw with
                        | none =>
                          rw [hnx] at hn hgn
                          have e8 := hn (fun _ => 0) g hgf (fun z => absurd z (by decide)) hbg2
                          rw [hlf] at e8
                          exact go_mask [true, true, true, true, true, true, false, false, false, false] rfl e8
                        | some t =>
                          rw [hnx] at hn hgn
                          have e8 := hn g hgf (fun _ => hgn) hbg2
                          rw [hlf] at e8
                          exact go_mask [true, true, true, true, true, true, false, false, false, false] rfl e8
                      · exact absurd c_224 (by decide)
                    · exact absurd c_212 (by decide)
                  · refine go_iload (pc := 185) dX8_hanging_185 rfl ?_
                    refine go_if_eqN (tgt := 210) (pc := 187) dX8_hanging_187 (by omega) (by decide) (fun c_187 => ?_) (fun c_187 => ?_)
                    · refine go_iload (pc := 210) dX8_hanging_210 rfl ?_
                      refine go_if_eqN (tgt := 220) (pc := 212) dX8_hanging_212 (by omega) (by decide) (fun c_212 => ?_) (fun c_212 => ?_)
                      · refine go_iload_n (pc := 220) dX8_hanging_220 rfl ?_
                        refine go_istore_n (pc := 221) dX8_hanging_221 (by decide) rfl ?_
                        refine go_iload (pc := 222) dX8_hanging_222 rfl ?_
                        refine go_if_eqN (tgt := 232) (pc := 224) dX8_hanging_224 (by omega) (by decide) (fun c_224 => ?_) (fun c_224 => ?_)
                        · refine go_iload (pc := 232) dX8_hanging_232 rfl ?_
                          refine go_istore (pc := 234) dX8_hanging_234 (by decide) rfl ?_
                          have hgs := hvs
                          have hg59 := hv59
                          have hlf : py_leaf H d tw (some b) = (some b) := by unfold py_leaf; rw [if_pos c_115]; show (if b.1 < _ ∨ (b.1 = _ ∧ b.2.1 < _) then _ else _) = _; rw [if_neg (by omega)]
                          have hbg : py_bm v (H 12) (py_leaf H d tw (some b)) := by rw [hlf]; exact hbv
                          have h5g : py_hm (v 53) 0 H := by rw [hgs.at 53 (by decide) (by decide)]; exact h5
                          refine go_aload_n (pc := 236) dX8_hanging_236 rfl ?_
                          refine go_cVi (pc := 237) dX8_hanging_237 (ev_nextHanging h5g w12 w3 hg59 hv) lX8_203 YX8_nextHanging VX8_nextHanging rfl rfl rfl (by decide) rfl (Nat.le_of_ble_eq_true rfl) (fun g hg => ?_)
                          obtain ⟨hgn, hfg⟩ := hg
                          have hgf := hgs.tr hfg (by decide) (by decide)
                          have hbg2 := py_bm_fr hfg (by decide) hbg
                          refine go_istore (pc := 240) dX8_hanging_240 (by decide) rfl ?_
                          refine go_goto (tgt := 60) (pc := 242) dX8_hanging_242 (by decide) ?_
                          cases hnx : py_nx2 (H 3) (H 12) tw with
                          | none =>
                            rw [hnx] at hn hgn
                            have e8 := hn (fun _ => 0) g hgf (fun z => absurd z (by decide)) hbg2
                            rw [hlf] at e8
                            exact go_mask [true, true, true, true, true, true, false, false, false, false] rfl e8
                          | some t =>
                            rw [hnx] at hn hgn
                            have e8 := hn g hgf (fun _ => hgn) hbg2
                            rw [hlf] at e8
                            exact go_mask [true, true, true, true, true, true, false, false, false, false] rfl e8
                        · exact absurd c_224 (by decide)
                      · exact absurd c_212 (by decide)
                    · exact absurd c_187 (by decide)
                · refine go_iconst (v := nI 1) (pc := 163) dX8_hanging_163 (by decide) ?_
                  refine go_goto (tgt := 168) (pc := 164) dX8_hanging_164 (by decide) ?_
                  refine go_istore (pc := 168) dX8_hanging_168 (by decide) rfl ?_
                  refine go_iconst (v := nI 0) (pc := 170) dX8_hanging_170 (by decide) ?_
                  refine go_istore (pc := 171) dX8_hanging_171 (by decide) rfl ?_
                  have cop : ∀ j, j ≤ H 12 → py_Go X RX8 cX8_hanging 10 4 173 [some (.ref 47), some (.int (nI d)), some (.int (y)), some (.int (nI (b.1))), some (.int (nI (b.2.1))), some (.int (nI 1)), some (.int (nI (py_hl H d tw (H 12)))), some (.int (nI (py_hk H d tw (H 12)))), some (.int (nI 1)), some (.int (nI j))] [] (py_row v 60 (va_cpy (v 59) (v 60) 0 0 (j))) P := by
                    refine py_loop _ (H 12) (fun j hj ihj => ?_)
                    refine go_iload (pc := 173) dX8_hanging_173 rfl ?_
                    refine go_aload_n (pc := 175) dX8_hanging_175 rfl ?_
                    refine go_getR (pc := 176) dX8_hanging_176 fX8_25 rfl rfl ?_
                    refine go_bipush (v := nI 12) (pc := 179) dX8_hanging_179 (by decide) ?_
                    refine go_aldN (x := (nI (H 12))) (pc := 181) dX8_hanging_181 rfl (by show 12 < 33; omega) (py_hm_at (show py_hm ((py_row v 60 (va_cpy (v 59) (v 60) 0 0 (j))) 53) 0 H by rw [py_row_ne _ _ (by decide)]; exact h5u) (show 12 = 12 by omega) (by omega)) ?_
                    refine go_icmp_geN (tgt := 210) (pc := 182) dX8_hanging_182 (by omega) (by omega) (by decide) (fun c_182 => ?_) (fun c_182 => ?_)
                    · refine go_iload (pc := 210) dX8_hanging_210 rfl ?_
                      refine go_if_eqN (tgt := 220) (pc := 212) dX8_hanging_212 (by omega) (by decide) (fun c_212 => ?_) (fun c_212 => ?_)
                      · exact absurd c_212 (by decide)
                      · refine go_iload (pc := 215) dX8_hanging_215 rfl ?_
                        refine go_goto (tgt := 221) (pc := 217) dX8_hanging_217 (by decide) ?_
                        refine go_istore_n (pc := 221) dX8_hanging_221 (by decide) rfl ?_
                        refine go_iload (pc := 222) dX8_hanging_222 rfl ?_
                        refine go_if_eqN (tgt := 232) (pc := 224) dX8_hanging_224 (by omega) (by decide) (fun c_224 => ?_) (fun c_224 => ?_)
                        · exact absurd c_224 (by decide)
                        · refine go_iload (pc := 227) dX8_hanging_227 rfl ?_
                          refine go_goto (tgt := 234) (pc := 229) dX8_hanging_229 (by decide) ?_
                          refine go_istore (pc := 234) dX8_hanging_234 (by decide) rfl ?_
                          have hjH : j = H 12 := by omega
                          rw [hjH]
                          have hf2 : py_fr [60] [] v (py_row v 60 (va_cpy (v 59) (v 60) 0 0 (H 12))) := (py_fr.rf [60] [] v).row (by decide) _
                          have hgs : py_fr [55, 59, 60] [] σ (py_row v 60 (va_cpy (v 59) (v 60) 0 0 (H 12))) := hvs.tr hf2 (by decide) (by decide)
                          have hg59 : ∀ q, q < H 12 → (py_row v 60 (va_cpy (v 59) (v 60) 0 0 (H 12))) 59 q = nI (tw q) := fun q hq => by rw [py_row_ne _ _ (by decide)]; exact hv59 q hq
                          have hlf : py_leaf H d tw (some b) = some (py_hl H d tw (H 12), py_hk H d tw (H 12), tw) := by unfold py_leaf; rw [if_pos c_115]; show (if b.1 < _ ∨ (b.1 = _ ∧ b.2.1 < _) then _ else _) = _; rw [if_pos (by omega)]
                          have hbg : py_bm (py_row v 60 (va_cpy (v 59) (v 60) 0 0 (H 12))) (H 12) (py_leaf H d tw (some b)) := by rw [hlf]; exact ⟨hxl, hxk, fun q hq => by rw [py_row_self, py_cpy_ap (by omega)]; exact hv59 q hq⟩
                          have h5g : py_hm ((py_row v 60 (va_cpy (v 59) (v 60) 0 0 (H 12))) 53) 0 H := by rw [hgs.at 53 (by decide) (by decide)]; exact h5
                          refine go_aload_n (pc := 236) dX8_hanging_236 rfl ?_
                          refine go_cVi (pc := 237) dX8_hanging_237 (ev_nextHanging h5g w12 w3 hg59 hv) lX8_203 YX8_nextHanging VX8_nextHanging rfl rfl rfl (by decide) rfl (Nat.le_of_ble_eq_true rfl) (fun g hg => ?_)
                          obtain ⟨hgn, hfg⟩ := hg
                          have hgf := hgs.tr hfg (by decide) (by decide)
                          have hbg2 := py_bm_fr hfg (by decide) hbg
                          refine go_istore (pc := 240) dX8_hanging_240 (by decide) rfl ?_
                          refine go_goto (tgt := 60) (pc := 242) dX8_hanging_242 (by decide) ?_
                          cases hnx : py_nx2 (H 3) (H 12) tw with
                          | none =>
                            rw [hnx] at hn hgn
                            have e8 := hn (fun _ => 0) g hgf (fun z => absurd z (by decide)) hbg2
                            rw [hlf] at e8
                            exact go_mask [true, true, true, true, true, true, false, false, false, false] rfl e8
                          | some t =>
                            rw [hnx] at hn hgn
                            have e8 := hn g hgf (fun _ => hgn) hbg2
                            rw [hlf] at e8
                            exact go_mask [true, true, true, true, true, true, false, false, false, false] rfl e8
                    · refine go_iload (pc := 185) dX8_hanging_185 rfl ?_
                      refine go_if_eqN (tgt := 210) (pc := 187) dX8_hanging_187 (by omega) (by decide) (fun c_187 => ?_) (fun c_187 => ?_)
                      · exact absurd c_187 (by decide)
                      · refine go_aload_n (pc := 190) dX8_hanging_190 rfl ?_
                        refine go_getR (pc := 191) dX8_hanging_191 fX8_47 rfl rfl ?_
                        refine go_iload (pc := 194) dX8_hanging_194 rfl ?_
                        refine go_aload_n (pc := 196) dX8_hanging_196 rfl ?_
                        refine go_getR (pc := 197) dX8_hanging_197 fX8_44 rfl rfl ?_
                        refine go_iload (pc := 200) dX8_hanging_200 rfl ?_
                        refine go_aldN (x := (v 59 j)) (pc := 202) dX8_hanging_202 rfl (by show j < 5; omega) (by rw [py_row_ne _ _ (by decide)]) ?_
                        refine go_astN (pc := 203) dX8_hanging_203 rfl (by show j < 5; omega) ?_
                        refine go_iincN (c := 1) (pc := 204) dX8_hanging_204 rfl (by decide) (by decide) rfl ?_
                        refine go_goto (tgt := 173) (pc := 207) dX8_hanging_207 (by decide) ?_
                        rw [py_up_row]
                        have e7 := py_cpy_s (v 59) (v 60) 0 0 j
                        rw [Nat.zero_add] at e7
                        rw [e7]
                        exact ihj (by omega)
                  have e8 := cop 0 (Nat.zero_le _)
                  rw [py_cpy_0, py_row_id] at e8
                  exact e8
        · refine go_aload_n (pc := 84) dX8_hanging_84 rfl ?_
          refine go_getR (pc := 85) dX8_hanging_85 fX8_31 rfl rfl ?_
          refine go_bipush (v := nI 13) (pc := 88) dX8_hanging_88 (by decide) ?_
          refine go_iconst (v := nI 4) (pc := 90) dX8_hanging_90 (by decide) ?_
          refine go_iload (pc := 91) dX8_hanging_91 rfl ?_
          refine go_imulN (pc := 93) dX8_hanging_93  ?_
          refine go_iaddN (pc := 94) dX8_hanging_94  ?_
          refine go_iconst (v := nI 3) (pc := 95) dX8_hanging_95 (by decide) ?_
          refine go_iaddN (pc := 96) dX8_hanging_96  ?_
          refine go_aload_n (pc := 97) dX8_hanging_97 rfl ?_
          refine go_getR (pc := 98) dX8_hanging_98 fX8_44 rfl rfl ?_
          refine go_iload (pc := 101) dX8_hanging_101 rfl ?_
          refine go_aldN (x := (nI (tw i))) (pc := 103) dX8_hanging_103 rfl (by show i < 5; omega) (hu59 i (by omega)) ?_
          refine go_astN (pc := 104) dX8_hanging_104 rfl (by show (13 + (4 * i)) + 3 < 33; omega) ?_
          refine go_iincN (c := 1) (pc := 105) dX8_hanging_105 rfl (by decide) (by decide) rfl ?_
          refine go_goto (tgt := 72) (pc := 108) dX8_hanging_108 (by decide) ?_
          refine ihi (by omega) _ (by rw [← py_hw_s]; exact py_hm_up (i := 16 + 4 * i) hTu (by omega)) (hu.up (by decide) _) (fun q hq => by rw [py_up_k _ _ _ (by decide)]; exact hu59 q hq) (py_bm_fr ((py_fr.rf [55] [] u).up (by decide) _) (by decide) hbu)
      exact hang 0 (Nat.zero_le _) s1 (by rw [py_hw_0]; exact hT1) hs1 h59 (py_bm_fr hf1 (by decide) hb)
