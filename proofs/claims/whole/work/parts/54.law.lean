/-! the law: its cases, its loop -/
/-- the law's loop at its head: class and reference hold one state, i ints are read -/
def py_LN (X : py_X) (i : Nat) : Prop := ∀ (σ : py_H) (R : py_Rt) (q : Int32) (B : Nat → Nat) (N : Nat) (ft : Int32) (H : Nat → Nat) (n : Nat) (As : Nat → Nat → Nat) (I0 I1 : Option (Nat → Nat)) (t : Nat) (tr : Nat → Int32), py_IC σ R q B N ft H n As I0 I1 t tr → py_IM σ R q B N ft H n As I0 I1 t tr → py_IW H n As I0 I1 t → py_Go X RL cL_law 4 10 18 [some (.ref 65), some (.ref 0), some (.ref 47), some (.int (nI i))] [] σ (py_vs (some (.int (nI 1))) (fun _ => True))
set_option maxHeartbeats 4000000 in
set_option maxRecDepth 100000 in
theorem lc_row {X : py_X} {i : Nat} {σ : py_H} {R : py_Rt} {q : Int32} {B : Nat → Nat} {N : Nat} {ft : Int32} {H : Nat → Nat} {n : Nat} {As : Nat → Nat → Nat} {I0 I1 : Option (Nat → Nat)} {t : Nat} {tr : Nat → Int32} (hX : X.1 ≤ 3072) (hi : i + 6 ≤ X.1) (ih : py_LN X (i + 6)) (hC : py_IC σ R q B N ft H n As I0 I1 t tr) (hM : py_IM σ R q B N ft H n As I0 I1 t tr) (hW : py_IW H n As I0 I1 t) : py_Go X RL cL_law 4 10 176 [some (.ref 65), some (.ref 0), some (.ref 47), some (.int (nI i))] [] σ (py_vs (some (.int (nI 1))) (fun _ => True)) := by
  refine go_aload_n (pc := 176) dL_law_176 rfl ?_
  refine go_aload_n (pc := 177) dL_law_177 rfl ?_
  refine go_iload_n (pc := 178) dL_law_178 rfl ?_
  refine go_iconst (v := nI 1) (pc := 179) dL_law_179 (by decide) ?_
  refine go_iaddN (pc := 180) dL_law_180  ?_
  refine go_sldN (pc := 181) dL_law_181 (by omega) (by omega) ?_
  refine go_aload_n (pc := 182) dL_law_182 rfl ?_
  refine go_iload_n (pc := 183) dL_law_183 rfl ?_
  refine go_iconst (v := nI 2) (pc := 184) dL_law_184 (by decide) ?_
  refine go_iaddN (pc := 185) dL_law_185  ?_
  refine go_sldN (pc := 186) dL_law_186 (by omega) (by omega) ?_
  refine go_aload_n (pc := 187) dL_law_187 rfl ?_
  refine go_iload_n (pc := 188) dL_law_188 rfl ?_
  refine go_iconst (v := nI 3) (pc := 189) dL_law_189 (by decide) ?_
  refine go_iaddN (pc := 190) dL_law_190  ?_
  refine go_sldN (pc := 191) dL_law_191 (by omega) (by omega) ?_
  refine go_cVi (pc := 192) dL_law_192 (cl_row hC hW) lL_13 YX7_row VX7_row rfl rfl rfl (by decide) rfl (Nat.le_of_ble_eq_true rfl) (fun s1 h1 => ?_)
  obtain ⟨hC1, hf1⟩ := h1
  have hM1 := py_IM_fr hf1 hM
  refine go_aload_n (pc := 195) dL_law_195 rfl ?_
  refine go_aload_n (pc := 196) dL_law_196 rfl ?_
  refine go_iload_n (pc := 197) dL_law_197 rfl ?_
  refine go_iconst (v := nI 1) (pc := 198) dL_law_198 (by decide) ?_
  refine go_iaddN (pc := 199) dL_law_199  ?_
  refine go_sldN (pc := 200) dL_law_200 (by omega) (by omega) ?_
  refine go_aload_n (pc := 201) dL_law_201 rfl ?_
  refine go_iload_n (pc := 202) dL_law_202 rfl ?_
  refine go_iconst (v := nI 2) (pc := 203) dL_law_203 (by decide) ?_
  refine go_iaddN (pc := 204) dL_law_204  ?_
  refine go_sldN (pc := 205) dL_law_205 (by omega) (by omega) ?_
  refine go_aload_n (pc := 206) dL_law_206 rfl ?_
  refine go_iload_n (pc := 207) dL_law_207 rfl ?_
  refine go_iconst (v := nI 3) (pc := 208) dL_law_208 (by decide) ?_
  refine go_iaddN (pc := 209) dL_law_209  ?_
  refine go_sldN (pc := 210) dL_law_210 (by omega) (by omega) ?_
  refine go_cVi (pc := 211) dL_law_211 (mo_row hM1 hW) lL_17 YX8_row VX8_row rfl rfl rfl (by decide) rfl (Nat.le_of_ble_eq_true rfl) (fun s2 h2 => ?_)
  obtain ⟨hM2, hf2⟩ := h2
  have hC2 := py_IC_fr hf2 hC1
  refine go_icmp_eq (tgt := 1152) (pc := 214) dL_law_214 (by decide) (fun c_214 => ?_) (fun c_214 => ?_)
  · refine go_iincN (c := 6) (pc := 1152) dL_law_1152 rfl (by decide) (by decide) rfl ?_
    refine go_goto (tgt := 18) (pc := 1155) dL_law_1155 (by decide) ?_
    exact ih s2 _ _ _ _ _ _ _ _ _ _ _ _ hC2 hM2 (hW)
  · exact absurd rfl c_214
set_option maxHeartbeats 4000000 in
set_option maxRecDepth 100000 in
theorem lc_set {X : py_X} {i : Nat} {σ : py_H} {R : py_Rt} {q : Int32} {B : Nat → Nat} {N : Nat} {ft : Int32} {H : Nat → Nat} {n : Nat} {As : Nat → Nat → Nat} {I0 I1 : Option (Nat → Nat)} {t : Nat} {tr : Nat → Int32} (hX : X.1 ≤ 3072) (hi : i + 6 ≤ X.1) (ih : py_LN X (i + 6)) (hC : py_IC σ R q B N ft H n As I0 I1 t tr) (hM : py_IM σ R q B N ft H n As I0 I1 t tr) (hW : py_IW H n As I0 I1 t) : py_Go X RL cL_law 4 10 219 [some (.ref 65), some (.ref 0), some (.ref 47), some (.int (nI i))] [] σ (py_vs (some (.int (nI 1))) (fun _ => True)) := by
  refine go_aload_n (pc := 219) dL_law_219 rfl ?_
  refine go_aload_n (pc := 220) dL_law_220 rfl ?_
  refine go_iload_n (pc := 221) dL_law_221 rfl ?_
  refine go_iconst (v := nI 1) (pc := 222) dL_law_222 (by decide) ?_
  refine go_iaddN (pc := 223) dL_law_223  ?_
  refine go_sldN (pc := 224) dL_law_224 (by omega) (by omega) ?_
  refine go_aload_n (pc := 225) dL_law_225 rfl ?_
  refine go_iload_n (pc := 226) dL_law_226 rfl ?_
  refine go_iconst (v := nI 2) (pc := 227) dL_law_227 (by decide) ?_
  refine go_iaddN (pc := 228) dL_law_228  ?_
  refine go_sldN (pc := 229) dL_law_229 (by omega) (by omega) ?_
  refine go_aload_n (pc := 230) dL_law_230 rfl ?_
  refine go_iload_n (pc := 231) dL_law_231 rfl ?_
  refine go_iconst (v := nI 3) (pc := 232) dL_law_232 (by decide) ?_
  refine go_iaddN (pc := 233) dL_law_233  ?_
  refine go_sldN (pc := 234) dL_law_234 (by omega) (by omega) ?_
  refine go_cVi (pc := 235) dL_law_235 (cl_set hC hW) lL_18 YX7_set VX7_set rfl rfl rfl (by decide) rfl (Nat.le_of_ble_eq_true rfl) (fun s1 h1 => ?_)
  obtain ⟨hC1, hf1⟩ := h1
  have hM1 := py_IM_fr hf1 hM
  refine go_aload_n (pc := 238) dL_law_238 rfl ?_
  refine go_aload_n (pc := 239) dL_law_239 rfl ?_
  refine go_iload_n (pc := 240) dL_law_240 rfl ?_
  refine go_iconst (v := nI 1) (pc := 241) dL_law_241 (by decide) ?_
  refine go_iaddN (pc := 242) dL_law_242  ?_
  refine go_sldN (pc := 243) dL_law_243 (by omega) (by omega) ?_
  refine go_aload_n (pc := 244) dL_law_244 rfl ?_
  refine go_iload_n (pc := 245) dL_law_245 rfl ?_
  refine go_iconst (v := nI 2) (pc := 246) dL_law_246 (by decide) ?_
  refine go_iaddN (pc := 247) dL_law_247  ?_
  refine go_sldN (pc := 248) dL_law_248 (by omega) (by omega) ?_
  refine go_aload_n (pc := 249) dL_law_249 rfl ?_
  refine go_iload_n (pc := 250) dL_law_250 rfl ?_
  refine go_iconst (v := nI 3) (pc := 251) dL_law_251 (by decide) ?_
  refine go_iaddN (pc := 252) dL_law_252  ?_
  refine go_sldN (pc := 253) dL_law_253 (by omega) (by omega) ?_
  refine go_cVi (pc := 254) dL_law_254 (mo_set hM1 hW) lL_21 YX8_set VX8_set rfl rfl rfl (by decide) rfl (Nat.le_of_ble_eq_true rfl) (fun s2 h2 => ?_)
  obtain ⟨hM2, hf2⟩ := h2
  have hC2 := py_IC_fr hf2 hC1
  refine go_icmp_eq (tgt := 1152) (pc := 257) dL_law_257 (by decide) (fun c_257 => ?_) (fun c_257 => ?_)
  · refine go_iincN (c := 6) (pc := 1152) dL_law_1152 rfl (by decide) (by decide) rfl ?_
    refine go_goto (tgt := 18) (pc := 1155) dL_law_1155 (by decide) ?_
    exact ih s2 _ _ _ _ _ _ _ _ _ _ _ _ hC2 hM2 (hW)
  · exact absurd rfl c_257
set_option maxHeartbeats 4000000 in
set_option maxRecDepth 100000 in
theorem lc_copy {X : py_X} {i : Nat} {σ : py_H} {R : py_Rt} {q : Int32} {B : Nat → Nat} {N : Nat} {ft : Int32} {H : Nat → Nat} {n : Nat} {As : Nat → Nat → Nat} {I0 I1 : Option (Nat → Nat)} {t : Nat} {tr : Nat → Int32} (hX : X.1 ≤ 3072) (hi : i + 6 ≤ X.1) (ih : py_LN X (i + 6)) (hC : py_IC σ R q B N ft H n As I0 I1 t tr) (hM : py_IM σ R q B N ft H n As I0 I1 t tr) (hW : py_IW H n As I0 I1 t) : py_Go X RL cL_law 4 10 262 [some (.ref 65), some (.ref 0), some (.ref 47), some (.int (nI i))] [] σ (py_vs (some (.int (nI 1))) (fun _ => True)) := by
  refine go_aload_n (pc := 262) dL_law_262 rfl ?_
  refine go_aload_n (pc := 263) dL_law_263 rfl ?_
  refine go_iload_n (pc := 264) dL_law_264 rfl ?_
  refine go_iconst (v := nI 1) (pc := 265) dL_law_265 (by decide) ?_
  refine go_iaddN (pc := 266) dL_law_266  ?_
  refine go_sldN (pc := 267) dL_law_267 (by omega) (by omega) ?_
  refine go_aload_n (pc := 268) dL_law_268 rfl ?_
  refine go_iload_n (pc := 269) dL_law_269 rfl ?_
  refine go_iconst (v := nI 2) (pc := 270) dL_law_270 (by decide) ?_
  refine go_iaddN (pc := 271) dL_law_271  ?_
  refine go_sldN (pc := 272) dL_law_272 (by omega) (by omega) ?_
  refine go_aload_n (pc := 273) dL_law_273 rfl ?_
  refine go_iload_n (pc := 274) dL_law_274 rfl ?_
  refine go_iconst (v := nI 3) (pc := 275) dL_law_275 (by decide) ?_
  refine go_iaddN (pc := 276) dL_law_276  ?_
  refine go_sldN (pc := 277) dL_law_277 (by omega) (by omega) ?_
  refine go_aload_n (pc := 278) dL_law_278 rfl ?_
  refine go_iload_n (pc := 279) dL_law_279 rfl ?_
  refine go_iconst (v := nI 4) (pc := 280) dL_law_280 (by decide) ?_
  refine go_iaddN (pc := 281) dL_law_281  ?_
  refine go_sldN (pc := 282) dL_law_282 (by omega) (by omega) ?_
  refine go_aload_n (pc := 283) dL_law_283 rfl ?_
  refine go_iload_n (pc := 284) dL_law_284 rfl ?_
  refine go_iconst (v := nI 5) (pc := 285) dL_law_285 (by decide) ?_
  refine go_iaddN (pc := 286) dL_law_286  ?_
  refine go_sldN (pc := 287) dL_law_287 (by omega) (by omega) ?_
  refine go_cVi (pc := 288) dL_law_288 (cl_copy hC hW) lL_22 YX7_copy VX7_copy rfl rfl rfl (by decide) rfl (Nat.le_of_ble_eq_true rfl) (fun s1 h1 => ?_)
  obtain ⟨hC1, hf1⟩ := h1
  have hM1 := py_IM_fr hf1 hM
  refine go_aload_n (pc := 291) dL_law_291 rfl ?_
  refine go_aload_n (pc := 292) dL_law_292 rfl ?_
  refine go_iload_n (pc := 293) dL_law_293 rfl ?_
  refine go_iconst (v := nI 1) (pc := 294) dL_law_294 (by decide) ?_
  refine go_iaddN (pc := 295) dL_law_295  ?_
  refine go_sldN (pc := 296) dL_law_296 (by omega) (by omega) ?_
  refine go_aload_n (pc := 297) dL_law_297 rfl ?_
  refine go_iload_n (pc := 298) dL_law_298 rfl ?_
  refine go_iconst (v := nI 2) (pc := 299) dL_law_299 (by decide) ?_
  refine go_iaddN (pc := 300) dL_law_300  ?_
  refine go_sldN (pc := 301) dL_law_301 (by omega) (by omega) ?_
  refine go_aload_n (pc := 302) dL_law_302 rfl ?_
  refine go_iload_n (pc := 303) dL_law_303 rfl ?_
  refine go_iconst (v := nI 3) (pc := 304) dL_law_304 (by decide) ?_
  refine go_iaddN (pc := 305) dL_law_305  ?_
  refine go_sldN (pc := 306) dL_law_306 (by omega) (by omega) ?_
  refine go_aload_n (pc := 307) dL_law_307 rfl ?_
  refine go_iload_n (pc := 308) dL_law_308 rfl ?_
  refine go_iconst (v := nI 4) (pc := 309) dL_law_309 (by decide) ?_
  refine go_iaddN (pc := 310) dL_law_310  ?_
  refine go_sldN (pc := 311) dL_law_311 (by omega) (by omega) ?_
  refine go_aload_n (pc := 312) dL_law_312 rfl ?_
  refine go_iload_n (pc := 313) dL_law_313 rfl ?_
  refine go_iconst (v := nI 5) (pc := 314) dL_law_314 (by decide) ?_
  refine go_iaddN (pc := 315) dL_law_315  ?_
  refine go_sldN (pc := 316) dL_law_316 (by omega) (by omega) ?_
  refine go_cVi (pc := 317) dL_law_317 (mo_copy hM1 hW) lL_26 YX8_copy VX8_copy rfl rfl rfl (by decide) rfl (Nat.le_of_ble_eq_true rfl) (fun s2 h2 => ?_)
  obtain ⟨hM2, hf2⟩ := h2
  have hC2 := py_IC_fr hf2 hC1
  refine go_icmp_eq (tgt := 1152) (pc := 320) dL_law_320 (by decide) (fun c_320 => ?_) (fun c_320 => ?_)
  · refine go_iincN (c := 6) (pc := 1152) dL_law_1152 rfl (by decide) (by decide) rfl ?_
    refine go_goto (tgt := 18) (pc := 1155) dL_law_1155 (by decide) ?_
    exact ih s2 _ _ _ _ _ _ _ _ _ _ _ _ hC2 hM2 (hW)
  · exact absurd rfl c_320
set_option maxHeartbeats 4000000 in
set_option maxRecDepth 100000 in
theorem lc_drop {X : py_X} {i : Nat} {σ : py_H} {R : py_Rt} {q : Int32} {B : Nat → Nat} {N : Nat} {ft : Int32} {H : Nat → Nat} {n : Nat} {As : Nat → Nat → Nat} {I0 I1 : Option (Nat → Nat)} {t : Nat} {tr : Nat → Int32} (hX : X.1 ≤ 3072) (hi : i + 6 ≤ X.1) (ih : py_LN X (i + 6)) (hC : py_IC σ R q B N ft H n As I0 I1 t tr) (hM : py_IM σ R q B N ft H n As I0 I1 t tr) (hW : py_IW H n As I0 I1 t) : py_Go X RL cL_law 4 10 325 [some (.ref 65), some (.ref 0), some (.ref 47), some (.int (nI i))] [] σ (py_vs (some (.int (nI 1))) (fun _ => True)) := by
  refine go_aload_n (pc := 325) dL_law_325 rfl ?_
  refine go_aload_n (pc := 326) dL_law_326 rfl ?_
  refine go_iload_n (pc := 327) dL_law_327 rfl ?_
  refine go_iconst (v := nI 1) (pc := 328) dL_law_328 (by decide) ?_
  refine go_iaddN (pc := 329) dL_law_329  ?_
  refine go_sldN (pc := 330) dL_law_330 (by omega) (by omega) ?_
  refine go_cVi (pc := 331) dL_law_331 (cl_drop hC hW) lL_27 YX7_drop VX7_drop rfl rfl rfl (by decide) rfl (Nat.le_of_ble_eq_true rfl) (fun s1 h1 => ?_)
  obtain ⟨hC1, hf1⟩ := h1
  have hM1 := py_IM_fr hf1 hM
  refine go_aload_n (pc := 334) dL_law_334 rfl ?_
  refine go_aload_n (pc := 335) dL_law_335 rfl ?_
  refine go_iload_n (pc := 336) dL_law_336 rfl ?_
  refine go_iconst (v := nI 1) (pc := 337) dL_law_337 (by decide) ?_
  refine go_iaddN (pc := 338) dL_law_338  ?_
  refine go_sldN (pc := 339) dL_law_339 (by omega) (by omega) ?_
  refine go_cVi (pc := 340) dL_law_340 (mo_drop hM1 hW) lL_31 YX8_drop VX8_drop rfl rfl rfl (by decide) rfl (Nat.le_of_ble_eq_true rfl) (fun s2 h2 => ?_)
  obtain ⟨hM2, hf2⟩ := h2
  have hC2 := py_IC_fr hf2 hC1
  refine go_icmp_eq (tgt := 1152) (pc := 343) dL_law_343 (by decide) (fun c_343 => ?_) (fun c_343 => ?_)
  · refine go_iincN (c := 6) (pc := 1152) dL_law_1152 rfl (by decide) (by decide) rfl ?_
    refine go_goto (tgt := 18) (pc := 1155) dL_law_1155 (by decide) ?_
    exact ih s2 _ _ _ _ _ _ _ _ _ _ _ _ hC2 hM2 (hW)
  · exact absurd rfl c_343
set_option maxHeartbeats 4000000 in
set_option maxRecDepth 100000 in
theorem lc_feed {X : py_X} {i : Nat} {σ : py_H} {R : py_Rt} {q : Int32} {B : Nat → Nat} {N : Nat} {ft : Int32} {H : Nat → Nat} {n : Nat} {As : Nat → Nat → Nat} {I0 I1 : Option (Nat → Nat)} {t : Nat} {tr : Nat → Int32} (hX : X.1 ≤ 3072) (hi : i + 6 ≤ X.1) (ih : py_LN X (i + 6)) (hC : py_IC σ R q B N ft H n As I0 I1 t tr) (hM : py_IM σ R q B N ft H n As I0 I1 t tr) (hW : py_IW H n As I0 I1 t) : py_Go X RL cL_law 4 10 348 [some (.ref 65), some (.ref 0), some (.ref 47), some (.int (nI i))] [] σ (py_vs (some (.int (nI 1))) (fun _ => True)) := by
  refine go_aload_n (pc := 348) dL_law_348 rfl ?_
  refine go_aload_n (pc := 349) dL_law_349 rfl ?_
  refine go_iload_n (pc := 350) dL_law_350 rfl ?_
  refine go_iconst (v := nI 1) (pc := 351) dL_law_351 (by decide) ?_
  refine go_iaddN (pc := 352) dL_law_352  ?_
  refine go_sldN (pc := 353) dL_law_353 (by omega) (by omega) ?_
  refine go_cVi (pc := 354) dL_law_354 (cl_feed hC hW) lL_32 YX7_feed VX7_feed rfl rfl rfl (by decide) rfl (Nat.le_of_ble_eq_true rfl) (fun s1 h1 => ?_)
  obtain ⟨hC1, hf1⟩ := h1
  have hM1 := py_IM_fr hf1 hM
  refine go_aload_n (pc := 357) dL_law_357 rfl ?_
  refine go_aload_n (pc := 358) dL_law_358 rfl ?_
  refine go_iload_n (pc := 359) dL_law_359 rfl ?_
  refine go_iconst (v := nI 1) (pc := 360) dL_law_360 (by decide) ?_
  refine go_iaddN (pc := 361) dL_law_361  ?_
  refine go_sldN (pc := 362) dL_law_362 (by omega) (by omega) ?_
  refine go_cVi (pc := 363) dL_law_363 (mo_feed hM1 hW) lL_35 YX8_feed VX8_feed rfl rfl rfl (by decide) rfl (Nat.le_of_ble_eq_true rfl) (fun s2 h2 => ?_)
  obtain ⟨hM2, hf2⟩ := h2
  have hC2 := py_IC_fr hf2 hC1
  refine go_icmp_eq (tgt := 1152) (pc := 366) dL_law_366 (by decide) (fun c_366 => ?_) (fun c_366 => ?_)
  · refine go_iincN (c := 6) (pc := 1152) dL_law_1152 rfl (by decide) (by decide) rfl ?_
    refine go_goto (tgt := 18) (pc := 1155) dL_law_1155 (by decide) ?_
    exact ih s2 _ _ _ _ _ _ _ _ _ _ _ _ hC2 hM2 (hW)
  · exact absurd rfl c_366
set_option maxHeartbeats 4000000 in
set_option maxRecDepth 100000 in
theorem lc_house {X : py_X} {i : Nat} {σ : py_H} {R : py_Rt} {q : Int32} {B : Nat → Nat} {N : Nat} {ft : Int32} {H : Nat → Nat} {n : Nat} {As : Nat → Nat → Nat} {I0 I1 : Option (Nat → Nat)} {t : Nat} {tr : Nat → Int32} (hX : X.1 ≤ 3072) (hi : i + 6 ≤ X.1) (ih : py_LN X (i + 6)) (hC : py_IC σ R q B N ft H n As I0 I1 t tr) (hM : py_IM σ R q B N ft H n As I0 I1 t tr) (hW : py_IW H n As I0 I1 t) : py_Go X RL cL_law 4 10 371 [some (.ref 65), some (.ref 0), some (.ref 47), some (.int (nI i))] [] σ (py_vs (some (.int (nI 1))) (fun _ => True)) := by
  refine go_aload_n (pc := 371) dL_law_371 rfl ?_
  refine go_cVi (pc := 372) dL_law_372 (cl_house hC hW) lL_36 YX7_house VX7_house rfl rfl rfl (by decide) rfl (Nat.le_of_ble_eq_true rfl) (fun s1 h1 => ?_)
  obtain ⟨hC1, hf1⟩ := h1
  have hM1 := py_IM_fr hf1 hM
  refine go_aload_n (pc := 375) dL_law_375 rfl ?_
  refine go_cVi (pc := 376) dL_law_376 (mo_house hM1 hW) lL_40 YX8_house VX8_house rfl rfl rfl (by decide) rfl (Nat.le_of_ble_eq_true rfl) (fun s2 h2 => ?_)
  obtain ⟨hM2, hf2⟩ := h2
  have hC2 := py_IC_fr hf2 hC1
  refine go_icmp_eq (tgt := 1152) (pc := 379) dL_law_379 (by decide) (fun c_379 => ?_) (fun c_379 => ?_)
  · refine go_iincN (c := 6) (pc := 1152) dL_law_1152 rfl (by decide) (by decide) rfl ?_
    refine go_goto (tgt := 18) (pc := 1155) dL_law_1155 (by decide) ?_
    exact ih s2 _ _ _ _ _ _ _ _ _ _ _ _ hC2 hM2 (iw_house hC.2.2.1.2.1 hW)
  · exact absurd rfl c_379
set_option maxHeartbeats 4000000 in
set_option maxRecDepth 100000 in
theorem lc_fault {X : py_X} {i : Nat} {σ : py_H} {R : py_Rt} {q : Int32} {B : Nat → Nat} {N : Nat} {ft : Int32} {H : Nat → Nat} {n : Nat} {As : Nat → Nat → Nat} {I0 I1 : Option (Nat → Nat)} {t : Nat} {tr : Nat → Int32} (hX : X.1 ≤ 3072) (hi : i + 6 ≤ X.1) (ih : py_LN X (i + 6)) (hC : py_IC σ R q B N ft H n As I0 I1 t tr) (hM : py_IM σ R q B N ft H n As I0 I1 t tr) (hW : py_IW H n As I0 I1 t) : py_Go X RL cL_law 4 10 384 [some (.ref 65), some (.ref 0), some (.ref 47), some (.int (nI i))] [] σ (py_vs (some (.int (nI 1))) (fun _ => True)) := by
  refine go_aload_n (pc := 384) dL_law_384 rfl ?_
  refine go_cVi (pc := 385) dL_law_385 (cl_fault hC hW) lL_41 YX7_fault VX7_fault rfl rfl rfl (by decide) rfl (Nat.le_of_ble_eq_true rfl) (fun s1 h1 => ?_)
  obtain ⟨hC1, hf1⟩ := h1
  have hM1 := py_IM_fr hf1 hM
  refine go_aload_n (pc := 388) dL_law_388 rfl ?_
  refine go_cVi (pc := 389) dL_law_389 (mo_fault hM1 hW) lL_44 YX8_fault VX8_fault rfl rfl rfl (by decide) rfl (Nat.le_of_ble_eq_true rfl) (fun s2 h2 => ?_)
  obtain ⟨hM2, hf2⟩ := h2
  have hC2 := py_IC_fr hf2 hC1
  refine go_icmp_eq (tgt := 1152) (pc := 392) dL_law_392 (by decide) (fun c_392 => ?_) (fun c_392 => ?_)
  · refine go_iincN (c := 6) (pc := 1152) dL_law_1152 rfl (by decide) (by decide) rfl ?_
    refine go_goto (tgt := 18) (pc := 1155) dL_law_1155 (by decide) ?_
    exact ih s2 _ _ _ _ _ _ _ _ _ _ _ _ hC2 hM2 (hW)
  · exact absurd rfl c_392
set_option maxHeartbeats 4000000 in
set_option maxRecDepth 100000 in
theorem lc_years {X : py_X} {i : Nat} {σ : py_H} {R : py_Rt} {q : Int32} {B : Nat → Nat} {N : Nat} {ft : Int32} {H : Nat → Nat} {n : Nat} {As : Nat → Nat → Nat} {I0 I1 : Option (Nat → Nat)} {t : Nat} {tr : Nat → Int32} (hX : X.1 ≤ 3072) (hi : i + 6 ≤ X.1) (ih : py_LN X (i + 6)) (hC : py_IC σ R q B N ft H n As I0 I1 t tr) (hM : py_IM σ R q B N ft H n As I0 I1 t tr) (hW : py_IW H n As I0 I1 t) : py_Go X RL cL_law 4 10 397 [some (.ref 65), some (.ref 0), some (.ref 47), some (.int (nI i))] [] σ (py_vs (some (.int (nI 1))) (fun _ => True)) := by
  refine go_aload_n (pc := 397) dL_law_397 rfl ?_
  refine go_aload_n (pc := 398) dL_law_398 rfl ?_
  refine go_iload_n (pc := 399) dL_law_399 rfl ?_
  refine go_iconst (v := nI 1) (pc := 400) dL_law_400 (by decide) ?_
  refine go_iaddN (pc := 401) dL_law_401  ?_
  refine go_sldN (pc := 402) dL_law_402 (by omega) (by omega) ?_
  refine go_cVi (pc := 403) dL_law_403 (cl_years hC hW) lL_45 YX7_years VX7_years rfl rfl rfl (by decide) rfl (Nat.le_of_ble_eq_true rfl) (fun s1 h1 => ?_)
  obtain ⟨hC1, hf1⟩ := h1
  have hM1 := py_IM_fr hf1 hM
  refine go_aload_n (pc := 406) dL_law_406 rfl ?_
  refine go_aload_n (pc := 407) dL_law_407 rfl ?_
  refine go_iload_n (pc := 408) dL_law_408 rfl ?_
  refine go_iconst (v := nI 1) (pc := 409) dL_law_409 (by decide) ?_
  refine go_iaddN (pc := 410) dL_law_410  ?_
  refine go_sldN (pc := 411) dL_law_411 (by omega) (by omega) ?_
  refine go_cVi (pc := 412) dL_law_412 (mo_years hM1 hW) lL_48 YX8_years VX8_years rfl rfl rfl (by decide) rfl (Nat.le_of_ble_eq_true rfl) (fun s2 h2 => ?_)
  obtain ⟨hM2, hf2⟩ := h2
  have hC2 := py_IC_fr hf2 hC1
  refine go_icmp_eq (tgt := 1152) (pc := 415) dL_law_415 (by decide) (fun c_415 => ?_) (fun c_415 => ?_)
  · refine go_iincN (c := 6) (pc := 1152) dL_law_1152 rfl (by decide) (by decide) rfl ?_
    refine go_goto (tgt := 18) (pc := 1155) dL_law_1155 (by decide) ?_
    exact ih s2 _ _ _ _ _ _ _ _ _ _ _ _ hC2 hM2 (iw_years hW _)
  · exact absurd rfl c_415
set_option maxHeartbeats 4000000 in
set_option maxRecDepth 100000 in
theorem lc_deed {X : py_X} {i : Nat} {σ : py_H} {R : py_Rt} {q : Int32} {B : Nat → Nat} {N : Nat} {ft : Int32} {H : Nat → Nat} {n : Nat} {As : Nat → Nat → Nat} {I0 I1 : Option (Nat → Nat)} {t : Nat} {tr : Nat → Int32} (hX : X.1 ≤ 3072) (hi : i + 6 ≤ X.1) (ih : py_LN X (i + 6)) (hC : py_IC σ R q B N ft H n As I0 I1 t tr) (hM : py_IM σ R q B N ft H n As I0 I1 t tr) (hW : py_IW H n As I0 I1 t) : py_Go X RL cL_law 4 10 420 [some (.ref 65), some (.ref 0), some (.ref 47), some (.int (nI i))] [] σ (py_vs (some (.int (nI 1))) (fun _ => True)) := by
  refine go_aload_n (pc := 420) dL_law_420 rfl ?_
  refine go_aload_n (pc := 421) dL_law_421 rfl ?_
  refine go_iload_n (pc := 422) dL_law_422 rfl ?_
  refine go_iconst (v := nI 1) (pc := 423) dL_law_423 (by decide) ?_
  refine go_iaddN (pc := 424) dL_law_424  ?_
  refine go_sldN (pc := 425) dL_law_425 (by omega) (by omega) ?_
  refine go_aload_n (pc := 426) dL_law_426 rfl ?_
  refine go_iload_n (pc := 427) dL_law_427 rfl ?_
  refine go_iconst (v := nI 2) (pc := 428) dL_law_428 (by decide) ?_
  refine go_iaddN (pc := 429) dL_law_429  ?_
  refine go_sldN (pc := 430) dL_law_430 (by omega) (by omega) ?_
  refine go_cVi (pc := 431) dL_law_431 (cl_deed hC hW) lL_49 YX7_deed VX7_deed rfl rfl rfl (by decide) rfl (Nat.le_of_ble_eq_true rfl) (fun s1 h1 => ?_)
  obtain ⟨hC1, hf1⟩ := h1
  have hM1 := py_IM_fr hf1 hM
  refine go_aload_n (pc := 434) dL_law_434 rfl ?_
  refine go_aload_n (pc := 435) dL_law_435 rfl ?_
  refine go_iload_n (pc := 436) dL_law_436 rfl ?_
  refine go_iconst (v := nI 1) (pc := 437) dL_law_437 (by decide) ?_
  refine go_iaddN (pc := 438) dL_law_438  ?_
  refine go_sldN (pc := 439) dL_law_439 (by omega) (by omega) ?_
  refine go_aload_n (pc := 440) dL_law_440 rfl ?_
  refine go_iload_n (pc := 441) dL_law_441 rfl ?_
  refine go_iconst (v := nI 2) (pc := 442) dL_law_442 (by decide) ?_
  refine go_iaddN (pc := 443) dL_law_443  ?_
  refine go_sldN (pc := 444) dL_law_444 (by omega) (by omega) ?_
  refine go_cVi (pc := 445) dL_law_445 (mo_deed hM1 hW) lL_53 YX8_deed VX8_deed rfl rfl rfl (by decide) rfl (Nat.le_of_ble_eq_true rfl) (fun s2 h2 => ?_)
  obtain ⟨hM2, hf2⟩ := h2
  have hC2 := py_IC_fr hf2 hC1
  refine go_icmp_eq (tgt := 1152) (pc := 448) dL_law_448 (by decide) (fun c_448 => ?_) (fun c_448 => ?_)
  · refine go_iincN (c := 6) (pc := 1152) dL_law_1152 rfl (by decide) (by decide) rfl ?_
    refine go_goto (tgt := 18) (pc := 1155) dL_law_1155 (by decide) ?_
    exact ih s2 _ _ _ _ _ _ _ _ _ _ _ _ hC2 hM2 (iw_deed hW _ _)
  · exact absurd rfl c_448
set_option maxHeartbeats 4000000 in
set_option maxRecDepth 100000 in
theorem lc_restore {X : py_X} {i : Nat} {σ : py_H} {R : py_Rt} {q : Int32} {B : Nat → Nat} {N : Nat} {ft : Int32} {H : Nat → Nat} {n : Nat} {As : Nat → Nat → Nat} {I0 I1 : Option (Nat → Nat)} {t : Nat} {tr : Nat → Int32} (hX : X.1 ≤ 3072) (hi : i + 6 ≤ X.1) (ih : py_LN X (i + 6)) (hC : py_IC σ R q B N ft H n As I0 I1 t tr) (hM : py_IM σ R q B N ft H n As I0 I1 t tr) (hW : py_IW H n As I0 I1 t) : py_Go X RL cL_law 4 10 453 [some (.ref 65), some (.ref 0), some (.ref 47), some (.int (nI i))] [] σ (py_vs (some (.int (nI 1))) (fun _ => True)) := by
  refine go_aload_n (pc := 453) dL_law_453 rfl ?_
  refine go_aload_n (pc := 454) dL_law_454 rfl ?_
  refine go_iload_n (pc := 455) dL_law_455 rfl ?_
  refine go_iconst (v := nI 1) (pc := 456) dL_law_456 (by decide) ?_
  refine go_iaddN (pc := 457) dL_law_457  ?_
  refine go_sldN (pc := 458) dL_law_458 (by omega) (by omega) ?_
  refine go_aload_n (pc := 459) dL_law_459 rfl ?_
  refine go_iload_n (pc := 460) dL_law_460 rfl ?_
  refine go_iconst (v := nI 2) (pc := 461) dL_law_461 (by decide) ?_
  refine go_iaddN (pc := 462) dL_law_462  ?_
  refine go_sldN (pc := 463) dL_law_463 (by omega) (by omega) ?_
  refine go_cVi (pc := 464) dL_law_464 (cl_restore hC hW) lL_54 YX7_restore VX7_restore rfl rfl rfl (by decide) rfl (Nat.le_of_ble_eq_true rfl) (fun s1 h1 => ?_)
  obtain ⟨hC1, hf1⟩ := h1
  have hM1 := py_IM_fr hf1 hM
  refine go_aload_n (pc := 467) dL_law_467 rfl ?_
  refine go_aload_n (pc := 468) dL_law_468 rfl ?_
  refine go_iload_n (pc := 469) dL_law_469 rfl ?_
  refine go_iconst (v := nI 1) (pc := 470) dL_law_470 (by decide) ?_
  refine go_iaddN (pc := 471) dL_law_471  ?_
  refine go_sldN (pc := 472) dL_law_472 (by omega) (by omega) ?_
  refine go_aload_n (pc := 473) dL_law_473 rfl ?_
  refine go_iload_n (pc := 474) dL_law_474 rfl ?_
  refine go_iconst (v := nI 2) (pc := 475) dL_law_475 (by decide) ?_
  refine go_iaddN (pc := 476) dL_law_476  ?_
  refine go_sldN (pc := 477) dL_law_477 (by omega) (by omega) ?_
  refine go_cVi (pc := 478) dL_law_478 (mo_restore hM1 hW) lL_57 YX8_restore VX8_restore rfl rfl rfl (by decide) rfl (Nat.le_of_ble_eq_true rfl) (fun s2 h2 => ?_)
  obtain ⟨hM2, hf2⟩ := h2
  have hC2 := py_IC_fr hf2 hC1
  refine go_icmp_eq (tgt := 1152) (pc := 481) dL_law_481 (by decide) (fun c_481 => ?_) (fun c_481 => ?_)
  · refine go_iincN (c := 6) (pc := 1152) dL_law_1152 rfl (by decide) (by decide) rfl ?_
    refine go_goto (tgt := 18) (pc := 1155) dL_law_1155 (by decide) ?_
    exact ih s2 _ _ _ _ _ _ _ _ _ _ _ _ hC2 hM2 (iw_restore hW _ _)
  · exact absurd rfl c_481
set_option maxHeartbeats 4000000 in
set_option maxRecDepth 100000 in
theorem lc_hang {X : py_X} {i : Nat} {σ : py_H} {R : py_Rt} {q : Int32} {B : Nat → Nat} {N : Nat} {ft : Int32} {H : Nat → Nat} {n : Nat} {As : Nat → Nat → Nat} {I0 I1 : Option (Nat → Nat)} {t : Nat} {tr : Nat → Int32} (hX : X.1 ≤ 3072) (hi : i + 6 ≤ X.1) (ih : py_LN X (i + 6)) (hC : py_IC σ R q B N ft H n As I0 I1 t tr) (hM : py_IM σ R q B N ft H n As I0 I1 t tr) (hW : py_IW H n As I0 I1 t) : py_Go X RL cL_law 4 10 486 [some (.ref 65), some (.ref 0), some (.ref 47), some (.int (nI i))] [] σ (py_vs (some (.int (nI 1))) (fun _ => True)) := by
  refine go_aload_n (pc := 486) dL_law_486 rfl ?_
  refine go_aload_n (pc := 487) dL_law_487 rfl ?_
  refine go_iload_n (pc := 488) dL_law_488 rfl ?_
  refine go_iconst (v := nI 1) (pc := 489) dL_law_489 (by decide) ?_
  refine go_iaddN (pc := 490) dL_law_490  ?_
  refine go_sldN (pc := 491) dL_law_491 (by omega) (by omega) ?_
  refine go_aload_n (pc := 492) dL_law_492 rfl ?_
  refine go_iload_n (pc := 493) dL_law_493 rfl ?_
  refine go_iconst (v := nI 2) (pc := 494) dL_law_494 (by decide) ?_
  refine go_iaddN (pc := 495) dL_law_495  ?_
  refine go_sldN (pc := 496) dL_law_496 (by omega) (by omega) ?_
  refine go_cVi (pc := 497) dL_law_497 (cl_hang hC hW) lL_58 YX7_hang VX7_hang rfl rfl rfl (by decide) rfl (Nat.le_of_ble_eq_true rfl) (fun s1 h1 => ?_)
  obtain ⟨hC1, hf1⟩ := h1
  have hM1 := py_IM_fr hf1 hM
  refine go_aload_n (pc := 500) dL_law_500 rfl ?_
  refine go_aload_n (pc := 501) dL_law_501 rfl ?_
  refine go_iload_n (pc := 502) dL_law_502 rfl ?_
  refine go_iconst (v := nI 1) (pc := 503) dL_law_503 (by decide) ?_
  refine go_iaddN (pc := 504) dL_law_504  ?_
  refine go_sldN (pc := 505) dL_law_505 (by omega) (by omega) ?_
  refine go_aload_n (pc := 506) dL_law_506 rfl ?_
  refine go_iload_n (pc := 507) dL_law_507 rfl ?_
  refine go_iconst (v := nI 2) (pc := 508) dL_law_508 (by decide) ?_
  refine go_iaddN (pc := 509) dL_law_509  ?_
  refine go_sldN (pc := 510) dL_law_510 (by omega) (by omega) ?_
  refine go_cVi (pc := 511) dL_law_511 (mo_hang hM1 hW) lL_61 YX8_hang VX8_hang rfl rfl rfl (by decide) rfl (Nat.le_of_ble_eq_true rfl) (fun s2 h2 => ?_)
  obtain ⟨hM2, hf2⟩ := h2
  have hC2 := py_IC_fr hf2 hC1
  refine go_icmp_eq (tgt := 1152) (pc := 514) dL_law_514 (by decide) (fun c_514 => ?_) (fun c_514 => ?_)
  · refine go_iincN (c := 6) (pc := 1152) dL_law_1152 rfl (by decide) (by decide) rfl ?_
    refine go_goto (tgt := 18) (pc := 1155) dL_law_1155 (by decide) ?_
    exact ih s2 _ _ _ _ _ _ _ _ _ _ _ _ hC2 hM2 (iw_hang hW _ _)
  · exact absurd rfl c_514
set_option maxHeartbeats 4000000 in
set_option maxRecDepth 100000 in
theorem lc_undo {X : py_X} {i : Nat} {σ : py_H} {R : py_Rt} {q : Int32} {B : Nat → Nat} {N : Nat} {ft : Int32} {H : Nat → Nat} {n : Nat} {As : Nat → Nat → Nat} {I0 I1 : Option (Nat → Nat)} {t : Nat} {tr : Nat → Int32} (hX : X.1 ≤ 3072) (hi : i + 6 ≤ X.1) (ih : py_LN X (i + 6)) (hC : py_IC σ R q B N ft H n As I0 I1 t tr) (hM : py_IM σ R q B N ft H n As I0 I1 t tr) (hW : py_IW H n As I0 I1 t) : py_Go X RL cL_law 4 10 519 [some (.ref 65), some (.ref 0), some (.ref 47), some (.int (nI i))] [] σ (py_vs (some (.int (nI 1))) (fun _ => True)) := by
  refine go_aload_n (pc := 519) dL_law_519 rfl ?_
  refine go_cVi (pc := 520) dL_law_520 (cl_undo hC hW) lL_62 YX7_undo VX7_undo rfl rfl rfl (by decide) rfl (Nat.le_of_ble_eq_true rfl) (fun s1 h1 => ?_)
  obtain ⟨hC1, hf1⟩ := h1
  have hM1 := py_IM_fr hf1 hM
  refine go_aload_n (pc := 523) dL_law_523 rfl ?_
  refine go_cVi (pc := 524) dL_law_524 (mo_undo hM1 hW) lL_65 YX8_undo VX8_undo rfl rfl rfl (by decide) rfl (Nat.le_of_ble_eq_true rfl) (fun s2 h2 => ?_)
  obtain ⟨hM2, hf2⟩ := h2
  have hC2 := py_IC_fr hf2 hC1
  refine go_icmp_eq (tgt := 1152) (pc := 527) dL_law_527 (by decide) (fun c_527 => ?_) (fun c_527 => ?_)
  · refine go_iincN (c := 6) (pc := 1152) dL_law_1152 rfl (by decide) (by decide) rfl ?_
    refine go_goto (tgt := 18) (pc := 1155) dL_law_1155 (by decide) ?_
    exact ih s2 _ _ _ _ _ _ _ _ _ _ _ _ hC2 hM2 (iw_undo hW)
  · exact absurd rfl c_527
set_option maxHeartbeats 4000000 in
set_option maxRecDepth 100000 in
theorem lc_picture {X : py_X} {i : Nat} {σ : py_H} {R : py_Rt} {q : Int32} {B : Nat → Nat} {N : Nat} {ft : Int32} {H : Nat → Nat} {n : Nat} {As : Nat → Nat → Nat} {I0 I1 : Option (Nat → Nat)} {t : Nat} {tr : Nat → Int32} (hX : X.1 ≤ 3072) (hi : i + 6 ≤ X.1) (ih : py_LN X (i + 6)) (hC : py_IC σ R q B N ft H n As I0 I1 t tr) (hM : py_IM σ R q B N ft H n As I0 I1 t tr) (hW : py_IW H n As I0 I1 t) : py_Go X RL cL_law 4 10 532 [some (.ref 65), some (.ref 0), some (.ref 47), some (.int (nI i))] [] σ (py_vs (some (.int (nI 1))) (fun _ => True)) := by
  refine go_aload_n (pc := 532) dL_law_532 rfl ?_
  refine go_aload_n (pc := 533) dL_law_533 rfl ?_
  refine go_iload_n (pc := 534) dL_law_534 rfl ?_
  refine go_iconst (v := nI 1) (pc := 535) dL_law_535 (by decide) ?_
  refine go_iaddN (pc := 536) dL_law_536  ?_
  refine go_sldN (pc := 537) dL_law_537 (by omega) (by omega) ?_
  refine go_aload_n (pc := 538) dL_law_538 rfl ?_
  refine go_iload_n (pc := 539) dL_law_539 rfl ?_
  refine go_iconst (v := nI 2) (pc := 540) dL_law_540 (by decide) ?_
  refine go_iaddN (pc := 541) dL_law_541  ?_
  refine go_sldN (pc := 542) dL_law_542 (by omega) (by omega) ?_
  refine go_cVi (pc := 543) dL_law_543 (cl_picture hC hW) lL_66 YX7_picture VX7_picture rfl rfl rfl (by decide) rfl (Nat.le_of_ble_eq_true rfl) (fun s1 h1 => ?_)
  obtain ⟨hC1, hf1⟩ := h1
  have hM1 := py_IM_fr hf1 hM
  refine go_aload_n (pc := 546) dL_law_546 rfl ?_
  refine go_aload_n (pc := 547) dL_law_547 rfl ?_
  refine go_iload_n (pc := 548) dL_law_548 rfl ?_
  refine go_iconst (v := nI 1) (pc := 549) dL_law_549 (by decide) ?_
  refine go_iaddN (pc := 550) dL_law_550  ?_
  refine go_sldN (pc := 551) dL_law_551 (by omega) (by omega) ?_
  refine go_aload_n (pc := 552) dL_law_552 rfl ?_
  refine go_iload_n (pc := 553) dL_law_553 rfl ?_
  refine go_iconst (v := nI 2) (pc := 554) dL_law_554 (by decide) ?_
  refine go_iaddN (pc := 555) dL_law_555  ?_
  refine go_sldN (pc := 556) dL_law_556 (by omega) (by omega) ?_
  refine go_cVi (pc := 557) dL_law_557 (mo_picture hM1 hW) lL_69 YX8_picture VX8_picture rfl rfl rfl (by decide) rfl (Nat.le_of_ble_eq_true rfl) (fun s2 h2 => ?_)
  obtain ⟨hM2, hf2⟩ := h2
  have hC2 := py_IC_fr hf2 hC1
  refine go_icmp_eq (tgt := 1152) (pc := 560) dL_law_560 (by decide) (fun c_560 => ?_) (fun c_560 => ?_)
  · refine go_iincN (c := 6) (pc := 1152) dL_law_1152 rfl (by decide) (by decide) rfl ?_
    refine go_goto (tgt := 18) (pc := 1155) dL_law_1155 (by decide) ?_
    exact ih s2 _ _ _ _ _ _ _ _ _ _ _ _ hC2 hM2 (hW)
  · exact absurd rfl c_560
set_option maxHeartbeats 4000000 in
set_option maxRecDepth 100000 in
theorem lc_wall {X : py_X} {i : Nat} {σ : py_H} {R : py_Rt} {q : Int32} {B : Nat → Nat} {N : Nat} {ft : Int32} {H : Nat → Nat} {n : Nat} {As : Nat → Nat → Nat} {I0 I1 : Option (Nat → Nat)} {t : Nat} {tr : Nat → Int32} (hX : X.1 ≤ 3072) (hi : i + 6 ≤ X.1) (ih : py_LN X (i + 6)) (hC : py_IC σ R q B N ft H n As I0 I1 t tr) (hM : py_IM σ R q B N ft H n As I0 I1 t tr) (hW : py_IW H n As I0 I1 t) : py_Go X RL cL_law 4 10 565 [some (.ref 65), some (.ref 0), some (.ref 47), some (.int (nI i))] [] σ (py_vs (some (.int (nI 1))) (fun _ => True)) := by
  refine go_aload_n (pc := 565) dL_law_565 rfl ?_
  refine go_aload_n (pc := 566) dL_law_566 rfl ?_
  refine go_iload_n (pc := 567) dL_law_567 rfl ?_
  refine go_iconst (v := nI 1) (pc := 568) dL_law_568 (by decide) ?_
  refine go_iaddN (pc := 569) dL_law_569  ?_
  refine go_sldN (pc := 570) dL_law_570 (by omega) (by omega) ?_
  refine go_aload_n (pc := 571) dL_law_571 rfl ?_
  refine go_iload_n (pc := 572) dL_law_572 rfl ?_
  refine go_iconst (v := nI 2) (pc := 573) dL_law_573 (by decide) ?_
  refine go_iaddN (pc := 574) dL_law_574  ?_
  refine go_sldN (pc := 575) dL_law_575 (by omega) (by omega) ?_
  refine go_cVi (pc := 576) dL_law_576 (cl_wall hC hW) lL_70 YX7_wall VX7_wall rfl rfl rfl (by decide) rfl (Nat.le_of_ble_eq_true rfl) (fun s1 h1 => ?_)
  obtain ⟨hC1, hf1⟩ := h1
  have hM1 := py_IM_fr hf1 hM
  refine go_aload_n (pc := 579) dL_law_579 rfl ?_
  refine go_aload_n (pc := 580) dL_law_580 rfl ?_
  refine go_iload_n (pc := 581) dL_law_581 rfl ?_
  refine go_iconst (v := nI 1) (pc := 582) dL_law_582 (by decide) ?_
  refine go_iaddN (pc := 583) dL_law_583  ?_
  refine go_sldN (pc := 584) dL_law_584 (by omega) (by omega) ?_
  refine go_aload_n (pc := 585) dL_law_585 rfl ?_
  refine go_iload_n (pc := 586) dL_law_586 rfl ?_
  refine go_iconst (v := nI 2) (pc := 587) dL_law_587 (by decide) ?_
  refine go_iaddN (pc := 588) dL_law_588  ?_
  refine go_sldN (pc := 589) dL_law_589 (by omega) (by omega) ?_
  refine go_cVi (pc := 590) dL_law_590 (mo_wall hM1 hW) lL_73 YX8_wall VX8_wall rfl rfl rfl (by decide) rfl (Nat.le_of_ble_eq_true rfl) (fun s2 h2 => ?_)
  obtain ⟨hM2, hf2⟩ := h2
  have hC2 := py_IC_fr hf2 hC1
  refine go_icmp_eq (tgt := 1152) (pc := 593) dL_law_593 (by decide) (fun c_593 => ?_) (fun c_593 => ?_)
  · refine go_iincN (c := 6) (pc := 1152) dL_law_1152 rfl (by decide) (by decide) rfl ?_
    refine go_goto (tgt := 18) (pc := 1155) dL_law_1155 (by decide) ?_
    exact ih s2 _ _ _ _ _ _ _ _ _ _ _ _ hC2 hM2 (hW)
  · exact absurd rfl c_593
set_option maxHeartbeats 4000000 in
set_option maxRecDepth 100000 in
theorem lc_remains {X : py_X} {i : Nat} {σ : py_H} {R : py_Rt} {q : Int32} {B : Nat → Nat} {N : Nat} {ft : Int32} {H : Nat → Nat} {n : Nat} {As : Nat → Nat → Nat} {I0 I1 : Option (Nat → Nat)} {t : Nat} {tr : Nat → Int32} (hX : X.1 ≤ 3072) (hi : i + 6 ≤ X.1) (ih : py_LN X (i + 6)) (hC : py_IC σ R q B N ft H n As I0 I1 t tr) (hM : py_IM σ R q B N ft H n As I0 I1 t tr) (hW : py_IW H n As I0 I1 t) : py_Go X RL cL_law 4 10 598 [some (.ref 65), some (.ref 0), some (.ref 47), some (.int (nI i))] [] σ (py_vs (some (.int (nI 1))) (fun _ => True)) := by
  refine go_aload_n (pc := 598) dL_law_598 rfl ?_
  refine go_aload_n (pc := 599) dL_law_599 rfl ?_
  refine go_iload_n (pc := 600) dL_law_600 rfl ?_
  refine go_iconst (v := nI 1) (pc := 601) dL_law_601 (by decide) ?_
  refine go_iaddN (pc := 602) dL_law_602  ?_
  refine go_sldN (pc := 603) dL_law_603 (by omega) (by omega) ?_
  refine go_aload_n (pc := 604) dL_law_604 rfl ?_
  refine go_iload_n (pc := 605) dL_law_605 rfl ?_
  refine go_iconst (v := nI 2) (pc := 606) dL_law_606 (by decide) ?_
  refine go_iaddN (pc := 607) dL_law_607  ?_
  refine go_sldN (pc := 608) dL_law_608 (by omega) (by omega) ?_
  refine go_cVi (pc := 609) dL_law_609 (cl_remains hC hW) lL_74 YX7_remains VX7_remains rfl rfl rfl (by decide) rfl (Nat.le_of_ble_eq_true rfl) (fun s1 h1 => ?_)
  obtain ⟨hC1, hf1⟩ := h1
  have hM1 := py_IM_fr hf1 hM
  refine go_aload_n (pc := 612) dL_law_612 rfl ?_
  refine go_aload_n (pc := 613) dL_law_613 rfl ?_
  refine go_iload_n (pc := 614) dL_law_614 rfl ?_
  refine go_iconst (v := nI 1) (pc := 615) dL_law_615 (by decide) ?_
  refine go_iaddN (pc := 616) dL_law_616  ?_
  refine go_sldN (pc := 617) dL_law_617 (by omega) (by omega) ?_
  refine go_aload_n (pc := 618) dL_law_618 rfl ?_
  refine go_iload_n (pc := 619) dL_law_619 rfl ?_
  refine go_iconst (v := nI 2) (pc := 620) dL_law_620 (by decide) ?_
  refine go_iaddN (pc := 621) dL_law_621  ?_
  refine go_sldN (pc := 622) dL_law_622 (by omega) (by omega) ?_
  refine go_cVi (pc := 623) dL_law_623 (mo_remains hM1 hW) lL_77 YX8_remains VX8_remains rfl rfl rfl (by decide) rfl (Nat.le_of_ble_eq_true rfl) (fun s2 h2 => ?_)
  obtain ⟨hM2, hf2⟩ := h2
  have hC2 := py_IC_fr hf2 hC1
  refine go_icmp_eq (tgt := 1152) (pc := 626) dL_law_626 (by decide) (fun c_626 => ?_) (fun c_626 => ?_)
  · refine go_iincN (c := 6) (pc := 1152) dL_law_1152 rfl (by decide) (by decide) rfl ?_
    refine go_goto (tgt := 18) (pc := 1155) dL_law_1155 (by decide) ?_
    exact ih s2 _ _ _ _ _ _ _ _ _ _ _ _ hC2 hM2 (hW)
  · exact absurd rfl c_626
set_option maxHeartbeats 4000000 in
set_option maxRecDepth 100000 in
theorem lc_lives {X : py_X} {i : Nat} {σ : py_H} {R : py_Rt} {q : Int32} {B : Nat → Nat} {N : Nat} {ft : Int32} {H : Nat → Nat} {n : Nat} {As : Nat → Nat → Nat} {I0 I1 : Option (Nat → Nat)} {t : Nat} {tr : Nat → Int32} (hX : X.1 ≤ 3072) (hi : i + 6 ≤ X.1) (ih : py_LN X (i + 6)) (hC : py_IC σ R q B N ft H n As I0 I1 t tr) (hM : py_IM σ R q B N ft H n As I0 I1 t tr) (hW : py_IW H n As I0 I1 t) : py_Go X RL cL_law 4 10 631 [some (.ref 65), some (.ref 0), some (.ref 47), some (.int (nI i))] [] σ (py_vs (some (.int (nI 1))) (fun _ => True)) := by
  refine go_aload_n (pc := 631) dL_law_631 rfl ?_
  refine go_aload_n (pc := 632) dL_law_632 rfl ?_
  refine go_iload_n (pc := 633) dL_law_633 rfl ?_
  refine go_iconst (v := nI 1) (pc := 634) dL_law_634 (by decide) ?_
  refine go_iaddN (pc := 635) dL_law_635  ?_
  refine go_sldN (pc := 636) dL_law_636 (by omega) (by omega) ?_
  refine go_cVi (pc := 637) dL_law_637 (cl_lives hC hW) lL_78 YX7_lives VX7_lives rfl rfl rfl (by decide) rfl (Nat.le_of_ble_eq_true rfl) (fun s1 h1 => ?_)
  obtain ⟨hC1, hf1⟩ := h1
  have hM1 := py_IM_fr hf1 hM
  refine go_aload_n (pc := 640) dL_law_640 rfl ?_
  refine go_aload_n (pc := 641) dL_law_641 rfl ?_
  refine go_iload_n (pc := 642) dL_law_642 rfl ?_
  refine go_iconst (v := nI 1) (pc := 643) dL_law_643 (by decide) ?_
  refine go_iaddN (pc := 644) dL_law_644  ?_
  refine go_sldN (pc := 645) dL_law_645 (by omega) (by omega) ?_
  refine go_cVi (pc := 646) dL_law_646 (mo_lives hM1 hW) lL_81 YX8_lives VX8_lives rfl rfl rfl (by decide) rfl (Nat.le_of_ble_eq_true rfl) (fun s2 h2 => ?_)
  obtain ⟨hM2, hf2⟩ := h2
  have hC2 := py_IC_fr hf2 hC1
  refine go_icmp_eq (tgt := 1152) (pc := 649) dL_law_649 (by decide) (fun c_649 => ?_) (fun c_649 => ?_)
  · refine go_iincN (c := 6) (pc := 1152) dL_law_1152 rfl (by decide) (by decide) rfl ?_
    refine go_goto (tgt := 18) (pc := 1155) dL_law_1155 (by decide) ?_
    exact ih s2 _ _ _ _ _ _ _ _ _ _ _ _ hC2 hM2 (hW)
  · exact absurd rfl c_649
set_option maxHeartbeats 4000000 in
set_option maxRecDepth 100000 in
theorem lc_dies {X : py_X} {i : Nat} {σ : py_H} {R : py_Rt} {q : Int32} {B : Nat → Nat} {N : Nat} {ft : Int32} {H : Nat → Nat} {n : Nat} {As : Nat → Nat → Nat} {I0 I1 : Option (Nat → Nat)} {t : Nat} {tr : Nat → Int32} (hX : X.1 ≤ 3072) (hi : i + 6 ≤ X.1) (ih : py_LN X (i + 6)) (hC : py_IC σ R q B N ft H n As I0 I1 t tr) (hM : py_IM σ R q B N ft H n As I0 I1 t tr) (hW : py_IW H n As I0 I1 t) : py_Go X RL cL_law 4 10 654 [some (.ref 65), some (.ref 0), some (.ref 47), some (.int (nI i))] [] σ (py_vs (some (.int (nI 1))) (fun _ => True)) := by
  refine go_aload_n (pc := 654) dL_law_654 rfl ?_
  refine go_aload_n (pc := 655) dL_law_655 rfl ?_
  refine go_iload_n (pc := 656) dL_law_656 rfl ?_
  refine go_iconst (v := nI 1) (pc := 657) dL_law_657 (by decide) ?_
  refine go_iaddN (pc := 658) dL_law_658  ?_
  refine go_sldN (pc := 659) dL_law_659 (by omega) (by omega) ?_
  refine go_cVi (pc := 660) dL_law_660 (cl_dies hC hW) lL_82 YX7_dies VX7_dies rfl rfl rfl (by decide) rfl (Nat.le_of_ble_eq_true rfl) (fun s1 h1 => ?_)
  obtain ⟨hC1, hf1⟩ := h1
  have hM1 := py_IM_fr hf1 hM
  refine go_aload_n (pc := 663) dL_law_663 rfl ?_
  refine go_aload_n (pc := 664) dL_law_664 rfl ?_
  refine go_iload_n (pc := 665) dL_law_665 rfl ?_
  refine go_iconst (v := nI 1) (pc := 666) dL_law_666 (by decide) ?_
  refine go_iaddN (pc := 667) dL_law_667  ?_
  refine go_sldN (pc := 668) dL_law_668 (by omega) (by omega) ?_
  refine go_cVi (pc := 669) dL_law_669 (mo_dies hM1 hW) lL_85 YX8_dies VX8_dies rfl rfl rfl (by decide) rfl (Nat.le_of_ble_eq_true rfl) (fun s2 h2 => ?_)
  obtain ⟨hM2, hf2⟩ := h2
  have hC2 := py_IC_fr hf2 hC1
  refine go_icmp_eq (tgt := 1152) (pc := 672) dL_law_672 (by decide) (fun c_672 => ?_) (fun c_672 => ?_)
  · refine go_iincN (c := 6) (pc := 1152) dL_law_1152 rfl (by decide) (by decide) rfl ?_
    refine go_goto (tgt := 18) (pc := 1155) dL_law_1155 (by decide) ?_
    exact ih s2 _ _ _ _ _ _ _ _ _ _ _ _ hC2 hM2 (hW)
  · exact absurd rfl c_672
set_option maxHeartbeats 4000000 in
set_option maxRecDepth 100000 in
theorem lc_first {X : py_X} {i : Nat} {σ : py_H} {R : py_Rt} {q : Int32} {B : Nat → Nat} {N : Nat} {ft : Int32} {H : Nat → Nat} {n : Nat} {As : Nat → Nat → Nat} {I0 I1 : Option (Nat → Nat)} {t : Nat} {tr : Nat → Int32} (hX : X.1 ≤ 3072) (hi : i + 6 ≤ X.1) (ih : py_LN X (i + 6)) (hC : py_IC σ R q B N ft H n As I0 I1 t tr) (hM : py_IM σ R q B N ft H n As I0 I1 t tr) (hW : py_IW H n As I0 I1 t) : py_Go X RL cL_law 4 10 677 [some (.ref 65), some (.ref 0), some (.ref 47), some (.int (nI i))] [] σ (py_vs (some (.int (nI 1))) (fun _ => True)) := by
  refine go_aload_n (pc := 677) dL_law_677 rfl ?_
  refine go_aload_n (pc := 678) dL_law_678 rfl ?_
  refine go_iload_n (pc := 679) dL_law_679 rfl ?_
  refine go_iconst (v := nI 1) (pc := 680) dL_law_680 (by decide) ?_
  refine go_iaddN (pc := 681) dL_law_681  ?_
  refine go_sldN (pc := 682) dL_law_682 (by omega) (by omega) ?_
  refine go_cVi (pc := 683) dL_law_683 (cl_first hC hW) lL_86 YX7_first VX7_first rfl rfl rfl (by decide) rfl (Nat.le_of_ble_eq_true rfl) (fun s1 h1 => ?_)
  obtain ⟨hC1, hf1⟩ := h1
  have hM1 := py_IM_fr hf1 hM
  refine go_aload_n (pc := 686) dL_law_686 rfl ?_
  refine go_aload_n (pc := 687) dL_law_687 rfl ?_
  refine go_iload_n (pc := 688) dL_law_688 rfl ?_
  refine go_iconst (v := nI 1) (pc := 689) dL_law_689 (by decide) ?_
  refine go_iaddN (pc := 690) dL_law_690  ?_
  refine go_sldN (pc := 691) dL_law_691 (by omega) (by omega) ?_
  refine go_cVi (pc := 692) dL_law_692 (mo_first hM1 hW) lL_89 YX8_first VX8_first rfl rfl rfl (by decide) rfl (Nat.le_of_ble_eq_true rfl) (fun s2 h2 => ?_)
  obtain ⟨hM2, hf2⟩ := h2
  have hC2 := py_IC_fr hf2 hC1
  refine go_icmp_eq (tgt := 1152) (pc := 695) dL_law_695 (by decide) (fun c_695 => ?_) (fun c_695 => ?_)
  · refine go_iincN (c := 6) (pc := 1152) dL_law_1152 rfl (by decide) (by decide) rfl ?_
    refine go_goto (tgt := 18) (pc := 1155) dL_law_1155 (by decide) ?_
    exact ih s2 _ _ _ _ _ _ _ _ _ _ _ _ hC2 hM2 (hW)
  · exact absurd rfl c_695
set_option maxHeartbeats 4000000 in
set_option maxRecDepth 100000 in
theorem lc_hanging {X : py_X} {i : Nat} {σ : py_H} {R : py_Rt} {q : Int32} {B : Nat → Nat} {N : Nat} {ft : Int32} {H : Nat → Nat} {n : Nat} {As : Nat → Nat → Nat} {I0 I1 : Option (Nat → Nat)} {t : Nat} {tr : Nat → Int32} (hX : X.1 ≤ 3072) (hi : i + 6 ≤ X.1) (ih : py_LN X (i + 6)) (hC : py_IC σ R q B N ft H n As I0 I1 t tr) (hM : py_IM σ R q B N ft H n As I0 I1 t tr) (hW : py_IW H n As I0 I1 t) : py_Go X RL cL_law 4 10 700 [some (.ref 65), some (.ref 0), some (.ref 47), some (.int (nI i))] [] σ (py_vs (some (.int (nI 1))) (fun _ => True)) := by
  refine go_aload_n (pc := 700) dL_law_700 rfl ?_
  refine go_aload_n (pc := 701) dL_law_701 rfl ?_
  refine go_iload_n (pc := 702) dL_law_702 rfl ?_
  refine go_iconst (v := nI 1) (pc := 703) dL_law_703 (by decide) ?_
  refine go_iaddN (pc := 704) dL_law_704  ?_
  refine go_sldN (pc := 705) dL_law_705 (by omega) (by omega) ?_
  refine go_aload_n (pc := 706) dL_law_706 rfl ?_
  refine go_iload_n (pc := 707) dL_law_707 rfl ?_
  refine go_iconst (v := nI 2) (pc := 708) dL_law_708 (by decide) ?_
  refine go_iaddN (pc := 709) dL_law_709  ?_
  refine go_sldN (pc := 710) dL_law_710 (by omega) (by omega) ?_
  refine go_cVi (pc := 711) dL_law_711 (cl_hanging hC hW) lL_90 YX7_hanging VX7_hanging rfl rfl rfl (by decide) rfl (Nat.le_of_ble_eq_true rfl) (fun s1 h1 => ?_)
  obtain ⟨hC1, hf1⟩ := h1
  have hM1 := py_IM_fr hf1 hM
  refine go_aload_n (pc := 714) dL_law_714 rfl ?_
  refine go_aload_n (pc := 715) dL_law_715 rfl ?_
  refine go_iload_n (pc := 716) dL_law_716 rfl ?_
  refine go_iconst (v := nI 1) (pc := 717) dL_law_717 (by decide) ?_
  refine go_iaddN (pc := 718) dL_law_718  ?_
  refine go_sldN (pc := 719) dL_law_719 (by omega) (by omega) ?_
  refine go_aload_n (pc := 720) dL_law_720 rfl ?_
  refine go_iload_n (pc := 721) dL_law_721 rfl ?_
  refine go_iconst (v := nI 2) (pc := 722) dL_law_722 (by decide) ?_
  refine go_iaddN (pc := 723) dL_law_723  ?_
  refine go_sldN (pc := 724) dL_law_724 (by omega) (by omega) ?_
  refine go_cVi (pc := 725) dL_law_725 (mo_hanging hM1 hW) lL_93 YX8_hanging VX8_hanging rfl rfl rfl (by decide) rfl (Nat.le_of_ble_eq_true rfl) (fun s2 h2 => ?_)
  obtain ⟨hM2, hf2⟩ := h2
  have hC2 := py_IC_fr hf2 hC1
  refine go_icmp_eq (tgt := 1152) (pc := 728) dL_law_728 (by decide) (fun c_728 => ?_) (fun c_728 => ?_)
  · refine go_iincN (c := 6) (pc := 1152) dL_law_1152 rfl (by decide) (by decide) rfl ?_
    refine go_goto (tgt := 18) (pc := 1155) dL_law_1155 (by decide) ?_
    exact ih s2 _ _ _ _ _ _ _ _ _ _ _ _ hC2 hM2 (hW)
  · exact absurd rfl c_728
set_option maxHeartbeats 4000000 in
set_option maxRecDepth 100000 in
theorem lc_save {X : py_X} {i : Nat} {σ : py_H} {R : py_Rt} {q : Int32} {B : Nat → Nat} {N : Nat} {ft : Int32} {H : Nat → Nat} {n : Nat} {As : Nat → Nat → Nat} {I0 I1 : Option (Nat → Nat)} {t : Nat} {tr : Nat → Int32} (hX : X.1 ≤ 3072) (hi : i + 6 ≤ X.1) (ih : py_LN X (i + 6)) (hC : py_IC σ R q B N ft H n As I0 I1 t tr) (hM : py_IM σ R q B N ft H n As I0 I1 t tr) (hW : py_IW H n As I0 I1 t) : py_Go X RL cL_law 4 10 733 [some (.ref 65), some (.ref 0), some (.ref 47), some (.int (nI i))] [] σ (py_vs (some (.int (nI 1))) (fun _ => True)) := by
  refine go_aload_n (pc := 733) dL_law_733 rfl ?_
  refine go_aload_n (pc := 734) dL_law_734 rfl ?_
  refine go_iload_n (pc := 735) dL_law_735 rfl ?_
  refine go_iconst (v := nI 1) (pc := 736) dL_law_736 (by decide) ?_
  refine go_iaddN (pc := 737) dL_law_737  ?_
  refine go_sldN (pc := 738) dL_law_738 (by omega) (by omega) ?_
  refine go_aload_n (pc := 739) dL_law_739 rfl ?_
  refine go_iload_n (pc := 740) dL_law_740 rfl ?_
  refine go_iconst (v := nI 2) (pc := 741) dL_law_741 (by decide) ?_
  refine go_iaddN (pc := 742) dL_law_742  ?_
  refine go_sldN (pc := 743) dL_law_743 (by omega) (by omega) ?_
  refine go_cVi (pc := 744) dL_law_744 (cl_save hC hW) lL_94 YX7_save VX7_save rfl rfl rfl (by decide) rfl (Nat.le_of_ble_eq_true rfl) (fun s1 h1 => ?_)
  obtain ⟨hC1, hf1⟩ := h1
  have hM1 := py_IM_fr hf1 hM
  refine go_aload_n (pc := 747) dL_law_747 rfl ?_
  refine go_aload_n (pc := 748) dL_law_748 rfl ?_
  refine go_iload_n (pc := 749) dL_law_749 rfl ?_
  refine go_iconst (v := nI 1) (pc := 750) dL_law_750 (by decide) ?_
  refine go_iaddN (pc := 751) dL_law_751  ?_
  refine go_sldN (pc := 752) dL_law_752 (by omega) (by omega) ?_
  refine go_aload_n (pc := 753) dL_law_753 rfl ?_
  refine go_iload_n (pc := 754) dL_law_754 rfl ?_
  refine go_iconst (v := nI 2) (pc := 755) dL_law_755 (by decide) ?_
  refine go_iaddN (pc := 756) dL_law_756  ?_
  refine go_sldN (pc := 757) dL_law_757 (by omega) (by omega) ?_
  refine go_cVi (pc := 758) dL_law_758 (mo_save hM1 hW) lL_97 YX8_save VX8_save rfl rfl rfl (by decide) rfl (Nat.le_of_ble_eq_true rfl) (fun s2 h2 => ?_)
  obtain ⟨hM2, hf2⟩ := h2
  have hC2 := py_IC_fr hf2 hC1
  refine go_icmp_eq (tgt := 1152) (pc := 761) dL_law_761 (by decide) (fun c_761 => ?_) (fun c_761 => ?_)
  · refine go_iincN (c := 6) (pc := 1152) dL_law_1152 rfl (by decide) (by decide) rfl ?_
    refine go_goto (tgt := 18) (pc := 1155) dL_law_1155 (by decide) ?_
    exact ih s2 _ _ _ _ _ _ _ _ _ _ _ _ hC2 hM2 (hW)
  · exact absurd rfl c_761
set_option maxHeartbeats 4000000 in
set_option maxRecDepth 100000 in
theorem lc_dark {X : py_X} {i : Nat} {σ : py_H} {R : py_Rt} {q : Int32} {B : Nat → Nat} {N : Nat} {ft : Int32} {H : Nat → Nat} {n : Nat} {As : Nat → Nat → Nat} {I0 I1 : Option (Nat → Nat)} {t : Nat} {tr : Nat → Int32} (hX : X.1 ≤ 3072) (hi : i + 6 ≤ X.1) (ih : py_LN X (i + 6)) (hC : py_IC σ R q B N ft H n As I0 I1 t tr) (hM : py_IM σ R q B N ft H n As I0 I1 t tr) (hW : py_IW H n As I0 I1 t) : py_Go X RL cL_law 4 10 766 [some (.ref 65), some (.ref 0), some (.ref 47), some (.int (nI i))] [] σ (py_vs (some (.int (nI 1))) (fun _ => True)) := by
  refine go_aload_n (pc := 766) dL_law_766 rfl ?_
  refine go_aload_n (pc := 767) dL_law_767 rfl ?_
  refine go_iload_n (pc := 768) dL_law_768 rfl ?_
  refine go_iconst (v := nI 1) (pc := 769) dL_law_769 (by decide) ?_
  refine go_iaddN (pc := 770) dL_law_770  ?_
  refine go_sldN (pc := 771) dL_law_771 (by omega) (by omega) ?_
  refine go_aload_n (pc := 772) dL_law_772 rfl ?_
  refine go_iload_n (pc := 773) dL_law_773 rfl ?_
  refine go_iconst (v := nI 2) (pc := 774) dL_law_774 (by decide) ?_
  refine go_iaddN (pc := 775) dL_law_775  ?_
  refine go_sldN (pc := 776) dL_law_776 (by omega) (by omega) ?_
  refine go_cVi (pc := 777) dL_law_777 (cl_dark hC hW) lL_98 YX7_dark VX7_dark rfl rfl rfl (by decide) rfl (Nat.le_of_ble_eq_true rfl) (fun s1 h1 => ?_)
  obtain ⟨hC1, hf1⟩ := h1
  have hM1 := py_IM_fr hf1 hM
  refine go_aload_n (pc := 780) dL_law_780 rfl ?_
  refine go_aload_n (pc := 781) dL_law_781 rfl ?_
  refine go_iload_n (pc := 782) dL_law_782 rfl ?_
  refine go_iconst (v := nI 1) (pc := 783) dL_law_783 (by decide) ?_
  refine go_iaddN (pc := 784) dL_law_784  ?_
  refine go_sldN (pc := 785) dL_law_785 (by omega) (by omega) ?_
  refine go_aload_n (pc := 786) dL_law_786 rfl ?_
  refine go_iload_n (pc := 787) dL_law_787 rfl ?_
  refine go_iconst (v := nI 2) (pc := 788) dL_law_788 (by decide) ?_
  refine go_iaddN (pc := 789) dL_law_789  ?_
  refine go_sldN (pc := 790) dL_law_790 (by omega) (by omega) ?_
  refine go_cVi (pc := 791) dL_law_791 (mo_dark hM1 hW) lL_101 YX8_dark VX8_dark rfl rfl rfl (by decide) rfl (Nat.le_of_ble_eq_true rfl) (fun s2 h2 => ?_)
  obtain ⟨hM2, hf2⟩ := h2
  have hC2 := py_IC_fr hf2 hC1
  refine go_icmp_eq (tgt := 1152) (pc := 794) dL_law_794 (by decide) (fun c_794 => ?_) (fun c_794 => ?_)
  · refine go_iincN (c := 6) (pc := 1152) dL_law_1152 rfl (by decide) (by decide) rfl ?_
    refine go_goto (tgt := 18) (pc := 1155) dL_law_1155 (by decide) ?_
    exact ih s2 _ _ _ _ _ _ _ _ _ _ _ _ hC2 hM2 (hW)
  · exact absurd rfl c_794
set_option maxHeartbeats 4000000 in
set_option maxRecDepth 100000 in
theorem lc_fits {X : py_X} {i : Nat} {σ : py_H} {R : py_Rt} {q : Int32} {B : Nat → Nat} {N : Nat} {ft : Int32} {H : Nat → Nat} {n : Nat} {As : Nat → Nat → Nat} {I0 I1 : Option (Nat → Nat)} {t : Nat} {tr : Nat → Int32} (hX : X.1 ≤ 3072) (hi : i + 6 ≤ X.1) (ih : py_LN X (i + 6)) (hC : py_IC σ R q B N ft H n As I0 I1 t tr) (hM : py_IM σ R q B N ft H n As I0 I1 t tr) (hW : py_IW H n As I0 I1 t) : py_Go X RL cL_law 4 10 799 [some (.ref 65), some (.ref 0), some (.ref 47), some (.int (nI i))] [] σ (py_vs (some (.int (nI 1))) (fun _ => True)) := by
  refine go_aload_n (pc := 799) dL_law_799 rfl ?_
  refine go_aload_n (pc := 800) dL_law_800 rfl ?_
  refine go_iload_n (pc := 801) dL_law_801 rfl ?_
  refine go_iconst (v := nI 1) (pc := 802) dL_law_802 (by decide) ?_
  refine go_iaddN (pc := 803) dL_law_803  ?_
  refine go_sldN (pc := 804) dL_law_804 (by omega) (by omega) ?_
  refine go_aload_n (pc := 805) dL_law_805 rfl ?_
  refine go_iload_n (pc := 806) dL_law_806 rfl ?_
  refine go_iconst (v := nI 2) (pc := 807) dL_law_807 (by decide) ?_
  refine go_iaddN (pc := 808) dL_law_808  ?_
  refine go_sldN (pc := 809) dL_law_809 (by omega) (by omega) ?_
  refine go_aload_n (pc := 810) dL_law_810 rfl ?_
  refine go_iload_n (pc := 811) dL_law_811 rfl ?_
  refine go_iconst (v := nI 3) (pc := 812) dL_law_812 (by decide) ?_
  refine go_iaddN (pc := 813) dL_law_813  ?_
  refine go_sldN (pc := 814) dL_law_814 (by omega) (by omega) ?_
  refine go_aload_n (pc := 815) dL_law_815 rfl ?_
  refine go_iload_n (pc := 816) dL_law_816 rfl ?_
  refine go_iconst (v := nI 4) (pc := 817) dL_law_817 (by decide) ?_
  refine go_iaddN (pc := 818) dL_law_818  ?_
  refine go_sldN (pc := 819) dL_law_819 (by omega) (by omega) ?_
  refine go_aload_n (pc := 820) dL_law_820 rfl ?_
  refine go_iload_n (pc := 821) dL_law_821 rfl ?_
  refine go_iconst (v := nI 5) (pc := 822) dL_law_822 (by decide) ?_
  refine go_iaddN (pc := 823) dL_law_823  ?_
  refine go_sldN (pc := 824) dL_law_824 (by omega) (by omega) ?_
  refine go_cVi (pc := 825) dL_law_825 (cl_fits hC hW) lL_102 YX7_fits VX7_fits rfl rfl rfl (by decide) rfl (Nat.le_of_ble_eq_true rfl) (fun s1 h1 => ?_)
  obtain ⟨hC1, hf1⟩ := h1
  have hM1 := py_IM_fr hf1 hM
  refine go_aload_n (pc := 828) dL_law_828 rfl ?_
  refine go_aload_n (pc := 829) dL_law_829 rfl ?_
  refine go_iload_n (pc := 830) dL_law_830 rfl ?_
  refine go_iconst (v := nI 1) (pc := 831) dL_law_831 (by decide) ?_
  refine go_iaddN (pc := 832) dL_law_832  ?_
  refine go_sldN (pc := 833) dL_law_833 (by omega) (by omega) ?_
  refine go_aload_n (pc := 834) dL_law_834 rfl ?_
  refine go_iload_n (pc := 835) dL_law_835 rfl ?_
  refine go_iconst (v := nI 2) (pc := 836) dL_law_836 (by decide) ?_
  refine go_iaddN (pc := 837) dL_law_837  ?_
  refine go_sldN (pc := 838) dL_law_838 (by omega) (by omega) ?_
  refine go_aload_n (pc := 839) dL_law_839 rfl ?_
  refine go_iload_n (pc := 840) dL_law_840 rfl ?_
  refine go_iconst (v := nI 3) (pc := 841) dL_law_841 (by decide) ?_
  refine go_iaddN (pc := 842) dL_law_842  ?_
  refine go_sldN (pc := 843) dL_law_843 (by omega) (by omega) ?_
  refine go_aload_n (pc := 844) dL_law_844 rfl ?_
  refine go_iload_n (pc := 845) dL_law_845 rfl ?_
  refine go_iconst (v := nI 4) (pc := 846) dL_law_846 (by decide) ?_
  refine go_iaddN (pc := 847) dL_law_847  ?_
  refine go_sldN (pc := 848) dL_law_848 (by omega) (by omega) ?_
  refine go_aload_n (pc := 849) dL_law_849 rfl ?_
  refine go_iload_n (pc := 850) dL_law_850 rfl ?_
  refine go_iconst (v := nI 5) (pc := 851) dL_law_851 (by decide) ?_
  refine go_iaddN (pc := 852) dL_law_852  ?_
  refine go_sldN (pc := 853) dL_law_853 (by omega) (by omega) ?_
  refine go_cVi (pc := 854) dL_law_854 (mo_fits hM1 hW) lL_105 YX8_fits VX8_fits rfl rfl rfl (by decide) rfl (Nat.le_of_ble_eq_true rfl) (fun s2 h2 => ?_)
  obtain ⟨hM2, hf2⟩ := h2
  have hC2 := py_IC_fr hf2 hC1
  refine go_icmp_eq (tgt := 1152) (pc := 857) dL_law_857 (by decide) (fun c_857 => ?_) (fun c_857 => ?_)
  · refine go_iincN (c := 6) (pc := 1152) dL_law_1152 rfl (by decide) (by decide) rfl ?_
    refine go_goto (tgt := 18) (pc := 1155) dL_law_1155 (by decide) ?_
    exact ih s2 _ _ _ _ _ _ _ _ _ _ _ _ hC2 hM2 (hW)
  · exact absurd rfl c_857
set_option maxHeartbeats 4000000 in
set_option maxRecDepth 100000 in
theorem lc_thieves {X : py_X} {i : Nat} {σ : py_H} {R : py_Rt} {q : Int32} {B : Nat → Nat} {N : Nat} {ft : Int32} {H : Nat → Nat} {n : Nat} {As : Nat → Nat → Nat} {I0 I1 : Option (Nat → Nat)} {t : Nat} {tr : Nat → Int32} (hX : X.1 ≤ 3072) (hi : i + 6 ≤ X.1) (ih : py_LN X (i + 6)) (hC : py_IC σ R q B N ft H n As I0 I1 t tr) (hM : py_IM σ R q B N ft H n As I0 I1 t tr) (hW : py_IW H n As I0 I1 t) : py_Go X RL cL_law 4 10 862 [some (.ref 65), some (.ref 0), some (.ref 47), some (.int (nI i))] [] σ (py_vs (some (.int (nI 1))) (fun _ => True)) := by
  refine go_aload_n (pc := 862) dL_law_862 rfl ?_
  refine go_aload_n (pc := 863) dL_law_863 rfl ?_
  refine go_iload_n (pc := 864) dL_law_864 rfl ?_
  refine go_iconst (v := nI 1) (pc := 865) dL_law_865 (by decide) ?_
  refine go_iaddN (pc := 866) dL_law_866  ?_
  refine go_sldN (pc := 867) dL_law_867 (by omega) (by omega) ?_
  refine go_aload_n (pc := 868) dL_law_868 rfl ?_
  refine go_iload_n (pc := 869) dL_law_869 rfl ?_
  refine go_iconst (v := nI 2) (pc := 870) dL_law_870 (by decide) ?_
  refine go_iaddN (pc := 871) dL_law_871  ?_
  refine go_sldN (pc := 872) dL_law_872 (by omega) (by omega) ?_
  refine go_aload_n (pc := 873) dL_law_873 rfl ?_
  refine go_iload_n (pc := 874) dL_law_874 rfl ?_
  refine go_iconst (v := nI 3) (pc := 875) dL_law_875 (by decide) ?_
  refine go_iaddN (pc := 876) dL_law_876  ?_
  refine go_sldN (pc := 877) dL_law_877 (by omega) (by omega) ?_
  refine go_aload_n (pc := 878) dL_law_878 rfl ?_
  refine go_iload_n (pc := 879) dL_law_879 rfl ?_
  refine go_iconst (v := nI 4) (pc := 880) dL_law_880 (by decide) ?_
  refine go_iaddN (pc := 881) dL_law_881  ?_
  refine go_sldN (pc := 882) dL_law_882 (by omega) (by omega) ?_
  refine go_cVi (pc := 883) dL_law_883 (cl_thieves hC hW) lL_106 YX7_thieves VX7_thieves rfl rfl rfl (by decide) rfl (Nat.le_of_ble_eq_true rfl) (fun s1 h1 => ?_)
  obtain ⟨hC1, hf1⟩ := h1
  have hM1 := py_IM_fr hf1 hM
  refine go_aload_n (pc := 886) dL_law_886 rfl ?_
  refine go_aload_n (pc := 887) dL_law_887 rfl ?_
  refine go_iload_n (pc := 888) dL_law_888 rfl ?_
  refine go_iconst (v := nI 1) (pc := 889) dL_law_889 (by decide) ?_
  refine go_iaddN (pc := 890) dL_law_890  ?_
  refine go_sldN (pc := 891) dL_law_891 (by omega) (by omega) ?_
  refine go_aload_n (pc := 892) dL_law_892 rfl ?_
  refine go_iload_n (pc := 893) dL_law_893 rfl ?_
  refine go_iconst (v := nI 2) (pc := 894) dL_law_894 (by decide) ?_
  refine go_iaddN (pc := 895) dL_law_895  ?_
  refine go_sldN (pc := 896) dL_law_896 (by omega) (by omega) ?_
  refine go_aload_n (pc := 897) dL_law_897 rfl ?_
  refine go_iload_n (pc := 898) dL_law_898 rfl ?_
  refine go_iconst (v := nI 3) (pc := 899) dL_law_899 (by decide) ?_
  refine go_iaddN (pc := 900) dL_law_900  ?_
  refine go_sldN (pc := 901) dL_law_901 (by omega) (by omega) ?_
  refine go_aload_n (pc := 902) dL_law_902 rfl ?_
  refine go_iload_n (pc := 903) dL_law_903 rfl ?_
  refine go_iconst (v := nI 4) (pc := 904) dL_law_904 (by decide) ?_
  refine go_iaddN (pc := 905) dL_law_905  ?_
  refine go_sldN (pc := 906) dL_law_906 (by omega) (by omega) ?_
  refine go_cVi (pc := 907) dL_law_907 (mo_thieves hM1 hW) lL_110 YX8_thieves VX8_thieves rfl rfl rfl (by decide) rfl (Nat.le_of_ble_eq_true rfl) (fun s2 h2 => ?_)
  obtain ⟨hM2, hf2⟩ := h2
  have hC2 := py_IC_fr hf2 hC1
  refine go_icmp_eq (tgt := 1152) (pc := 910) dL_law_910 (by decide) (fun c_910 => ?_) (fun c_910 => ?_)
  · refine go_iincN (c := 6) (pc := 1152) dL_law_1152 rfl (by decide) (by decide) rfl ?_
    refine go_goto (tgt := 18) (pc := 1155) dL_law_1155 (by decide) ?_
    exact ih s2 _ _ _ _ _ _ _ _ _ _ _ _ hC2 hM2 (hW)
  · exact absurd rfl c_910
set_option maxHeartbeats 4000000 in
set_option maxRecDepth 100000 in
theorem lc_drawn {X : py_X} {i : Nat} {σ : py_H} {R : py_Rt} {q : Int32} {B : Nat → Nat} {N : Nat} {ft : Int32} {H : Nat → Nat} {n : Nat} {As : Nat → Nat → Nat} {I0 I1 : Option (Nat → Nat)} {t : Nat} {tr : Nat → Int32} (hX : X.1 ≤ 3072) (hi : i + 6 ≤ X.1) (ih : py_LN X (i + 6)) (hC : py_IC σ R q B N ft H n As I0 I1 t tr) (hM : py_IM σ R q B N ft H n As I0 I1 t tr) (hW : py_IW H n As I0 I1 t) : py_Go X RL cL_law 4 10 915 [some (.ref 65), some (.ref 0), some (.ref 47), some (.int (nI i))] [] σ (py_vs (some (.int (nI 1))) (fun _ => True)) := by
  refine go_aload_n (pc := 915) dL_law_915 rfl ?_
  refine go_aload_n (pc := 916) dL_law_916 rfl ?_
  refine go_iload_n (pc := 917) dL_law_917 rfl ?_
  refine go_iconst (v := nI 1) (pc := 918) dL_law_918 (by decide) ?_
  refine go_iaddN (pc := 919) dL_law_919  ?_
  refine go_sldN (pc := 920) dL_law_920 (by omega) (by omega) ?_
  refine go_aload_n (pc := 921) dL_law_921 rfl ?_
  refine go_iload_n (pc := 922) dL_law_922 rfl ?_
  refine go_iconst (v := nI 2) (pc := 923) dL_law_923 (by decide) ?_
  refine go_iaddN (pc := 924) dL_law_924  ?_
  refine go_sldN (pc := 925) dL_law_925 (by omega) (by omega) ?_
  refine go_aload_n (pc := 926) dL_law_926 rfl ?_
  refine go_iload_n (pc := 927) dL_law_927 rfl ?_
  refine go_iconst (v := nI 3) (pc := 928) dL_law_928 (by decide) ?_
  refine go_iaddN (pc := 929) dL_law_929  ?_
  refine go_sldN (pc := 930) dL_law_930 (by omega) (by omega) ?_
  refine go_cVi (pc := 931) dL_law_931 (cl_drawn hC hW) lL_111 YX7_drawn VX7_drawn rfl rfl rfl (by decide) rfl (Nat.le_of_ble_eq_true rfl) (fun s1 h1 => ?_)
  obtain ⟨hC1, hf1⟩ := h1
  have hM1 := py_IM_fr hf1 hM
  refine go_aload_n (pc := 934) dL_law_934 rfl ?_
  refine go_aload_n (pc := 935) dL_law_935 rfl ?_
  refine go_iload_n (pc := 936) dL_law_936 rfl ?_
  refine go_iconst (v := nI 1) (pc := 937) dL_law_937 (by decide) ?_
  refine go_iaddN (pc := 938) dL_law_938  ?_
  refine go_sldN (pc := 939) dL_law_939 (by omega) (by omega) ?_
  refine go_aload_n (pc := 940) dL_law_940 rfl ?_
  refine go_iload_n (pc := 941) dL_law_941 rfl ?_
  refine go_iconst (v := nI 2) (pc := 942) dL_law_942 (by decide) ?_
  refine go_iaddN (pc := 943) dL_law_943  ?_
  refine go_sldN (pc := 944) dL_law_944 (by omega) (by omega) ?_
  refine go_aload_n (pc := 945) dL_law_945 rfl ?_
  refine go_iload_n (pc := 946) dL_law_946 rfl ?_
  refine go_iconst (v := nI 3) (pc := 947) dL_law_947 (by decide) ?_
  refine go_iaddN (pc := 948) dL_law_948  ?_
  refine go_sldN (pc := 949) dL_law_949 (by omega) (by omega) ?_
  refine go_cVi (pc := 950) dL_law_950 (mo_drawn hM1 hW) lL_114 YX8_drawn VX8_drawn rfl rfl rfl (by decide) rfl (Nat.le_of_ble_eq_true rfl) (fun s2 h2 => ?_)
  obtain ⟨hM2, hf2⟩ := h2
  have hC2 := py_IC_fr hf2 hC1
  refine go_icmp_eq (tgt := 1152) (pc := 953) dL_law_953 (by decide) (fun c_953 => ?_) (fun c_953 => ?_)
  · refine go_iincN (c := 6) (pc := 1152) dL_law_1152 rfl (by decide) (by decide) rfl ?_
    refine go_goto (tgt := 18) (pc := 1155) dL_law_1155 (by decide) ?_
    exact ih s2 _ _ _ _ _ _ _ _ _ _ _ _ hC2 hM2 (hW)
  · exact absurd rfl c_953
set_option maxHeartbeats 4000000 in
set_option maxRecDepth 100000 in
theorem lc_image {X : py_X} {i : Nat} {σ : py_H} {R : py_Rt} {q : Int32} {B : Nat → Nat} {N : Nat} {ft : Int32} {H : Nat → Nat} {n : Nat} {As : Nat → Nat → Nat} {I0 I1 : Option (Nat → Nat)} {t : Nat} {tr : Nat → Int32} (hX : X.1 ≤ 3072) (hi : i + 6 ≤ X.1) (ih : py_LN X (i + 6)) (hC : py_IC σ R q B N ft H n As I0 I1 t tr) (hM : py_IM σ R q B N ft H n As I0 I1 t tr) (hW : py_IW H n As I0 I1 t) : py_Go X RL cL_law 4 10 958 [some (.ref 65), some (.ref 0), some (.ref 47), some (.int (nI i))] [] σ (py_vs (some (.int (nI 1))) (fun _ => True)) := by
  refine go_aload_n (pc := 958) dL_law_958 rfl ?_
  refine go_aload_n (pc := 959) dL_law_959 rfl ?_
  refine go_iload_n (pc := 960) dL_law_960 rfl ?_
  refine go_iconst (v := nI 1) (pc := 961) dL_law_961 (by decide) ?_
  refine go_iaddN (pc := 962) dL_law_962  ?_
  refine go_sldN (pc := 963) dL_law_963 (by omega) (by omega) ?_
  refine go_cVi (pc := 964) dL_law_964 (cl_image hC hW) lL_115 YX7_image VX7_image rfl rfl rfl (by decide) rfl (Nat.le_of_ble_eq_true rfl) (fun s1 h1 => ?_)
  obtain ⟨hC1, hf1⟩ := h1
  have hM1 := py_IM_fr hf1 hM
  refine go_aload_n (pc := 967) dL_law_967 rfl ?_
  refine go_aload_n (pc := 968) dL_law_968 rfl ?_
  refine go_iload_n (pc := 969) dL_law_969 rfl ?_
  refine go_iconst (v := nI 1) (pc := 970) dL_law_970 (by decide) ?_
  refine go_iaddN (pc := 971) dL_law_971  ?_
  refine go_sldN (pc := 972) dL_law_972 (by omega) (by omega) ?_
  refine go_cVi (pc := 973) dL_law_973 (mo_image hM1 hW) lL_118 YX8_image VX8_image rfl rfl rfl (by decide) rfl (Nat.le_of_ble_eq_true rfl) (fun s2 h2 => ?_)
  obtain ⟨hM2, hf2⟩ := h2
  have hC2 := py_IC_fr hf2 hC1
  refine go_icmp_eq (tgt := 1152) (pc := 976) dL_law_976 (by decide) (fun c_976 => ?_) (fun c_976 => ?_)
  · refine go_iincN (c := 6) (pc := 1152) dL_law_1152 rfl (by decide) (by decide) rfl ?_
    refine go_goto (tgt := 18) (pc := 1155) dL_law_1155 (by decide) ?_
    exact ih s2 _ _ _ _ _ _ _ _ _ _ _ _ hC2 hM2 (iw_image hW _)
  · exact absurd rfl c_976
set_option maxHeartbeats 4000000 in
set_option maxRecDepth 100000 in
theorem lc_recall {X : py_X} {i : Nat} {σ : py_H} {R : py_Rt} {q : Int32} {B : Nat → Nat} {N : Nat} {ft : Int32} {H : Nat → Nat} {n : Nat} {As : Nat → Nat → Nat} {I0 I1 : Option (Nat → Nat)} {t : Nat} {tr : Nat → Int32} (hX : X.1 ≤ 3072) (hi : i + 6 ≤ X.1) (ih : py_LN X (i + 6)) (hC : py_IC σ R q B N ft H n As I0 I1 t tr) (hM : py_IM σ R q B N ft H n As I0 I1 t tr) (hW : py_IW H n As I0 I1 t) : py_Go X RL cL_law 4 10 981 [some (.ref 65), some (.ref 0), some (.ref 47), some (.int (nI i))] [] σ (py_vs (some (.int (nI 1))) (fun _ => True)) := by
  refine go_aload_n (pc := 981) dL_law_981 rfl ?_
  refine go_aload_n (pc := 982) dL_law_982 rfl ?_
  refine go_iload_n (pc := 983) dL_law_983 rfl ?_
  refine go_iconst (v := nI 1) (pc := 984) dL_law_984 (by decide) ?_
  refine go_iaddN (pc := 985) dL_law_985  ?_
  refine go_sldN (pc := 986) dL_law_986 (by omega) (by omega) ?_
  refine go_cVi (pc := 987) dL_law_987 (cl_recall hC hW) lL_119 YX7_recall VX7_recall rfl rfl rfl (by decide) rfl (Nat.le_of_ble_eq_true rfl) (fun s1 h1 => ?_)
  obtain ⟨hC1, hf1⟩ := h1
  have hM1 := py_IM_fr hf1 hM
  refine go_aload_n (pc := 990) dL_law_990 rfl ?_
  refine go_aload_n (pc := 991) dL_law_991 rfl ?_
  refine go_iload_n (pc := 992) dL_law_992 rfl ?_
  refine go_iconst (v := nI 1) (pc := 993) dL_law_993 (by decide) ?_
  refine go_iaddN (pc := 994) dL_law_994  ?_
  refine go_sldN (pc := 995) dL_law_995 (by omega) (by omega) ?_
  refine go_cVi (pc := 996) dL_law_996 (mo_recall hM1 hW) lL_122 YX8_recall VX8_recall rfl rfl rfl (by decide) rfl (Nat.le_of_ble_eq_true rfl) (fun s2 h2 => ?_)
  obtain ⟨hM2, hf2⟩ := h2
  have hC2 := py_IC_fr hf2 hC1
  refine go_icmp_eq (tgt := 1152) (pc := 999) dL_law_999 (by decide) (fun c_999 => ?_) (fun c_999 => ?_)
  · refine go_iincN (c := 6) (pc := 1152) dL_law_1152 rfl (by decide) (by decide) rfl ?_
    refine go_goto (tgt := 18) (pc := 1155) dL_law_1155 (by decide) ?_
    exact ih s2 _ _ _ _ _ _ _ _ _ _ _ _ hC2 hM2 (iw_recall hW _)
  · exact absurd rfl c_999
set_option maxHeartbeats 4000000 in
set_option maxRecDepth 100000 in
theorem lc_kind {X : py_X} {i : Nat} {σ : py_H} {R : py_Rt} {q : Int32} {B : Nat → Nat} {N : Nat} {ft : Int32} {H : Nat → Nat} {n : Nat} {As : Nat → Nat → Nat} {I0 I1 : Option (Nat → Nat)} {t : Nat} {tr : Nat → Int32} (hX : X.1 ≤ 3072) (hi : i + 6 ≤ X.1) (ih : py_LN X (i + 6)) (hC : py_IC σ R q B N ft H n As I0 I1 t tr) (hM : py_IM σ R q B N ft H n As I0 I1 t tr) (hW : py_IW H n As I0 I1 t) : py_Go X RL cL_law 4 10 1004 [some (.ref 65), some (.ref 0), some (.ref 47), some (.int (nI i))] [] σ (py_vs (some (.int (nI 1))) (fun _ => True)) := by
  refine go_aload_n (pc := 1004) dL_law_1004 rfl ?_
  refine go_aload_n (pc := 1005) dL_law_1005 rfl ?_
  refine go_iload_n (pc := 1006) dL_law_1006 rfl ?_
  refine go_iconst (v := nI 1) (pc := 1007) dL_law_1007 (by decide) ?_
  refine go_iaddN (pc := 1008) dL_law_1008  ?_
  refine go_sldN (pc := 1009) dL_law_1009 (by omega) (by omega) ?_
  refine go_cVi (pc := 1010) dL_law_1010 (cl_kind hC hW) lL_123 YX7_kind VX7_kind rfl rfl rfl (by decide) rfl (Nat.le_of_ble_eq_true rfl) (fun s1 h1 => ?_)
  obtain ⟨hC1, hf1⟩ := h1
  have hM1 := py_IM_fr hf1 hM
  refine go_aload_n (pc := 1013) dL_law_1013 rfl ?_
  refine go_aload_n (pc := 1014) dL_law_1014 rfl ?_
  refine go_iload_n (pc := 1015) dL_law_1015 rfl ?_
  refine go_iconst (v := nI 1) (pc := 1016) dL_law_1016 (by decide) ?_
  refine go_iaddN (pc := 1017) dL_law_1017  ?_
  refine go_sldN (pc := 1018) dL_law_1018 (by omega) (by omega) ?_
  refine go_cVi (pc := 1019) dL_law_1019 (mo_kind hM1 hW) lL_126 YX8_kind VX8_kind rfl rfl rfl (by decide) rfl (Nat.le_of_ble_eq_true rfl) (fun s2 h2 => ?_)
  obtain ⟨hM2, hf2⟩ := h2
  have hC2 := py_IC_fr hf2 hC1
  refine go_icmp_eq (tgt := 1152) (pc := 1022) dL_law_1022 (by decide) (fun c_1022 => ?_) (fun c_1022 => ?_)
  · refine go_iincN (c := 6) (pc := 1152) dL_law_1152 rfl (by decide) (by decide) rfl ?_
    refine go_goto (tgt := 18) (pc := 1155) dL_law_1155 (by decide) ?_
    exact ih s2 _ _ _ _ _ _ _ _ _ _ _ _ hC2 hM2 (hW)
  · exact absurd rfl c_1022
set_option maxHeartbeats 4000000 in
set_option maxRecDepth 100000 in
theorem lc_as {X : py_X} {i : Nat} {σ : py_H} {R : py_Rt} {q : Int32} {B : Nat → Nat} {N : Nat} {ft : Int32} {H : Nat → Nat} {n : Nat} {As : Nat → Nat → Nat} {I0 I1 : Option (Nat → Nat)} {t : Nat} {tr : Nat → Int32} (hX : X.1 ≤ 3072) (hi : i + 6 ≤ X.1) (ih : py_LN X (i + 6)) (hC : py_IC σ R q B N ft H n As I0 I1 t tr) (hM : py_IM σ R q B N ft H n As I0 I1 t tr) (hW : py_IW H n As I0 I1 t) : py_Go X RL cL_law 4 10 1027 [some (.ref 65), some (.ref 0), some (.ref 47), some (.int (nI i))] [] σ (py_vs (some (.int (nI 1))) (fun _ => True)) := by
  refine go_aload_n (pc := 1027) dL_law_1027 rfl ?_
  refine go_aload_n (pc := 1028) dL_law_1028 rfl ?_
  refine go_iload_n (pc := 1029) dL_law_1029 rfl ?_
  refine go_iconst (v := nI 1) (pc := 1030) dL_law_1030 (by decide) ?_
  refine go_iaddN (pc := 1031) dL_law_1031  ?_
  refine go_sldN (pc := 1032) dL_law_1032 (by omega) (by omega) ?_
  refine go_aload_n (pc := 1033) dL_law_1033 rfl ?_
  refine go_iload_n (pc := 1034) dL_law_1034 rfl ?_
  refine go_iconst (v := nI 2) (pc := 1035) dL_law_1035 (by decide) ?_
  refine go_iaddN (pc := 1036) dL_law_1036  ?_
  refine go_sldN (pc := 1037) dL_law_1037 (by omega) (by omega) ?_
  refine go_cVi (pc := 1038) dL_law_1038 (cl_as hC hW) lL_127 YX7_as VX7_as rfl rfl rfl (by decide) rfl (Nat.le_of_ble_eq_true rfl) (fun s1 h1 => ?_)
  obtain ⟨hC1, hf1⟩ := h1
  have hM1 := py_IM_fr hf1 hM
  refine go_aload_n (pc := 1041) dL_law_1041 rfl ?_
  refine go_aload_n (pc := 1042) dL_law_1042 rfl ?_
  refine go_iload_n (pc := 1043) dL_law_1043 rfl ?_
  refine go_iconst (v := nI 1) (pc := 1044) dL_law_1044 (by decide) ?_
  refine go_iaddN (pc := 1045) dL_law_1045  ?_
  refine go_sldN (pc := 1046) dL_law_1046 (by omega) (by omega) ?_
  refine go_aload_n (pc := 1047) dL_law_1047 rfl ?_
  refine go_iload_n (pc := 1048) dL_law_1048 rfl ?_
  refine go_iconst (v := nI 2) (pc := 1049) dL_law_1049 (by decide) ?_
  refine go_iaddN (pc := 1050) dL_law_1050  ?_
  refine go_sldN (pc := 1051) dL_law_1051 (by omega) (by omega) ?_
  refine go_cVi (pc := 1052) dL_law_1052 (mo_as hM1 hW) lL_130 YX8_as VX8_as rfl rfl rfl (by decide) rfl (Nat.le_of_ble_eq_true rfl) (fun s2 h2 => ?_)
  obtain ⟨hM2, hf2⟩ := h2
  have hC2 := py_IC_fr hf2 hC1
  refine go_icmp_eq (tgt := 1152) (pc := 1055) dL_law_1055 (by decide) (fun c_1055 => ?_) (fun c_1055 => ?_)
  · refine go_iincN (c := 6) (pc := 1152) dL_law_1152 rfl (by decide) (by decide) rfl ?_
    refine go_goto (tgt := 18) (pc := 1155) dL_law_1155 (by decide) ?_
    exact ih s2 _ _ _ _ _ _ _ _ _ _ _ _ hC2 hM2 (hW)
  · exact absurd rfl c_1055
set_option maxHeartbeats 4000000 in
set_option maxRecDepth 100000 in
theorem lc_ask {X : py_X} {i : Nat} {σ : py_H} {R : py_Rt} {q : Int32} {B : Nat → Nat} {N : Nat} {ft : Int32} {H : Nat → Nat} {n : Nat} {As : Nat → Nat → Nat} {I0 I1 : Option (Nat → Nat)} {t : Nat} {tr : Nat → Int32} (hX : X.1 ≤ 3072) (hi : i + 6 ≤ X.1) (ih : py_LN X (i + 6)) (hC : py_IC σ R q B N ft H n As I0 I1 t tr) (hM : py_IM σ R q B N ft H n As I0 I1 t tr) (hW : py_IW H n As I0 I1 t) : py_Go X RL cL_law 4 10 1060 [some (.ref 65), some (.ref 0), some (.ref 47), some (.int (nI i))] [] σ (py_vs (some (.int (nI 1))) (fun _ => True)) := by
  refine go_aload_n (pc := 1060) dL_law_1060 rfl ?_
  refine go_aload_n (pc := 1061) dL_law_1061 rfl ?_
  refine go_iload_n (pc := 1062) dL_law_1062 rfl ?_
  refine go_iconst (v := nI 1) (pc := 1063) dL_law_1063 (by decide) ?_
  refine go_iaddN (pc := 1064) dL_law_1064  ?_
  refine go_sldN (pc := 1065) dL_law_1065 (by omega) (by omega) ?_
  refine go_aload_n (pc := 1066) dL_law_1066 rfl ?_
  refine go_iload_n (pc := 1067) dL_law_1067 rfl ?_
  refine go_iconst (v := nI 2) (pc := 1068) dL_law_1068 (by decide) ?_
  refine go_iaddN (pc := 1069) dL_law_1069  ?_
  refine go_sldN (pc := 1070) dL_law_1070 (by omega) (by omega) ?_
  refine go_cVi (pc := 1071) dL_law_1071 (cl_ask hC hW) lL_131 YX7_ask VX7_ask rfl rfl rfl (by decide) rfl (Nat.le_of_ble_eq_true rfl) (fun s1 h1 => ?_)
  obtain ⟨hC1, hf1⟩ := h1
  have hM1 := py_IM_fr hf1 hM
  refine go_aload_n (pc := 1074) dL_law_1074 rfl ?_
  refine go_aload_n (pc := 1075) dL_law_1075 rfl ?_
  refine go_iload_n (pc := 1076) dL_law_1076 rfl ?_
  refine go_iconst (v := nI 1) (pc := 1077) dL_law_1077 (by decide) ?_
  refine go_iaddN (pc := 1078) dL_law_1078  ?_
  refine go_sldN (pc := 1079) dL_law_1079 (by omega) (by omega) ?_
  refine go_aload_n (pc := 1080) dL_law_1080 rfl ?_
  refine go_iload_n (pc := 1081) dL_law_1081 rfl ?_
  refine go_iconst (v := nI 2) (pc := 1082) dL_law_1082 (by decide) ?_
  refine go_iaddN (pc := 1083) dL_law_1083  ?_
  refine go_sldN (pc := 1084) dL_law_1084 (by omega) (by omega) ?_
  refine go_cVi (pc := 1085) dL_law_1085 (mo_ask hM1 hW) lL_134 YX8_ask VX8_ask rfl rfl rfl (by decide) rfl (Nat.le_of_ble_eq_true rfl) (fun s2 h2 => ?_)
  obtain ⟨hM2, hf2⟩ := h2
  have hC2 := py_IC_fr hf2 hC1
  refine go_icmp_eq (tgt := 1152) (pc := 1088) dL_law_1088 (by decide) (fun c_1088 => ?_) (fun c_1088 => ?_)
  · refine go_iincN (c := 6) (pc := 1152) dL_law_1152 rfl (by decide) (by decide) rfl ?_
    refine go_goto (tgt := 18) (pc := 1155) dL_law_1155 (by decide) ?_
    exact ih s2 _ _ _ _ _ _ _ _ _ _ _ _ hC2 hM2 (iw_ask hW _ _)
  · exact absurd rfl c_1088
set_option maxHeartbeats 4000000 in
set_option maxRecDepth 100000 in
theorem lc_trace {X : py_X} {i : Nat} {σ : py_H} {R : py_Rt} {q : Int32} {B : Nat → Nat} {N : Nat} {ft : Int32} {H : Nat → Nat} {n : Nat} {As : Nat → Nat → Nat} {I0 I1 : Option (Nat → Nat)} {t : Nat} {tr : Nat → Int32} (hX : X.1 ≤ 3072) (hi : i + 6 ≤ X.1) (ih : py_LN X (i + 6)) (hC : py_IC σ R q B N ft H n As I0 I1 t tr) (hM : py_IM σ R q B N ft H n As I0 I1 t tr) (hW : py_IW H n As I0 I1 t) : py_Go X RL cL_law 4 10 1093 [some (.ref 65), some (.ref 0), some (.ref 47), some (.int (nI i))] [] σ (py_vs (some (.int (nI 1))) (fun _ => True)) := by
  refine go_aload_n (pc := 1093) dL_law_1093 rfl ?_
  refine go_aload_n (pc := 1094) dL_law_1094 rfl ?_
  refine go_iload_n (pc := 1095) dL_law_1095 rfl ?_
  refine go_iconst (v := nI 1) (pc := 1096) dL_law_1096 (by decide) ?_
  refine go_iaddN (pc := 1097) dL_law_1097  ?_
  refine go_sldN (pc := 1098) dL_law_1098 (by omega) (by omega) ?_
  refine go_cVi (pc := 1099) dL_law_1099 (cl_trace hC hW) lL_135 YX7_trace VX7_trace rfl rfl rfl (by decide) rfl (Nat.le_of_ble_eq_true rfl) (fun s1 h1 => ?_)
  obtain ⟨hC1, hf1⟩ := h1
  have hM1 := py_IM_fr hf1 hM
  refine go_aload_n (pc := 1102) dL_law_1102 rfl ?_
  refine go_aload_n (pc := 1103) dL_law_1103 rfl ?_
  refine go_iload_n (pc := 1104) dL_law_1104 rfl ?_
  refine go_iconst (v := nI 1) (pc := 1105) dL_law_1105 (by decide) ?_
  refine go_iaddN (pc := 1106) dL_law_1106  ?_
  refine go_sldN (pc := 1107) dL_law_1107 (by omega) (by omega) ?_
  refine go_cVi (pc := 1108) dL_law_1108 (mo_trace hM1 hW) lL_138 YX8_trace VX8_trace rfl rfl rfl (by decide) rfl (Nat.le_of_ble_eq_true rfl) (fun s2 h2 => ?_)
  obtain ⟨hM2, hf2⟩ := h2
  have hC2 := py_IC_fr hf2 hC1
  refine go_icmp_eq (tgt := 1152) (pc := 1111) dL_law_1111 (by decide) (fun c_1111 => ?_) (fun c_1111 => ?_)
  · refine go_iincN (c := 6) (pc := 1152) dL_law_1152 rfl (by decide) (by decide) rfl ?_
    refine go_goto (tgt := 18) (pc := 1155) dL_law_1155 (by decide) ?_
    exact ih s2 _ _ _ _ _ _ _ _ _ _ _ _ hC2 hM2 (hW)
  · exact absurd rfl c_1111
set_option maxHeartbeats 4000000 in
set_option maxRecDepth 100000 in
theorem lc_count {X : py_X} {i : Nat} {σ : py_H} {R : py_Rt} {q : Int32} {B : Nat → Nat} {N : Nat} {ft : Int32} {H : Nat → Nat} {n : Nat} {As : Nat → Nat → Nat} {I0 I1 : Option (Nat → Nat)} {t : Nat} {tr : Nat → Int32} (hX : X.1 ≤ 3072) (hi : i + 6 ≤ X.1) (ih : py_LN X (i + 6)) (hC : py_IC σ R q B N ft H n As I0 I1 t tr) (hM : py_IM σ R q B N ft H n As I0 I1 t tr) (hW : py_IW H n As I0 I1 t) : py_Go X RL cL_law 4 10 1116 [some (.ref 65), some (.ref 0), some (.ref 47), some (.int (nI i))] [] σ (py_vs (some (.int (nI 1))) (fun _ => True)) := by
  refine go_aload_n (pc := 1116) dL_law_1116 rfl ?_
  refine go_aload_n (pc := 1117) dL_law_1117 rfl ?_
  refine go_iload_n (pc := 1118) dL_law_1118 rfl ?_
  refine go_iconst (v := nI 1) (pc := 1119) dL_law_1119 (by decide) ?_
  refine go_iaddN (pc := 1120) dL_law_1120  ?_
  refine go_sldN (pc := 1121) dL_law_1121 (by omega) (by omega) ?_
  refine go_cVi (pc := 1122) dL_law_1122 (cl_count hC hW) lL_139 YX7_count VX7_count rfl rfl rfl (by decide) rfl (Nat.le_of_ble_eq_true rfl) (fun s1 h1 => ?_)
  obtain ⟨hC1, hf1⟩ := h1
  have hM1 := py_IM_fr hf1 hM
  refine go_aload_n (pc := 1125) dL_law_1125 rfl ?_
  refine go_aload_n (pc := 1126) dL_law_1126 rfl ?_
  refine go_iload_n (pc := 1127) dL_law_1127 rfl ?_
  refine go_iconst (v := nI 1) (pc := 1128) dL_law_1128 (by decide) ?_
  refine go_iaddN (pc := 1129) dL_law_1129  ?_
  refine go_sldN (pc := 1130) dL_law_1130 (by omega) (by omega) ?_
  refine go_cVi (pc := 1131) dL_law_1131 (mo_count hM1 hW) lL_142 YX8_count VX8_count rfl rfl rfl (by decide) rfl (Nat.le_of_ble_eq_true rfl) (fun s2 h2 => ?_)
  obtain ⟨hM2, hf2⟩ := h2
  have hC2 := py_IC_fr hf2 hC1
  refine go_icmp_eq (tgt := 1152) (pc := 1134) dL_law_1134 (by decide) (fun c_1134 => ?_) (fun c_1134 => ?_)
  · refine go_iincN (c := 6) (pc := 1152) dL_law_1152 rfl (by decide) (by decide) rfl ?_
    refine go_goto (tgt := 18) (pc := 1155) dL_law_1155 (by decide) ?_
    exact ih s2 _ _ _ _ _ _ _ _ _ _ _ _ hC2 hM2 (hW)
  · exact absurd rfl c_1134
set_option maxHeartbeats 4000000 in
set_option maxRecDepth 100000 in
theorem lc_status {X : py_X} {i : Nat} {σ : py_H} {R : py_Rt} {q : Int32} {B : Nat → Nat} {N : Nat} {ft : Int32} {H : Nat → Nat} {n : Nat} {As : Nat → Nat → Nat} {I0 I1 : Option (Nat → Nat)} {t : Nat} {tr : Nat → Int32} (hX : X.1 ≤ 3072) (hi : i + 6 ≤ X.1) (ih : py_LN X (i + 6)) (hC : py_IC σ R q B N ft H n As I0 I1 t tr) (hM : py_IM σ R q B N ft H n As I0 I1 t tr) (hW : py_IW H n As I0 I1 t) : py_Go X RL cL_law 4 10 1139 [some (.ref 65), some (.ref 0), some (.ref 47), some (.int (nI i))] [] σ (py_vs (some (.int (nI 1))) (fun _ => True)) := by
  refine go_aload_n (pc := 1139) dL_law_1139 rfl ?_
  refine go_cVi (pc := 1140) dL_law_1140 (cl_status hC hW) lL_143 YX7_status VX7_status rfl rfl rfl (by decide) rfl (Nat.le_of_ble_eq_true rfl) (fun s1 h1 => ?_)
  obtain ⟨hC1, hf1⟩ := h1
  have hM1 := py_IM_fr hf1 hM
  refine go_aload_n (pc := 1143) dL_law_1143 rfl ?_
  refine go_cVi (pc := 1144) dL_law_1144 (mo_status hM1 hW) lL_146 YX8_status VX8_status rfl rfl rfl (by decide) rfl (Nat.le_of_ble_eq_true rfl) (fun s2 h2 => ?_)
  obtain ⟨hM2, hf2⟩ := h2
  have hC2 := py_IC_fr hf2 hC1
  refine go_icmp_eq (tgt := 1152) (pc := 1147) dL_law_1147 (by decide) (fun c_1147 => ?_) (fun c_1147 => ?_)
  · refine go_iincN (c := 6) (pc := 1152) dL_law_1152 rfl (by decide) (by decide) rfl ?_
    refine go_goto (tgt := 18) (pc := 1155) dL_law_1155 (by decide) ?_
    exact ih s2 _ _ _ _ _ _ _ _ _ _ _ _ hC2 hM2 (hW)
  · exact absurd rfl c_1147
theorem py_and31 (x : Int32) : 0 ≤ ((x) &&& (nI 31)).toInt ∧ ((x) &&& (nI 31)).toInt ≤ 31 := by
  have e : ((x) &&& (nI 31)).toBitVec = x.toBitVec &&& 31#32 := rfl
  have h : (x.toBitVec &&& 31#32).toNat ≤ 31 := by
    rw [BitVec.toNat_and]
    exact Nat.and_le_right
  have h2 : ((x) &&& (nI 31)).toInt = ((x.toBitVec &&& 31#32).toNat : Int) := by
    show ((x) &&& (nI 31)).toBitVec.toInt = _
    rw [e, BitVec.toInt_eq_toNat_of_lt (by omega)]
  omega
set_option maxHeartbeats 4000000 in
set_option maxRecDepth 100000 in
theorem py_law1 {X : py_X} {i : Nat} (hX : X.1 ≤ 3072) (hi : i ≤ X.1) (ih : ∀ j, i < j → j ≤ X.1 → py_LN X j) : py_LN X i := by
  intro σ R q B N ft H n As I0 I1 t tr hC hM hW
  refine go_iload_n (pc := 18) dL_law_18 rfl ?_
  refine go_aload_n (pc := 19) dL_law_19 rfl ?_
  refine go_slen (v := nI X.1) (pc := 20) dL_law_20 rfl ?_
  refine go_bipush (v := nI 6) (pc := 21) dL_law_21 (by decide) ?_
  refine go_isub (pc := 23) dL_law_23  ?_
  have hls : (nI X.1 - nI 6).toInt = (X.1 : Int) - 6 := py_sub_toInt (by omega) (by decide)
  refine go_icmp_gtNJ (tgt := 1158) (pc := 24) dL_law_24 (by omega) (by decide) (fun c_24 => ?_) (fun c_24 => ?_)
  · refine go_iconst (v := nI 1) (pc := 1158) dL_law_1158 (by decide) ?_
    exact go_retI (pc := 1159) dL_law_1159 rfl trivial
  · refine go_aload_n (pc := 27) dL_law_27 rfl ?_
    refine go_iload_n (pc := 28) dL_law_28 rfl ?_
    refine go_sldN (pc := 29) dL_law_29 (by omega) (by omega) ?_
    refine go_bipush (v := nI 31) (pc := 30) dL_law_30 (by decide) ?_
    refine go_iand (pc := 32) dL_law_32 ?_
    have h31 := py_and31 (X.2 i)
    rcases (show ((((X.2 (i))) &&& ((nI 31)))).toInt = 0 ∨ ((((X.2 (i))) &&& ((nI 31)))).toInt = 1 ∨ ((((X.2 (i))) &&& ((nI 31)))).toInt = 2 ∨ ((((X.2 (i))) &&& ((nI 31)))).toInt = 3 ∨ ((((X.2 (i))) &&& ((nI 31)))).toInt = 4 ∨ ((((X.2 (i))) &&& ((nI 31)))).toInt = 5 ∨ ((((X.2 (i))) &&& ((nI 31)))).toInt = 6 ∨ ((((X.2 (i))) &&& ((nI 31)))).toInt = 7 ∨ ((((X.2 (i))) &&& ((nI 31)))).toInt = 8 ∨ ((((X.2 (i))) &&& ((nI 31)))).toInt = 9 ∨ ((((X.2 (i))) &&& ((nI 31)))).toInt = 10 ∨ ((((X.2 (i))) &&& ((nI 31)))).toInt = 11 ∨ ((((X.2 (i))) &&& ((nI 31)))).toInt = 12 ∨ ((((X.2 (i))) &&& ((nI 31)))).toInt = 13 ∨ ((((X.2 (i))) &&& ((nI 31)))).toInt = 14 ∨ ((((X.2 (i))) &&& ((nI 31)))).toInt = 15 ∨ ((((X.2 (i))) &&& ((nI 31)))).toInt = 16 ∨ ((((X.2 (i))) &&& ((nI 31)))).toInt = 17 ∨ ((((X.2 (i))) &&& ((nI 31)))).toInt = 18 ∨ ((((X.2 (i))) &&& ((nI 31)))).toInt = 19 ∨ ((((X.2 (i))) &&& ((nI 31)))).toInt = 20 ∨ ((((X.2 (i))) &&& ((nI 31)))).toInt = 21 ∨ ((((X.2 (i))) &&& ((nI 31)))).toInt = 22 ∨ ((((X.2 (i))) &&& ((nI 31)))).toInt = 23 ∨ ((((X.2 (i))) &&& ((nI 31)))).toInt = 24 ∨ ((((X.2 (i))) &&& ((nI 31)))).toInt = 25 ∨ ((((X.2 (i))) &&& ((nI 31)))).toInt = 26 ∨ ((((X.2 (i))) &&& ((nI 31)))).toInt = 27 ∨ ((((X.2 (i))) &&& ((nI 31)))).toInt = 28 ∨ ((((X.2 (i))) &&& ((nI 31)))).toInt = 29 ∨ ((((X.2 (i))) &&& ((nI 31)))).toInt = 30 ∨ ((((X.2 (i))) &&& ((nI 31)))).toInt = 31 by omega) with hk | hk | hk | hk | hk | hk | hk | hk | hk | hk | hk | hk | hk | hk | hk | hk | hk | hk | hk | hk | hk | hk | hk | hk | hk | hk | hk | hk | hk | hk | hk | hk
    · refine go_swIn (off := 143) (pc := 33) (tgt := 176) dL_law_33 (by omega) (by omega) (by rw [hk]; rfl) (by decide) ?_
      exact lc_row hX (by omega) (ih (i + 6) (by omega) (by omega)) hC hM hW
    · refine go_swIn (off := 186) (pc := 33) (tgt := 219) dL_law_33 (by omega) (by omega) (by rw [hk]; rfl) (by decide) ?_
      exact lc_set hX (by omega) (ih (i + 6) (by omega) (by omega)) hC hM hW
    · refine go_swIn (off := 229) (pc := 33) (tgt := 262) dL_law_33 (by omega) (by omega) (by rw [hk]; rfl) (by decide) ?_
      exact lc_copy hX (by omega) (ih (i + 6) (by omega) (by omega)) hC hM hW
    · refine go_swIn (off := 292) (pc := 33) (tgt := 325) dL_law_33 (by omega) (by omega) (by rw [hk]; rfl) (by decide) ?_
      exact lc_drop hX (by omega) (ih (i + 6) (by omega) (by omega)) hC hM hW
    · refine go_swIn (off := 315) (pc := 33) (tgt := 348) dL_law_33 (by omega) (by omega) (by rw [hk]; rfl) (by decide) ?_
      exact lc_feed hX (by omega) (ih (i + 6) (by omega) (by omega)) hC hM hW
    · refine go_swIn (off := 338) (pc := 33) (tgt := 371) dL_law_33 (by omega) (by omega) (by rw [hk]; rfl) (by decide) ?_
      exact lc_house hX (by omega) (ih (i + 6) (by omega) (by omega)) hC hM hW
    · refine go_swIn (off := 351) (pc := 33) (tgt := 384) dL_law_33 (by omega) (by omega) (by rw [hk]; rfl) (by decide) ?_
      exact lc_fault hX (by omega) (ih (i + 6) (by omega) (by omega)) hC hM hW
    · refine go_swIn (off := 364) (pc := 33) (tgt := 397) dL_law_33 (by omega) (by omega) (by rw [hk]; rfl) (by decide) ?_
      exact lc_years hX (by omega) (ih (i + 6) (by omega) (by omega)) hC hM hW
    · refine go_swIn (off := 387) (pc := 33) (tgt := 420) dL_law_33 (by omega) (by omega) (by rw [hk]; rfl) (by decide) ?_
      exact lc_deed hX (by omega) (ih (i + 6) (by omega) (by omega)) hC hM hW
    · refine go_swIn (off := 420) (pc := 33) (tgt := 453) dL_law_33 (by omega) (by omega) (by rw [hk]; rfl) (by decide) ?_
      exact lc_restore hX (by omega) (ih (i + 6) (by omega) (by omega)) hC hM hW
    · refine go_swIn (off := 453) (pc := 33) (tgt := 486) dL_law_33 (by omega) (by omega) (by rw [hk]; rfl) (by decide) ?_
      exact lc_hang hX (by omega) (ih (i + 6) (by omega) (by omega)) hC hM hW
    · refine go_swIn (off := 486) (pc := 33) (tgt := 519) dL_law_33 (by omega) (by omega) (by rw [hk]; rfl) (by decide) ?_
      exact lc_undo hX (by omega) (ih (i + 6) (by omega) (by omega)) hC hM hW
    · refine go_swIn (off := 499) (pc := 33) (tgt := 532) dL_law_33 (by omega) (by omega) (by rw [hk]; rfl) (by decide) ?_
      exact lc_picture hX (by omega) (ih (i + 6) (by omega) (by omega)) hC hM hW
    · refine go_swIn (off := 532) (pc := 33) (tgt := 565) dL_law_33 (by omega) (by omega) (by rw [hk]; rfl) (by decide) ?_
      exact lc_wall hX (by omega) (ih (i + 6) (by omega) (by omega)) hC hM hW
    · refine go_swIn (off := 565) (pc := 33) (tgt := 598) dL_law_33 (by omega) (by omega) (by rw [hk]; rfl) (by decide) ?_
      exact lc_remains hX (by omega) (ih (i + 6) (by omega) (by omega)) hC hM hW
    · refine go_swIn (off := 598) (pc := 33) (tgt := 631) dL_law_33 (by omega) (by omega) (by rw [hk]; rfl) (by decide) ?_
      exact lc_lives hX (by omega) (ih (i + 6) (by omega) (by omega)) hC hM hW
    · refine go_swIn (off := 621) (pc := 33) (tgt := 654) dL_law_33 (by omega) (by omega) (by rw [hk]; rfl) (by decide) ?_
      exact lc_dies hX (by omega) (ih (i + 6) (by omega) (by omega)) hC hM hW
    · refine go_swIn (off := 644) (pc := 33) (tgt := 677) dL_law_33 (by omega) (by omega) (by rw [hk]; rfl) (by decide) ?_
      exact lc_first hX (by omega) (ih (i + 6) (by omega) (by omega)) hC hM hW
    · refine go_swIn (off := 667) (pc := 33) (tgt := 700) dL_law_33 (by omega) (by omega) (by rw [hk]; rfl) (by decide) ?_
      exact lc_hanging hX (by omega) (ih (i + 6) (by omega) (by omega)) hC hM hW
    · refine go_swIn (off := 700) (pc := 33) (tgt := 733) dL_law_33 (by omega) (by omega) (by rw [hk]; rfl) (by decide) ?_
      exact lc_save hX (by omega) (ih (i + 6) (by omega) (by omega)) hC hM hW
    · refine go_swIn (off := 733) (pc := 33) (tgt := 766) dL_law_33 (by omega) (by omega) (by rw [hk]; rfl) (by decide) ?_
      exact lc_dark hX (by omega) (ih (i + 6) (by omega) (by omega)) hC hM hW
    · refine go_swIn (off := 766) (pc := 33) (tgt := 799) dL_law_33 (by omega) (by omega) (by rw [hk]; rfl) (by decide) ?_
      exact lc_fits hX (by omega) (ih (i + 6) (by omega) (by omega)) hC hM hW
    · refine go_swIn (off := 829) (pc := 33) (tgt := 862) dL_law_33 (by omega) (by omega) (by rw [hk]; rfl) (by decide) ?_
      exact lc_thieves hX (by omega) (ih (i + 6) (by omega) (by omega)) hC hM hW
    · refine go_swIn (off := 882) (pc := 33) (tgt := 915) dL_law_33 (by omega) (by omega) (by rw [hk]; rfl) (by decide) ?_
      exact lc_drawn hX (by omega) (ih (i + 6) (by omega) (by omega)) hC hM hW
    · refine go_swIn (off := 925) (pc := 33) (tgt := 958) dL_law_33 (by omega) (by omega) (by rw [hk]; rfl) (by decide) ?_
      exact lc_image hX (by omega) (ih (i + 6) (by omega) (by omega)) hC hM hW
    · refine go_swIn (off := 948) (pc := 33) (tgt := 981) dL_law_33 (by omega) (by omega) (by rw [hk]; rfl) (by decide) ?_
      exact lc_recall hX (by omega) (ih (i + 6) (by omega) (by omega)) hC hM hW
    · refine go_swIn (off := 971) (pc := 33) (tgt := 1004) dL_law_33 (by omega) (by omega) (by rw [hk]; rfl) (by decide) ?_
      exact lc_kind hX (by omega) (ih (i + 6) (by omega) (by omega)) hC hM hW
    · refine go_swIn (off := 994) (pc := 33) (tgt := 1027) dL_law_33 (by omega) (by omega) (by rw [hk]; rfl) (by decide) ?_
      exact lc_as hX (by omega) (ih (i + 6) (by omega) (by omega)) hC hM hW
    · refine go_swIn (off := 1027) (pc := 33) (tgt := 1060) dL_law_33 (by omega) (by omega) (by rw [hk]; rfl) (by decide) ?_
      exact lc_ask hX (by omega) (ih (i + 6) (by omega) (by omega)) hC hM hW
    · refine go_swIn (off := 1060) (pc := 33) (tgt := 1093) dL_law_33 (by omega) (by omega) (by rw [hk]; rfl) (by decide) ?_
      exact lc_trace hX (by omega) (ih (i + 6) (by omega) (by omega)) hC hM hW
    · refine go_swIn (off := 1083) (pc := 33) (tgt := 1116) dL_law_33 (by omega) (by omega) (by rw [hk]; rfl) (by decide) ?_
      exact lc_count hX (by omega) (ih (i + 6) (by omega) (by omega)) hC hM hW
    · refine go_swIn (off := 1106) (pc := 33) (tgt := 1139) dL_law_33 (by omega) (by omega) (by rw [hk]; rfl) (by decide) ?_
      exact lc_status hX (by omega) (ih (i + 6) (by omega) (by omega)) hC hM hW
theorem py_lawL {X : py_X} (hX : X.1 ≤ 3072) : ∀ k i, X.1 - i ≤ k → i ≤ X.1 → py_LN X i
  | 0, i, hk, hi => py_law1 hX hi (fun j h1 h2 => absurd h1 (by omega))
  | k + 1, i, hk, hi => py_law1 hX hi (fun j h1 h2 => py_lawL hX k j (by omega) h2)
