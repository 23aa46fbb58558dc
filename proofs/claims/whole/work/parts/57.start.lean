/-! from the entry to the loop -/
set_option maxHeartbeats 4000000 in
set_option maxRecDepth 100000 in
theorem whole_start {p : Program} {e : Env} {s : State} {m : MethodId} {below : List Frame} {meth : Method} {c : Code} (l : Launch) (hflags : l.flags = flags0) {b L : Nat} {xs : Nat → Int32} (hL : L ≤ 3072) (C0 : lw_At p s m meth c b L xs) : W p l e room_1 s m #[Value.ref b] below meth c s.heap [] 0 0 (lw_Z below #[Value.ref b] s) (entryFrame m ([Value.ref b] : List Value).toArray 4) := by
  obtain ⟨hx, hb, hr, hml, hown, hts, hX, hbl, hlocks, hgv⟩ := C0
  have hown : s.vm.findClass RL = some m.cls := hown
  have hb : c.code = cL_law := hb
  have htb : ∀ w ∈ py_tb, w.before #[Value.ref b] s = true := fun w hw => hts w (List.mem_filter.mp hw).1
  have hnest : py_nest s := fun o i y h hw => va_Nw.of rfl (hts _ hw)
  have hA : ∀ q : Nat, s.heap.size ≤ q → (fun q : Nat => s.heap.size ≤ q) q := fun _ h => h
  have hbA : ¬ (fun q : Nat => s.heap.size ≤ q) b := Nat.not_le.mpr hbl
  have hO : ∀ a : Nat, a < s.heap.size → ¬ (fun q : Nat => s.heap.size ≤ q) a := fun a h => Nat.not_le.mpr h
  obtain ⟨D, cI, cZ, hK⟩ := py_known htb
  obtain ⟨t2, hZ2, hT2⟩ := py_st62 (A := fun q : Nat => s.heap.size ≤ q) hts hgv hO
  obtain ⟨t3, hZ3, hT3⟩ := py_st63 (A := fun q : Nat => s.heap.size ≤ q) hts hgv hO
  obtain ⟨t4, hZ4, hT4⟩ := py_st64 (A := fun q : Nat => s.heap.size ≤ q) hts hgv hO
  have hS : va_S (fun q : Nat => s.heap.size ≤ q) s.heap s.heap [] := va_S.rf
  have hP : va_P D vwCl [] s.heap := fun k q h => by simp at h
  have hD : va_D (fun q : Nat => s.heap.size ≤ q) [] := ⟨fun i j p q h => by simp at h, fun k q h => by simp at h⟩
  have hl := lv_entry ([.ref b]) (n := 4) (Nat.le_of_ble_eq_true rfl)
  rw [lg_entry_eq]
  generalize (lg_sl ([.ref b]) ++ List.replicate (4 - (lg_sl ([.ref b])).length) Slot.unset).toArray = ls at hl ⊢
  have hl : lv_has ls 4 [(0, .ref b)] := hl
  refine va_new (ci := 7) (fs := [.null, .null, .null, .null, .null, .null, .null, .null, .null, .int 0, .int 0]) (C := RX7) (T := TX7) (N := 11) hx hb htb clX7.2.1 tyX7 clX7.2.2.1 hown (htb _ klL_7) (htb _ kiX7) (htb _ YX7_init.2.1) hK hP hD hS hA clX7.1 (fun j hj => by rcases (show j = 0 ∨ j = 1 ∨ j = 2 ∨ j = 3 ∨ j = 4 ∨ j = 5 ∨ j = 6 ∨ j = 7 ∨ j = 8 ∨ j = 9 ∨ j = 10 by omega) with rfl | rfl | rfl | rfl | rfl | rfl | rfl | rfl | rfl | rfl | rfl <;> rfl) (Nat.le_of_ble_eq_true rfl) (Nat.le_of_ble_eq_true rfl) dL_law_0 (fun q0 H1 hP hD hS => ?_)
  refine lv_dup hx hb dL_law_3 rfl ?_
  have hPc : va_P D vwCl [(q0, .inr (7, [.null, .null, .null, .null, .null, .null, .null, .null, .null, .int 0, .int 0]))] H1 := hP.sub [(([] : va_W)).length] (by simp)
  refine py_cafter (ws := ([] : va_W)) (va_runI (b := q0) (As := []) (rest := [.ref q0]) (g := F0 m 4 ls [.ref q0, .ref q0]) ⟨hx, hb, hml, hown, htb⟩ (cn_X7 D cI cZ l H1.size q0 10 (by decide)) (cwI 0 htb (py_good_y YX7_init.1) rfl rfl rfl (htb _ YX7_init.2.1) (htb _ lL_9) (htb _ imX7) rfl YX7_init.2.2.1 ⟨Nat.le_of_ble_eq_true rfl, Nat.le_of_ble_eq_true rfl⟩) ⟨py_cblind, fun U hU hW => ⟨rfl, by rw [hU], by rw [hU]; exact hPc, hK.moved hW.alike, hnest.warm hW⟩⟩ rfl rfl hl.1 rfl (lv_room (Nat.le_of_ble_eq_true rfl)) dL_law_4 ⟨Nat.le_of_ble_eq_true rfl, Nat.le_of_ble_eq_true rfl⟩) hA hP hD hS (py_nd_rg _) (fun w2 H2 locs hw hP hD hS => ?_)
  obtain ⟨qf, ff, rfl⟩ := hw
  refine lv_astore_n (lv' := [(1, .ref q0), (0, .ref b)]) hx hb dL_law_7 rfl hl (by decide) rfl (fun ls hl => ?_)
  refine va_new (ci := 8) (fs := [.null, .null, .null, .null, .int 0, .null, .int 0, .int 0, .int 0, .int 0, .int 0, .int 0, .int 0, .null, .null, .null, .null, .int 0, .null, .null, .null, .null, .null, .int 0]) (C := RX8) (T := TX8) (N := 24) hx hb htb clX8.2.1 tyX8 clX8.2.2.1 hown (htb _ klL_10) (htb _ kiX8) (htb _ YX8_init.2.1) hK hP hD hS hA clX8.1 (fun j hj => by rcases (show j = 0 ∨ j = 1 ∨ j = 2 ∨ j = 3 ∨ j = 4 ∨ j = 5 ∨ j = 6 ∨ j = 7 ∨ j = 8 ∨ j = 9 ∨ j = 10 ∨ j = 11 ∨ j = 12 ∨ j = 13 ∨ j = 14 ∨ j = 15 ∨ j = 16 ∨ j = 17 ∨ j = 18 ∨ j = 19 ∨ j = 20 ∨ j = 21 ∨ j = 22 ∨ j = 23 by omega) with rfl | rfl | rfl | rfl | rfl | rfl | rfl | rfl | rfl | rfl | rfl | rfl | rfl | rfl | rfl | rfl | rfl | rfl | rfl | rfl | rfl | rfl | rfl | rfl <;> rfl) (Nat.le_of_ble_eq_true rfl) (Nat.le_of_ble_eq_true rfl) dL_law_8 (fun qm H3 hP hD hS => ?_)
  refine lv_dup hx hb dL_law_11 rfl ?_
  have hPc : va_P D vwCl [(qm, .inr (8, [.null, .null, .null, .null, .int 0, .null, .int 0, .int 0, .int 0, .int 0, .int 0, .int 0, .int 0, .null, .null, .null, .null, .int 0, .null, .null, .null, .null, .null, .int 0]))] H3 := hP.sub [(([] ++ pw_X7 cI q0 qf ff)).length] (by simp)
  refine py_cafter (ws := ([] ++ pw_X7 cI q0 qf ff)) (va_runI (b := qm) (As := []) (rest := [.ref qm]) (g := F0 m 12 ls [.ref qm, .ref qm]) ⟨hx, hb, hml, hown, htb⟩ (cn_X8 D cI cZ l H3.size qm 10 (by decide)) (cwI 0 htb (py_good_y YX8_init.1) rfl rfl rfl (htb _ YX8_init.2.1) (htb _ lL_12) (htb _ imX8) rfl YX8_init.2.2.1 ⟨Nat.le_of_ble_eq_true rfl, Nat.le_of_ble_eq_true rfl⟩) ⟨py_cblind, fun U hU hW => ⟨rfl, by rw [hU], by rw [hU]; exact hPc, hK.moved hW.alike, hnest.warm hW⟩⟩ rfl rfl hl.1 rfl (lv_room (Nat.le_of_ble_eq_true rfl)) dL_law_12 ⟨Nat.le_of_ble_eq_true rfl, Nat.le_of_ble_eq_true rfl⟩) hA hP hD hS (py_nd_rg _) (fun w2 H4 locs hw hP hD hS => ?_)
  obtain ⟨g, rfl⟩ := hw
  refine lv_astore_n (lv' := [(2, .ref qm), (1, .ref q0), (0, .ref b)]) hx hb dL_law_15 rfl hl (by decide) rfl (fun ls hl => ?_)
  refine lv_iconst (v := nI 0) hx hb dL_law_16 (by decide) ?_
  refine lv_istore_n (lv' := [(3, .int (nI 0)), (2, .ref qm), (1, .ref q0), (0, .ref b)]) hx hb dL_law_17 rfl hl (by decide) rfl (fun ls hl => ?_)
  have ew := py_w0 cI cZ q0 qm t2 t3 t4 b qf ff g
  have hP : va_P D vwCl (py_ws (py_ad q0 qm t2 t3 t4 b qf ff g) cI cZ py_s0) H4 := by rw [← ew]; exact hP
  have hD : va_D (fun q : Nat => s.heap.size ≤ q) (py_ws (py_ad q0 qm t2 t3 t4 b qf ff g) cI cZ py_s0) := by rw [← ew]; exact hD
  have hJ : py_J (py_ad q0 qm t2 t3 t4 b qf ff g) := fun i j hi hj e => hD.1 i j _ _ (py_ws_at _ cI cZ py_s0 hi) (py_ws_at _ cI cZ py_s0 hj) e
  have hAd : ∀ k, k < 62 → (fun q : Nat => s.heap.size ≤ q) (py_ad q0 qm t2 t3 t4 b qf ff g k) := fun k hk => hD.2 k _ (py_ws_at _ cI cZ py_s0 hk)
  have hSt : py_S (L, xs) (py_ad q0 qm t2 t3 t4 b qf ff g) (fun q : Nat => s.heap.size ≤ q) s s.heap := by
    refine ⟨fun k h1 h2 => ?_, py_scr hX hbA⟩
    rcases (show k = 62 ∨ k = 63 ∨ k = 64 by omega) with rfl | rfl | rfl
    · exact ⟨hZ2, hT2⟩
    · exact ⟨hZ3, hT3⟩
    · exact ⟨hZ4, hT4⟩
  have hgo := py_lawL (X := (L, xs)) hL L 0 (by show L - 0 ≤ L; omega) (Nat.zero_le _) py_s0 _ _ _ _ _ _ _ _ _ _ _ _ py_s0_IC py_s0_IM py_s0_IW
  have hLs : py_L ls 4 (py_ad q0 qm t2 t3 t4 b qf ff g) [some (.ref 65), some (.ref 0), some (.ref 47), some (.int (nI 0))] := by
    refine ⟨hl.1, hl.2.1, fun i v hv => ?_⟩
    match i, hv with
    | 0, hv => cases hv; exact hl.2.2 (0, .ref b) (by simp)
    | 1, hv => cases hv; exact hl.2.2 (1, .ref q0) (by simp)
    | 2, hv => cases hv; exact hl.2.2 (2, .ref qm) (by simp)
    | 3, hv => cases hv; exact hl.2.2 (3, .int (nI 0)) (by simp)
    | k + 4, hv => simp at hv
  refine hgo p l e room_1 s m #[Value.ref b] below meth c D _ cI cZ (fun q : Nat => s.heap.size ≤ q) _ _ _ H4 locs ls ⟨hx, hb, hml, hown, htb, hK, hJ, hAd, hSt, ⟨Nat.le_of_ble_eq_true rfl, Nat.le_of_ble_eq_true rfl⟩, Nat.le_of_ble_eq_true rfl, Nat.le_of_ble_eq_true rfl, hnest⟩ hP hS hLs ?_
  intro r σ2 H5 locs5 la5 pc5 hr5 hP5 hS5 hd5
  obtain ⟨rfl, -⟩ := hr5
  refine va_forget (fun q hq => hS5.2.2 q hq) ?_
  refine W.widen (k := 600000) (n := 7302249) (Nat.le_of_ble_eq_true rfl) (Nat.le_of_ble_eq_true rfl) ?_
  exact lw_ret hx hb hr hlocks hd5
