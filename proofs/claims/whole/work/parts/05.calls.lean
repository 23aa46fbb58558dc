/-! the layer's calls: a method's contract out of its body, a call by the contract -/
theorem py_good : GoodIn py_tb py_tb := fun w hw => ⟨hw, good_of_word (List.mem_filter.mp hw).2⟩
/-- the words of a method that is called: its code, its class, its parameters -/
def py_Y (y : MethodName) (cc : ByteArray) (nL : Nat) (ret : Option FieldType) (n : Nat) : Prop := Cond.code y cc nL ret ∈ py_tb ∧ Cond.initialized y.cls ∈ py_tb ∧ (y.cls ≠ "java/lang/invoke/MethodHandle" ∧ y.cls ≠ "java/lang/invoke/VarHandle" ∧ (parseMethodDescriptor y.desc).map (fun d => d.parameters.length) = some n) ∧ nL ≤ 100 ∧ plainName y.cls = true
def py_V (y : MethodName) : Prop := Cond.instanceMethod y ∈ py_tb ∧ Cond.selects y.cls y y ∈ py_tb
theorem py_good_y {y : MethodName} {cc : ByteArray} {nL : Nat} {ret : Option FieldType} (h : Cond.code y cc nL ret ∈ py_tb) : GoodIn py_tb (Cond.code y cc nL ret :: py_tb) := by
  intro w hw
  rcases List.mem_cons.mp hw with rfl | hw
  · exact py_good _ h
  · exact py_good _ hw
section PYC
variable {X : py_X} {own : String} {cc : ByteArray} {nL d pc : Nat} {ls : List (Option Value)} {st : List Value} {σ : py_H} {P P1 : py_P}
/-- behind a call -/
theorem py_after {p : Program} {l : Launch} {e : Env} {R : Room} {s : State} {m : MethodId} {args : Array Value} {below : List Frame} {meth : Method} {c : Code} {D : va_G} {ad : Nat → Nat} {cI cZ : ClassId} {A : Nat → Prop} {cells slots : Nat} {Q : State → Prop} {H : Heap} {locs : List Loc} {la : Array Slot} {st0 : List Value} {a : Array Value}
    (hr : va_Run p l e R s m args below meth c H locs cells slots 0 0 (F0 m pc la st0) (st.map (py_cv ad)) (py_Q D ad cI cZ P1 a) (py_A ad))
    (C : py_C X own cc nL d p R s m args c D ad cI cZ A cells slots) (hS : va_S A s.heap H locs) (hL : py_L la nL ad ls)
    (rt : ∀ (r : Option Value) (σ2 : py_H) (H2 : Heap) (locs2 : List Loc) (la2 : Array Slot) (pc2 : Nat), P r σ2 → va_P D vwCl (py_ws ad cI cZ σ2) H2 → va_S A s.heap H2 locs2 → decode cc pc2 = .ok (py_ri r, 1) → W p l e R s m args below meth c H2 locs2 cells slots Q (F0 m pc2 la2 (r.map (py_cv ad)).toList))
    (kk : ∀ (r1 : Option Value) (σ1 : py_H), P1 r1 σ1 → py_Go X own cc nL d (pc + 3) ls (r1.toList ++ st) σ1 P) : W p l e R s m args below meth c H locs cells slots Q (F0 m pc la st0) := by
  intro T hT Xs
  obtain ⟨v, st₀, t, T', L, h0, X', hLf, e1, e2, ⟨r1, σ1, hp1, hv, hP1, hz, hk⟩, stp⟩ := hr T hT Xs
  have hv2 : v = r1.map (py_cv ad) := by injection hv
  subst hv2
  have hfree : ∀ q, py_A ad q → A q := fun q ⟨k, hk, e⟩ => by rw [e]; exact C.2.2.2.2.2.2.2.1 k hk
  rw [h0] at hz hk
  have hS1 : va_S A s.heap T'.heap (locs ++ L) := ⟨Nat.le_trans hS.1 (by rw [e1]; exact hz), fun q h1 h2 => by
      rw [e1, hk q (Nat.lt_of_lt_of_le h1 hS.1) (fun z => h2 (hfree q z))]; exact hS.2.1 q h1 h2, fun q hq => by
      rcases List.mem_append.mp hq with h | h
      · exact hS.2.2 q h
      · exact hfree _ (hLf q h)⟩
  have W1 := kk r1 σ1 hp1 p l e R s m args below meth c D ad cI cZ A cells slots Q T'.heap (locs ++ L) la C (by rw [e1]; exact hP1) hS1 hL rt
  rw [List.map_append, show (r1.toList.map (py_cv ad)) = (r1.map (py_cv ad)).toList by cases r1 <;> rfl] at W1
  obtain ⟨t2, a1, b1⟩ := W1 T' rfl X'
  exact ⟨t2, stp t2 a1, b1⟩
theorem py_pre {p : Program} {R : Room} {s : State} {m : MethodId} {args : Array Value} {c : Code} {D : va_G} {ad : Nat → Nat} {cI cZ : ClassId} {A : Nat → Prop} {cells slots : Nat} {H : Heap} {locs : List Loc}
    (C : py_C X own cc nL d p R s m args c D ad cI cZ A cells slots) (hP : va_P D vwCl (py_ws ad cI cZ σ) H) (hS : va_S A s.heap H locs) {U : State} (hU : U.heap = H) (hW : s.WarmedH U.vm) : py_W X D ad cI cZ σ U := by
  have hfree : ∀ q, py_A ad q → A q := fun q ⟨k, hk, e⟩ => by rw [e]; exact C.2.2.2.2.2.2.2.1 k hk
  refine ⟨by rw [hU]; exact hP, C.2.2.2.2.2.1.moved hW.alike, C.2.2.2.2.2.2.1, ?_, C.2.2.2.2.2.2.2.2.2.2.2.2.warm hW⟩
  rw [hU]
  exact ((C.2.2.2.2.2.2.2.2.1.kept hS.2.1).moved hW.alike).narrow hfree
theorem py_blind {D : va_G} {ad : Nat → Nat} {cI cZ : ClassId} {av : List Value} : FrameBlind (va_Pc av (py_W X D ad cI cZ σ)) := fun a U g mk q => ⟨q.1, q.2.moved (U := U.calling g mk a) rfl rfl⟩
theorem go_callV {idx d1 n k ci nf nL1 : Nat} {y : MethodName} {cc1 : ByteArray} {ret : Option FieldType} {av st0 : List Value} (hd : decode cc pc = .ok (.invokevirtual idx, 3)) (hE : py_Ev X d1 y cc1 nL1 ret (.ref k :: av) σ P1) (hl : Cond.methodLink own idx y ∈ py_tb) (hY : py_Y y cc1 nL1 ret n) (hV : py_V y) (hk : py_O k = some (ci, nf)) (hc : (vwCl[ci]?).map (fun q => q.1) = some y.cls) (hn : av.length = n) (hdp : d1 + 1 ≤ d) (hst : st0 = av.reverse ++ .ref k :: st) (hr : (st.map fun v => v.category).sum ≤ 8)
    (kk : ∀ (r1 : Option Value) (σ1 : py_H), P1 r1 σ1 → py_Go X own cc nL d (pc + 3) ls (r1.toList ++ st) σ1 P) : py_Go X own cc nL d pc ls st0 σ P := by
  intro p l e R s m args below meth c D ad cI cZ A cells slots Q H locs la C hP hS hL rt
  have hz := py_sum ad st
  have hfl := C.2.2.2.2.2.2.2.2.2.1
  obtain ⟨y1, y2, y3, y4, y5⟩ := hY
  have hts := C.2.2.2.2.1
  have hM := hE l D ad cI cZ (d - 1) (by omega)
  have hCB : CallB R s args own idx y cc1 nL1 ret (Cond.code y cc1 nL1 ret :: py_tb) (py_rm (d - 1)) 0 0 n := callB_of n hts (py_good_y y1) rfl rfl rfl (hts _ y2) (hts _ hl) y3 ⟨by show d - 1 + 1 ≤ R.frames; omega, by show 8 + (nL1 + 11) + 200 * (d - 1) ≤ R.locals; omega⟩
  obtain ⟨q, hq, hqe⟩ := Option.map_eq_some_iff.mp hc
  have hrun := va_runV (b := ad k) (As := av.map (py_cv ad)) (rest := st.map (py_cv ad)) (g := F0 m pc la (st0.map (py_cv ad))) (cells := cells) (slots := slots) (locs := locs) (below := below) (meth := meth) (e := e) (C := y.cls) ⟨C.1, C.2.1, C.2.2.1, C.2.2.2.1, hts⟩ hM ⟨hCB, hts _ hV.1, hts _ hV.2⟩
    ⟨py_blind, by
      have h1 := va_recv (q0 := k) (ci := ci) (a := ad k) (fs := (List.range nf).map (py_fv ad σ k)) C.2.2.2.2.2.1 hP hq (by rw [py_ws_at ad cI cZ σ (py_O_lt hk), py_E_obj hk])
      rw [hqe] at h1
      exact h1, fun U hU hW => ⟨rfl, py_pre C hP hS hU hW⟩⟩ rfl (by rw [List.length_map]; exact hn) hL.1 (by rw [hst]; simp [py_cv]) (lv_room (by rw [hz]; exact hr)) hd ⟨C.2.2.2.2.2.2.2.2.2.2.1, C.2.2.2.2.2.2.2.2.2.2.2.1⟩
  exact py_after hrun C hS hL rt kk
theorem go_callS {idx d1 n nL1 : Nat} {y : MethodName} {cc1 : ByteArray} {ret : Option FieldType} {av st0 : List Value} (hd : decode cc pc = .ok (.invokestatic idx, 3)) (hE : py_Ev X d1 y cc1 nL1 ret av σ P1) (hl : Cond.methodLink own idx y ∈ py_tb) (hY : py_Y y cc1 nL1 ret n) (hV : Cond.static y ∈ py_tb) (hn : av.length = n) (hdp : d1 + 1 ≤ d) (hst : st0 = av.reverse ++ st) (hr : (st.map fun v => v.category).sum ≤ 8)
    (kk : ∀ (r1 : Option Value) (σ1 : py_H), P1 r1 σ1 → py_Go X own cc nL d (pc + 3) ls (r1.toList ++ st) σ1 P) : py_Go X own cc nL d pc ls st0 σ P := by
  intro p l e R s m args below meth c D ad cI cZ A cells slots Q H locs la C hP hS hL rt
  have hz := py_sum ad st
  have hfl := C.2.2.2.2.2.2.2.2.2.1
  obtain ⟨y1, y2, y3, y4, y5⟩ := hY
  have hts := C.2.2.2.2.1
  have hM := hE l D ad cI cZ (d - 1) (by omega)
  have hCB : CallB R s args own idx y cc1 nL1 ret (Cond.code y cc1 nL1 ret :: py_tb) (py_rm (d - 1)) 0 0 n := callB_of n hts (py_good_y y1) rfl rfl rfl (hts _ y2) (hts _ hl) y3 ⟨by show d - 1 + 1 ≤ R.frames; omega, by show 8 + (nL1 + 11) + 200 * (d - 1) ≤ R.locals; omega⟩
  have hrun := va_runS (As := av.map (py_cv ad)) (rest := st.map (py_cv ad)) (g := F0 m pc la (st0.map (py_cv ad))) (cells := cells) (slots := slots) (locs := locs) (below := below) (meth := meth) (e := e) ⟨C.1, C.2.1, C.2.2.1, C.2.2.2.1, hts⟩ hM ⟨hCB, hts _ hV⟩
    ⟨py_blind, fun U hU hW => ⟨rfl, py_pre C hP hS hU hW⟩⟩ rfl (by rw [List.length_map]; exact hn) hL.1 (by rw [hst]; simp) (lv_room (by rw [hz]; exact hr)) hd ⟨C.2.2.2.2.2.2.2.2.2.2.1, C.2.2.2.2.2.2.2.2.2.2.2.1⟩
  exact py_after hrun C hS hL rt kk
/-- a private static method of a nest mate -/
theorem go_callN {idx d1 n nL1 : Nat} {y : MethodName} {cc1 : ByteArray} {ret : Option FieldType} {host : String} {av st0 : List Value} (hd : decode cc pc = .ok (.invokestatic idx, 3)) (hE : py_Ev X d1 y cc1 nL1 ret av σ P1) (hl : Cond.methodLinkNest own idx y host ∈ lw_tbl) (hY : py_Y y cc1 nL1 ret n) (hV : Cond.static y ∈ py_tb) (hn : av.length = n) (hdp : d1 + 1 ≤ d) (hst : st0 = av.reverse ++ st) (hr : (st.map fun v => v.category).sum ≤ 8)
    (kk : ∀ (r1 : Option Value) (σ1 : py_H), P1 r1 σ1 → py_Go X own cc nL d (pc + 3) ls (r1.toList ++ st) σ1 P) : py_Go X own cc nL d pc ls st0 σ P := by
  intro p l e R s m args below meth c D ad cI cZ A cells slots Q H locs la C hP hS hL rt
  have hz := py_sum ad st
  have hfl := C.2.2.2.2.2.2.2.2.2.1
  obtain ⟨y1, y2, y3, y4, y5⟩ := hY
  have hts := C.2.2.2.2.1
  have hM := hE l D ad cI cZ (d - 1) (by omega)
  have hCN : va_CN R s args own idx y host cc1 nL1 ret (Cond.code y cc1 nL1 ret :: py_tb) (py_rm (d - 1)) 0 0 n := by
    refine ⟨⟨rfl, rfl, by show d - 1 + 1 ≤ R.frames; omega, by show 8 + (nL1 + 11) + 200 * (d - 1) ≤ R.locals; omega, pay_in hts (py_good_y y1), List.mem_cons_self⟩, hts _ y1, hts _ y2, ⟨y3.1, y3.2.1⟩, fun sig h => ?_, va_Nw.use rfl (C.2.2.2.2.2.2.2.2.2.2.2.2 _ _ _ _ hl)⟩
    have h2 := y3.2.2
    rw [h] at h2
    exact (Option.some.inj h2).symm
  have hrun := va_runSN (As := av.map (py_cv ad)) (rest := st.map (py_cv ad)) (g := F0 m pc la (st0.map (py_cv ad))) (cells := cells) (slots := slots) (locs := locs) (below := below) (meth := meth) (e := e) ⟨C.1, C.2.1, C.2.2.1, C.2.2.2.1, hts⟩ hM ⟨hCN, hts _ hV, trivial⟩
    ⟨py_blind, fun U hU hW => ⟨rfl, py_pre C hP hS hU hW⟩⟩ rfl (by rw [List.length_map]; exact hn) hL.1 (by rw [hst]; simp) (lv_room (by rw [hz]; exact hr)) hd ⟨C.2.2.2.2.2.2.2.2.2.2.1, C.2.2.2.2.2.2.2.2.2.2.2.1⟩
  exact py_after hrun C hS hL rt kk
/-! a contract out of the body -/
def py_in (av : List Value) (nL : Nat) : List (Option Value) := av.map some ++ List.replicate (nL - av.length) none
theorem py_args_mem : ∀ (av : List Value) (k i : Nat) (v : Value), (∀ w ∈ av, w.category = 1) → av[i]? = some v → (k + i, v) ∈ lv_args k av
  | [], k, i, v, _, h => by simp at h
  | w :: t, k, i, v, hc, h => by
    unfold lv_args
    have hw : w.category = 1 := hc w List.mem_cons_self
    rw [if_neg (by rw [hw]; decide)]
    match i, h with
    | 0, h =>
      simp only [List.getElem?_cons_zero, Option.some.injEq] at h
      subst h
      exact List.mem_cons_self
    | i + 1, h =>
      rw [List.getElem?_cons_succ] at h
      have h2 := py_args_mem t (k + 1) i v (fun x hx => hc x (List.mem_cons_of_mem _ hx)) h
      rw [show k + (i + 1) = k + 1 + i by omega]
      exact List.mem_cons_of_mem _ h2
theorem py_sl_len : ∀ (av : List Value), (∀ w ∈ av, w.category = 1) → (lg_sl av).length = av.length
  | [], _ => rfl
  | w :: t, hc => by
    have hw : w.category = 1 := hc w List.mem_cons_self
    have h2 := py_sl_len t (fun x hx => hc x (List.mem_cons_of_mem _ hx))
    simp [lg_sl, hw] at h2 ⊢
    exact h2
theorem py_entry {av : List Value} {nL : Nat} {ad : Nat → Nat} (hc : ∀ w ∈ av, w.category = 1) (hn : av.length ≤ nL) : py_L ((lg_sl (av.map (py_cv ad)) ++ List.replicate (nL - (lg_sl (av.map (py_cv ad))).length) Slot.unset).toArray) nL ad (py_in av nL) := by
  have hc2 : ∀ w ∈ av.map (py_cv ad), w.category = 1 := by
    intro w hw
    obtain ⟨v, hv, rfl⟩ := List.mem_map.mp hw
    rw [py_cat]
    exact hc v hv
  have hl := lv_entry (av.map (py_cv ad)) (n := nL) (by rw [py_sl_len _ hc2, List.length_map]; exact hn)
  refine ⟨hl.1, hl.2.1, fun i v hv => ?_⟩
  have hi : av[i]? = some v := by
    unfold py_in at hv
    by_cases h : i < av.length
    · rw [List.getElem?_append_left (by rw [List.length_map]; exact h), List.getElem?_map] at hv
      cases ha : av[i]? with
      | none => rw [ha] at hv; cases hv
      | some w => rw [ha] at hv; cases hv; rfl
    · rw [List.getElem?_append_right (by rw [List.length_map]; omega), List.getElem?_replicate] at hv
      split at hv <;> cases hv
  have h3 := hl.2.2 (0 + i, py_cv ad v) (py_args_mem _ 0 i _ hc2 (by rw [List.getElem?_map, hi]; rfl))
  simpa using h3
/-- what the method's own kind of return wants of its answer -/
def py_rok (ret : Option FieldType) (r : Option Value) : Prop := match ret, r with
  | none, none => True
  | some .int, some (.int _) => True
  | some .boolean, some (.int x) => x = 0 ∨ x = 1
  | some (.object _), some (.ref _) => True
  | _, _ => False
theorem py_Ev.of {y : MethodName} {ret : Option FieldType} {av : List Value} (hy : plainName y.cls = true) (ho : y.cls = own) (hc : ∀ w ∈ av, w.category = 1) (hn : av.length ≤ nL) (hr : ∀ r σ2, P r σ2 → py_rok ret r) (h : py_Go X own cc nL d 0 (py_in av nL) [] σ P) : py_Ev X d y cc nL ret av σ P := by
  intro l D ad cI cZ n hdn
  refine Met.ofW (cc := cc) (maxL := nL) (ret := ret) hy rfl ?_
  intro p e s m args below meth c s₁ B hml hv
  obtain ⟨rfl, hW⟩ := hv
  have hx := B.exec
  have hb := B.bytes
  have hrt := B.returns
  have hts := atoms_spec (ws := Cond.code y cc nL ret :: py_tb) B.pre
  have hown : s.vm.findClass own = some m.cls := by rw [← ho]; exact findClass_of_methodNamed B.named
  have hlocks := B.notSynchronized
  rw [lg_entry_eq]
  have C : py_C X own cc nL d p (headSpec (Cond.code y cc nL ret :: py_tb) (py_rm n)).room s m (av.map (py_cv ad)).toArray c D ad cI cZ (py_A ad) 0 0 := ⟨hx, hb, hml, hown, fun w hw => hts w (List.mem_cons_of_mem _ hw), hW.2.1, hW.2.2.1, fun k hk => ⟨k, hk, rfl⟩, hW.2.2.2.1, ⟨hdn, by show 200 * d ≤ 200 * n; omega⟩, Nat.le_refl _, Nat.le_refl _, hW.2.2.2.2⟩
  refine h p l e _ s m _ below meth c D ad cI cZ (py_A ad) 0 0 _ s.heap [] _ C hW.1 va_S.rf (py_entry hc hn) ?_
  intro r σ2 H2 locs2 la2 pc2 hp2 hP2 hS2 hd2
  have hq : ∀ t : State, t.heap = H2 → s.WarmedH t.vm → py_Q D ad cI cZ P (av.map (py_cv ad)).toArray s (.returned (r.map (py_cv ad))) t := fun t ht _ => ⟨r, σ2, hp2, rfl, by rw [ht]; exact hP2, hS2.F ht⟩
  have hr2 := hr r σ2 hp2
  match ret, r, hr2 with
  | none, none, _ => exact W.vret hx hb hrt hq hS2.2.2 hd2
  | some .int, some (.int x), _ => exact W.iret hx hb hrt hq hS2.2.2 hd2
  | some .boolean, some (.int x), hr =>
    refine W.zret hx hb hrt ?_ hq hS2.2.2 hd2
    rcases hr with rfl | rfl <;> rfl
  | some (.object _), some (.ref k), _ => exact W.aret hx hb hrt (Or.inl ⟨_, rfl⟩) (Or.inr ⟨_, rfl⟩) hq hS2.2.2 hd2
end PYC
