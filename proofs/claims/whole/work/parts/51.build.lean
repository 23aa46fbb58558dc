/-! THE LAYER OF MAKING: a constructor's body over a world that grows, its addresses as they are -/
def py_Nc (own : String) (cc : ByteArray) (nL d mc ms : Nat) (p : Program) (R : Room) (s : State) (m : MethodId) (args : Array Value) (meth : Method) (c : Code) (D : va_G) (cI cZ : ClassId) (A : Nat → Prop) : Prop :=
  p.tables.exec = Jvm.exec ∧ c.code = cc ∧ c.maxLocals = nL ∧ s.vm.findClass own = some m.cls ∧ (∀ w ∈ py_tb, w.before args s = true) ∧ va_K D vwCl (py_tys cI cZ) s ∧ (∀ q, s.heap.size ≤ q → A q) ∧ (d ≤ R.frames ∧ 200 * d ≤ R.locals) ∧ mc ≤ R.cells ∧ ms ≤ R.slots ∧ py_nest s ∧ meth.name = "<init>"
/-- FROM HERE: the frame at pc over the world ws, with a cells and b slots made, comes to its return with a world of which P holds -/
def py_Mk (own : String) (cc : ByteArray) (nL d mc ms : Nat) (D : va_G) (cI cZ : ClassId) (pc : Nat) (ls : List (Option Value)) (st : List Value) (ws : va_W) (a b : Nat) (P : va_W → Prop) : Prop :=
  ∀ (p : Program) (l : Launch) (e : Env) (R : Room) (s : State) (m : MethodId) (args : Array Value) (below : List Frame) (meth : Method) (c : Code) (A : Nat → Prop) (Q : State → Prop) (H : Heap) (locs : List Loc) (la : Array Slot),
    py_Nc own cc nL d mc ms p R s m args meth c D cI cZ A → va_P D vwCl ws H → va_D A ws → va_S A s.heap H locs → py_L la nL (fun k => k) ls →
    (∀ (w2 : va_W) (H2 : Heap) (locs2 : List Loc) (la2 : Array Slot) (pc2 : Nat), P w2 → va_P D vwCl w2 H2 → va_D A w2 → va_S A s.heap H2 locs2 → decode cc pc2 = .ok (.return_, 1) → W p l e R s m args below meth c H2 locs2 mc ms Q (F0 m pc2 la2 [])) →
    W p l e R s m args below meth c H locs a b Q (F0 m pc la st)
/-- a constructor's contract -/
def py_Cn (d : Nat) (y : MethodName) (cc : ByteArray) (nL mc ms : Nat) (D : va_G) (cI cZ : ClassId) (e0 : va_E) (P : Nat → va_W → Prop) : Prop :=
  ∀ (l : Launch) (sz h0 n : Nat), d ≤ n → Met l y (Cond.code y cc nL none :: py_tb) { frames := n, cells := mc, slots := ms, locals := 200 * n } (va_Pc [.ref h0] (fun U => U.heap.size = sz ∧ va_P D vwCl [(h0, e0)] U.heap ∧ va_K D vwCl (py_tys cI cZ) U ∧ py_nest U)) (va_Qv (fun w : va_W => P h0 w) (fun w t => va_P D vwCl w t.heap ∧ va_D (va_A [(h0, e0)] sz) w) (va_A [(h0, e0)] sz)) mc ms (va_A [(h0, e0)] sz)
theorem py_rg {α : Type} (w : List α) (x : α) : (List.range w.length).map (fun i => (w ++ [x])[i]?) = w.map some := by
  apply List.ext_getElem?
  intro i
  by_cases h : i < w.length
  · simp [h, List.getElem?_append_left h]
  · rw [List.getElem?_eq_none (by simp; omega), List.getElem?_eq_none (by simp; omega)]
section PYN
variable {own : String} {cc : ByteArray} {nL d mc ms : Nat} {D : va_G} {cI cZ : ClassId} {pc : Nat} {ls : List (Option Value)} {st : List Value} {ws : va_W} {a b : Nat} {P : va_W → Prop}
theorem mk_aload_n {i : Fin 4} {x : Nat} (hd : decode cc pc = .ok (.aload_n i, 1)) (hi : ls[(i : Nat)]? = some (some (.ref x))) (k : py_Mk own cc nL d mc ms D cI cZ (pc + 1) ls (.ref x :: st) ws a b P) : py_Mk own cc nL d mc ms D cI cZ pc ls st ws a b P := by
  intro p l e R s m args below meth c A Q H locs la C hP hD hS hL rt
  exact lv_aload_n C.1 C.2.1 hd rfl (hL.at hi) (k p l e R s m args below meth c A Q H locs la C hP hD hS hL rt)
theorem mk_iload_n {i : Fin 4} {x : Int32} (hd : decode cc pc = .ok (.iload_n i, 1)) (hi : ls[(i : Nat)]? = some (some (.int x))) (k : py_Mk own cc nL d mc ms D cI cZ (pc + 1) ls (.int x :: st) ws a b P) : py_Mk own cc nL d mc ms D cI cZ pc ls st ws a b P := by
  intro p l e R s m args below meth c A Q H locs la C hP hD hS hL rt
  exact lv_iload_n C.1 C.2.1 hd rfl (hL.at hi) (k p l e R s m args below meth c A Q H locs la C hP hD hS hL rt)
theorem mk_iconst {n : Int} {v : Int32} (hd : decode cc pc = .ok (.iconst n, 1)) (hv : Int32.ofInt n = v) (k : py_Mk own cc nL d mc ms D cI cZ (pc + 1) ls (.int v :: st) ws a b P) : py_Mk own cc nL d mc ms D cI cZ pc ls st ws a b P := by
  intro p l e R s m args below meth c A Q H locs la C hP hD hS hL rt
  exact lv_iconst C.1 C.2.1 hd hv (k p l e R s m args below meth c A Q H locs la C hP hD hS hL rt)
theorem mk_bipush {n : Int} {v : Int32} (hd : decode cc pc = .ok (.bipush n, 2)) (hv : (Int8.ofInt n).toInt32 = v) (k : py_Mk own cc nL d mc ms D cI cZ (pc + 2) ls (.int v :: st) ws a b P) : py_Mk own cc nL d mc ms D cI cZ pc ls st ws a b P := by
  intro p l e R s m args below meth c A Q H locs la C hP hD hS hL rt
  exact lv_bipush C.1 C.2.1 hd hv (k p l e R s m args below meth c A Q H locs la C hP hD hS hL rt)
theorem mk_sipush {n : Int} {v : Int32} (hd : decode cc pc = .ok (.sipush n, 3)) (hv : (Int16.ofInt n).toInt32 = v) (k : py_Mk own cc nL d mc ms D cI cZ (pc + 3) ls (.int v :: st) ws a b P) : py_Mk own cc nL d mc ms D cI cZ pc ls st ws a b P := by
  intro p l e R s m args below meth c A Q H locs la C hP hD hS hL rt
  exact lv_sipush C.1 C.2.1 hd hv (k p l e R s m args below meth c A Q H locs la C hP hD hS hL rt)
theorem mk_ldc {i : Nat} {v : Int32} (hd : decode cc pc = .ok (.ldc i, 2)) (hw : Cond.constant own i v ∈ py_tb) (k : py_Mk own cc nL d mc ms D cI cZ (pc + 2) ls (.int v :: st) ws a b P) : py_Mk own cc nL d mc ms D cI cZ pc ls st ws a b P := by
  intro p l e R s m args below meth c A Q H locs la C hP hD hS hL rt
  exact lv_ldc C.1 C.2.1 C.2.2.2.1 (C.2.2.2.2.1 _ hw) hd (k p l e R s m args below meth c A Q H locs la C hP hD hS hL rt)
theorem mk_dup {v : Value} (hd : decode cc pc = .ok (.dup, 1)) (h1 : v.category = 1) (k : py_Mk own cc nL d mc ms D cI cZ (pc + 1) ls (v :: v :: st) ws a b P) : py_Mk own cc nL d mc ms D cI cZ pc ls (v :: st) ws a b P := by
  intro p l e R s m args below meth c A Q H locs la C hP hD hS hL rt
  exact lv_dup C.1 C.2.1 hd h1 (k p l e R s m args below meth c A Q H locs la C hP hD hS hL rt)
theorem mk_istore_n {i : Fin 4} {x : Int32} (hd : decode cc pc = .ok (.istore_n i, 1)) (hn : (i : Nat) < nL) (hok : py_ok ls i = true) (k : py_Mk own cc nL d mc ms D cI cZ (pc + 1) (ls.set (i : Nat) (some (.int x))) st ws a b P) : py_Mk own cc nL d mc ms D cI cZ pc ls (.int x :: st) ws a b P := by
  intro p l e R s m args below meth c A Q H locs la C hP hD hS hL rt
  exact lv_istore_n C.1 C.2.1 hd rfl hL.lv hn rfl (fun la hl => k p l e R s m args below meth c A Q H locs la C hP hD hS (py_L.set1 (v := .int x) hok hl) rt)
theorem mk_iinc {i : Nat} {n : Int} {x v : Int32} (hd : decode cc pc = .ok (.iinc i n, 3)) (hi : ls[i]? = some (some (.int x))) (hv : x + Int32.ofInt n = v) (hn : i < nL) (hok : py_ok ls i = true) (k : py_Mk own cc nL d mc ms D cI cZ (pc + 3) (ls.set i (some (.int v))) st ws a b P) : py_Mk own cc nL d mc ms D cI cZ pc ls st ws a b P := by
  intro p l e R s m args below meth c A Q H locs la C hP hD hS hL rt
  obtain ⟨q, hq⟩ := List.getElem?_of_mem (py_lv_mem (ad := fun k => k) hi)
  exact lv_iinc C.1 C.2.1 hd hL.lv hq hv hn rfl (fun la hl => k p l e R s m args below meth c A Q H locs la C hP hD hS (py_L.set1 (v := .int v) hok hl) rt)
theorem mk_goto {off : Int} {tgt : Nat} (hd : decode cc pc = .ok (.goto off, 3)) (ht : (pc : Int) + off = (tgt : Int)) (k : py_Mk own cc nL d mc ms D cI cZ tgt ls st ws a b P) : py_Mk own cc nL d mc ms D cI cZ pc ls st ws a b P := by
  intro p l e R s m args below meth c A Q H locs la C hP hD hS hL rt
  exact lv_goto C.1 C.2.1 hd ht (k p l e R s m args below meth c A Q H locs la C hP hD hS hL rt)
theorem mk_icmp_ge {x y : Int32} {off : Int} {tgt : Nat} (hd : decode cc pc = .ok (.if_icmp .ge off, 3)) (ht : (pc : Int) + off = (tgt : Int)) (kt : y ≤ x → py_Mk own cc nL d mc ms D cI cZ tgt ls st ws a b P) (kf : ¬ (y ≤ x) → py_Mk own cc nL d mc ms D cI cZ (pc + 3) ls st ws a b P) : py_Mk own cc nL d mc ms D cI cZ pc ls (.int y :: .int x :: st) ws a b P := by
  intro p l e R s m args below meth c A Q H locs la C hP hD hS hL rt
  exact lv_icmp_ge C.1 C.2.1 hd ht (fun h => kt h p l e R s m args below meth c A Q H locs la C hP hD hS hL rt) (fun h => kf h p l e R s m args below meth c A Q H locs la C hP hD hS hL rt)
theorem mk_obj {idx x : Nat} (hd : decode cc pc = .ok (.invokespecial idx, 3)) (hl : Cond.methodLink own idx objectInit ∈ py_tb) (hi : Cond.instanceMethod objectInit ∈ py_tb) (hc : Cond.code objectInit ⟨#[0xb1]⟩ 1 none ∈ py_tb) (hd1 : 1 ≤ d) (k : py_Mk own cc nL d mc ms D cI cZ (pc + 3) ls [] ws a b P) : py_Mk own cc nL d mc ms D cI cZ pc ls [.ref x] ws a b P := by
  intro p l e R s m args below meth c A Q H locs la C hP hD hS hL rt
  have hf := C.2.2.2.2.2.2.2.1
  refine W.objInit C.1 C.2.1 C.2.2.2.1 (C.2.2.2.2.1 _ hl) (C.2.2.2.2.1 _ hi) (C.2.2.2.2.1 _ hc) rfl (hL.1.trans C.2.2.1.symm) rfl hd (by omega) (by show 2 * 0 + 0 + 12 ≤ R.locals; omega) ?_
  exact k p l e R s m args below meth c A Q H locs la C hP hD hS hL rt
theorem mk_newI {n : Nat} (hd : decode cc pc = .ok (.newarray .int, 2)) (hw : Cond.arrayClass .int ∈ py_tb) (hn : n < 100000) (hc : a + 1 ≤ mc) (hs : b + n ≤ ms) (k : ∀ q, py_Mk own cc nL d mc ms D cI cZ (pc + 2) ls (.ref q :: st) (ws ++ [(q, .inl (cI, n, .inl (fun _ => 0)))]) (a + 1) (b + n) P) : py_Mk own cc nL d mc ms D cI cZ pc ls (.int (nI n) :: st) ws a b P := by
  intro p l e R s m args below meth c A Q H locs la C hP hD hS hL rt
  have hr := C.2.2.2.2.2.2.2.2
  refine va_newa (atype := .int) (ty := .int) (a0 := (n, .inl (fun _ => 0))) C.1 C.2.1 (C.2.2.2.2.1 _ hw) rfl C.2.2.2.2.2.1 hP hD hS C.2.2.2.2.2.2.1 (fun _ => rfl) (nI_pos (by omega)) (nI_clamp (by omega)) (by show n * 4 ≤ 536870912; omega) (by omega) (by omega) hd (fun q cA H1 hK1 hP1 hD1 hS1 => ?_)
  have e1 : s.vm.findClass ("[" ++ FieldType.int.toString) = some cA := (hK1.2 2 (cA, .int) rfl).2
  have e2 : s.vm.findClass ("[" ++ FieldType.int.toString) = some cI := (C.2.2.2.2.2.1.2 0 (cI, .int) rfl).2
  have e3 : cA = cI := Option.some.inj (e1.symm.trans e2)
  subst e3
  exact k q p l e R s m args below meth c A Q H1 locs la C hP1 hD1 hS1 hL rt
theorem mk_newZ {n : Nat} (hd : decode cc pc = .ok (.newarray .boolean, 2)) (hw : Cond.arrayClass .boolean ∈ py_tb) (hn : n < 100000) (hc : a + 1 ≤ mc) (hs : b + n ≤ ms) (k : ∀ q, py_Mk own cc nL d mc ms D cI cZ (pc + 2) ls (.ref q :: st) (ws ++ [(q, .inl (cZ, n, .inl (fun _ => 0)))]) (a + 1) (b + n) P) : py_Mk own cc nL d mc ms D cI cZ pc ls (.int (nI n) :: st) ws a b P := by
  intro p l e R s m args below meth c A Q H locs la C hP hD hS hL rt
  have hr := C.2.2.2.2.2.2.2.2
  refine va_newa (atype := .boolean) (ty := .boolean) (a0 := (n, .inl (fun _ => 0))) C.1 C.2.1 (C.2.2.2.2.1 _ hw) rfl C.2.2.2.2.2.1 hP hD hS C.2.2.2.2.2.2.1 (fun _ => rfl) (nI_pos (by omega)) (nI_clamp (by omega)) (by show n * 1 ≤ 536870912; omega) (by omega) (by omega) hd (fun q cA H1 hK1 hP1 hD1 hS1 => ?_)
  have e1 : s.vm.findClass ("[" ++ FieldType.boolean.toString) = some cA := (hK1.2 2 (cA, .boolean) rfl).2
  have e2 : s.vm.findClass ("[" ++ FieldType.boolean.toString) = some cZ := (C.2.2.2.2.2.1.2 1 (cZ, .boolean) rfl).2
  have e3 : cA = cZ := Option.some.inj (e1.symm.trans e2)
  subst e3
  exact k q p l e R s m args below meth c A Q H1 locs la C hP1 hD1 hS1 hL rt
/-- a final field of references, in its own constructor -/
theorem mk_putF {idx ci nf j q0 x t : Nat} {ft : FieldType} {fs : List Value} (hd : decode cc pc = .ok (.putfield idx, 3)) (hf : py_F own idx ci nf j ft true) (hdc : ∀ C T, vwCl[ci]? = some (C, T, nf) → (T j).1 = own) (he : ws[q0]? = some (x, .inr (ci, fs))) (hn : narrow ft (.ref t) = .ref t ∧ fits ft (.ref t) = true) (hl : j < fs.length) (k : py_Mk own cc nL d mc ms D cI cZ (pc + 3) ls st (ws.set q0 (x, .inr (ci, fs.set j (.ref t)))) a b P) : py_Mk own cc nL d mc ms D cI cZ pc ls (.ref t :: .ref x :: st) ws a b P := by
  intro p l e R s m args below meth c A Q H locs la C hP hD hS hL rt
  obtain ⟨Cn, T, ty, ⟨c1, c2, c3, c4⟩, hj, hlk, ht, hfin⟩ := hf
  refine va_putF (D := D) (ci := ci) (v := .ref t) (ty := ft) (C := Cn) (T := T) (N := nf) (ref := (T j).1) C.1 C.2.1 C.2.2.2.2.1 c2 ty c3 c4 C.2.2.2.1 C.2.2.2.2.2.1 hP hD hS q0 (fs := fs) he c1 j hj (C.2.2.2.2.1 _ hlk) (fun _ h => h) hfin C.2.2.2.2.2.2.2.2.2.2.2 (hdc Cn T c1) (by rw [c3 j hj, ht]) hn.1 hn.2 hl hd (fun H1 locs1 hP1 hD1 hS1 => ?_)
  exact k p l e R s m args below meth c A Q H1 locs1 la C hP1 hD1 hS1 hL rt
theorem mk_getR {idx ci nf j q0 x t : Nat} {ft : FieldType} {fin : Bool} {fs : List Value} (hd : decode cc pc = .ok (.getfield idx, 3)) (hf : py_F own idx ci nf j ft fin) (he : ws[q0]? = some (x, .inr (ci, fs))) (hv : fs[j]? = some (.ref t)) (k : py_Mk own cc nL d mc ms D cI cZ (pc + 3) ls (.ref t :: st) ws a b P) : py_Mk own cc nL d mc ms D cI cZ pc ls (.ref x :: st) ws a b P := by
  intro p l e R s m args below meth c A Q H locs la C hP hD hS hL rt
  obtain ⟨Cn, T, ty, ⟨c1, c2, c3, c4⟩, hj, hlk, -, -⟩ := hf
  exact va_get (D := D) (ci := ci) (v := .ref t) (C := Cn) (T := T) (N := nf) (ref := (T j).1) C.1 C.2.1 C.2.2.2.2.1 c2 C.2.2.2.1 C.2.2.2.2.2.1 hP q0 (fs := fs) he c1 j hj (C.2.2.2.2.1 _ hlk) (fun _ h => h) hv hd (k p l e R s m args below meth c A Q H locs la C hP hD hS hL rt)
theorem mk_iast {q0 x n i : Nat} {v : Int32} {f : Nat → Int32} (hd : decode cc pc = .ok (.iastore, 1)) (he : ws[q0]? = some (x, .inl (cI, n, .inl f))) (hi : i < n) (hn : n < 100000) (k : py_Mk own cc nL d mc ms D cI cZ (pc + 1) ls st (ws.set q0 (x, .inl (cI, n, .inl (upd f i v)))) a b P) : py_Mk own cc nL d mc ms D cI cZ pc ls (.int v :: .int (nI i) :: .ref x :: st) ws a b P := by
  intro p l e R s m args below meth c A Q H locs la C hP hD hS hL rt
  refine va_iast C.1 C.2.1 C.2.2.2.2.2.1 hP hD hS q0 0 he rfl (vp_in_nI hi (by omega)) hd (fun H1 locs1 hP1 hD1 hS1 => ?_)
  rw [nI_clamp (by omega)] at hP1 hD1
  exact k p l e R s m args below meth c A Q H1 locs1 la C hP1 hD1 hS1 hL rt
theorem mk_new {idx ci nf : Nat} {Cn : String} {T : u_T} {ty : Nat → FieldType} {fs : List Value} (hd : decode cc pc = .ok (.new idx, 3)) (hC : py_Cl ci Cn T nf ty) (hcl : Cond.classLink own idx Cn ∈ py_tb) (hin : Cond.instantiable Cn nf ∈ py_tb) (hini : Cond.initialized Cn ∈ py_tb) (hfs : ∀ j, j < nf → defaultValue (ty j) = vp_V fs j) (hc : a + 1 ≤ mc) (hs : b + nf ≤ ms) (k : ∀ q, py_Mk own cc nL d mc ms D cI cZ (pc + 3) ls (.ref q :: st) (ws ++ [(q, .inr (ci, fs))]) (a + 1) (b + nf) P) : py_Mk own cc nL d mc ms D cI cZ pc ls st ws a b P := by
  intro p l e R s m args below meth c A Q H locs la C hP hD hS hL rt
  have hr := C.2.2.2.2.2.2.2.2
  obtain ⟨c1, c2, c3, c4⟩ := hC
  refine va_new (ci := ci) (fs := fs) (C := Cn) (T := T) (N := nf) C.1 C.2.1 C.2.2.2.2.1 c2 ty c3 C.2.2.2.1 (C.2.2.2.2.1 _ hcl) (C.2.2.2.2.1 _ hin) (C.2.2.2.2.1 _ hini) C.2.2.2.2.2.1 hP hD hS C.2.2.2.2.2.2.1 c1 hfs (by omega) (by omega) hd (fun q H1 hP1 hD1 hS1 => ?_)
  exact k q p l e R s m args below meth c A Q H1 locs la C hP1 hD1 hS1 hL rt
theorem py_cblind {e0 : va_E} {sz h0 : Nat} : FrameBlind (va_Pc [.ref h0] (fun U => U.heap.size = sz ∧ va_P D vwCl [(h0, e0)] U.heap ∧ va_K D vwCl (py_tys cI cZ) U ∧ py_nest U)) := fun a U g mk q => ⟨q.1, q.2.1, q.2.2.1, va_K.moved (u := U) (U := U.calling g mk a) (Vm.Alike.refl U.vm) q.2.2.2.1, q.2.2.2.2.same rfl⟩
/-- behind a constructor's call: the other cells, and what it made -/
theorem py_cafter {p : Program} {l : Launch} {e : Env} {R : Room} {s : State} {m : MethodId} {args : Array Value} {below : List Frame} {meth : Method} {c : Code} {A : Nat → Prop} {cells slots : Nat} {Q : State → Prop} {H : Heap} {locs : List Loc} {la : Array Slot} {st0 : List Value} {aa : Array Value} {mc1 ms1 q : Nat} {e0 : va_E} {P1 : va_W → Prop}
    (hr : va_Run p l e R s m args below meth c H locs cells slots mc1 ms1 (F0 m pc la st0) st (va_Qv (fun w : va_W => P1 w) (fun w t => va_P D vwCl w t.heap ∧ va_D (va_A [(q, e0)] H.size) w) (va_A [(q, e0)] H.size) aa) (va_A [(q, e0)] H.size))
    (hA : ∀ q, s.heap.size ≤ q → A q) (hP : va_P D vwCl (ws ++ [(q, e0)]) H) (hD : va_D A (ws ++ [(q, e0)])) (hS : va_S A s.heap H locs) (hn : va_nd (List.range ws.length) = true)
    (kk : ∀ (w2 : va_W) (H1 : Heap) (locs1 : List Loc), P1 w2 → va_P D vwCl (ws ++ w2) H1 → va_D A (ws ++ w2) → va_S A s.heap H1 locs1 → W p l e R s m args below meth c H1 locs1 (cells + mc1) (slots + ms1) Q (F0 m (pc + 3) la st)) : W p l e R s m args below meth c H locs cells slots Q (F0 m pc la st0) := by
  have hC : [ws.length].map (fun i => (ws ++ [(q, e0)])[i]?) = [(q, e0)].map some := by simp
  have hF := va_free (wc := [(q, e0)]) hD hS hA [ws.length] hC
  refine va_callv hr hS (fun x _ h => hF x h) hF (fun w2 t H1 locs1 ht hvm hw hB hz hk hS1 => ?_)
  obtain ⟨h1, h2⟩ := va_join (wc := [(q, e0)]) (wr := ws) (w1 := w2) hP hD [ws.length] (List.range ws.length) hC (py_rg ws (q, e0)) hn (fun i hi hj => by simp at hi hj; omega) hk hF (by rw [← ht]; exact hB.1) hB.2
  exact kk w2 H1 locs1 hw h1 h2 hS1
theorem mk_iI {idx d1 nL1 mc1 ms1 q : Nat} {y : MethodName} {cc1 : ByteArray} {e0 : va_E} {P1 : Nat → va_W → Prop} (hd : decode cc pc = .ok (.invokespecial idx, 3)) (hE : py_Cn d1 y cc1 nL1 mc1 ms1 D cI cZ e0 P1) (hl : Cond.methodLink own idx y ∈ py_tb) (hY : py_Y y cc1 nL1 none 0) (hi : Cond.instanceMethod y ∈ py_tb) (hy : y.name = "<init>") (hdp : d1 + 1 ≤ d) (hr : (st.map fun v => v.category).sum ≤ 8) (hn : va_nd (List.range ws.length) = true) (hc : a + mc1 ≤ mc) (hs : b + ms1 ≤ ms)
    (kk : ∀ w2, P1 q w2 → py_Mk own cc nL d mc ms D cI cZ (pc + 3) ls st (ws ++ w2) (a + mc1) (b + ms1) P) : py_Mk own cc nL d mc ms D cI cZ pc ls (.ref q :: st) (ws ++ [(q, e0)]) a b P := by
  intro p l e R s m args below meth c A Q H locs la C hP hD hS hL rt
  have hfl := C.2.2.2.2.2.2.2.1
  have hcs := C.2.2.2.2.2.2.2.2
  obtain ⟨y1, y2, y3, y4, y5⟩ := hY
  have hts := C.2.2.2.2.1
  have hM := hE l H.size q (d - 1) (by omega)
  have hPc : va_P D vwCl [(q, e0)] H := hP.sub [ws.length] (by simp)
  refine py_cafter (va_runI (b := q) (As := []) (rest := st) (g := F0 m pc la (.ref q :: st)) (cells := a) (slots := b) (locs := locs) (below := below) (meth := meth) (e := e) ⟨C.1, C.2.1, C.2.2.1, C.2.2.2.1, hts⟩ hM (cwI 0 hts (py_good_y y1) rfl rfl rfl (hts _ y2) (hts _ hl) (hts _ hi) hy y3 ⟨by show d - 1 + 1 ≤ R.frames; omega, by show 8 + (nL1 + 11) + 200 * (d - 1) ≤ R.locals; omega⟩)
    ⟨py_cblind, fun U hU hW => ⟨rfl, by rw [hU], by rw [hU]; exact hPc, C.2.2.2.2.2.1.moved hW.alike, C.2.2.2.2.2.2.2.2.2.2.1.warm hW⟩⟩ rfl rfl hL.1 rfl (lv_room hr) hd ⟨by omega, by omega⟩) C.2.2.2.2.2.2.1 hP hD hS hn (fun w2 H1 locs1 hw h1 h2 h3 => ?_)
  exact kk w2 hw p l e R s m args below meth c A Q H1 locs1 la C h1 h2 h3 hL rt
theorem mk_iN {idx d1 nL1 mc1 ms1 q : Nat} {y : MethodName} {host : String} {cc1 : ByteArray} {e0 : va_E} {P1 : Nat → va_W → Prop} (hd : decode cc pc = .ok (.invokespecial idx, 3)) (hE : py_Cn d1 y cc1 nL1 mc1 ms1 D cI cZ e0 P1) (hl : Cond.methodLinkNest own idx y host ∈ lw_tbl) (hY : py_Y y cc1 nL1 none 0) (hi : Cond.instanceMethod y ∈ py_tb) (hy : y.name = "<init>") (hdp : d1 + 1 ≤ d) (hr : (st.map fun v => v.category).sum ≤ 8) (hn : va_nd (List.range ws.length) = true) (hc : a + mc1 ≤ mc) (hs : b + ms1 ≤ ms)
    (kk : ∀ w2, P1 q w2 → py_Mk own cc nL d mc ms D cI cZ (pc + 3) ls st (ws ++ w2) (a + mc1) (b + ms1) P) : py_Mk own cc nL d mc ms D cI cZ pc ls (.ref q :: st) (ws ++ [(q, e0)]) a b P := by
  intro p l e R s m args below meth c A Q H locs la C hP hD hS hL rt
  have hfl := C.2.2.2.2.2.2.2.1
  have hcs := C.2.2.2.2.2.2.2.2
  obtain ⟨y1, y2, y3, y4, y5⟩ := hY
  have hts := C.2.2.2.2.1
  have hM := hE l H.size q (d - 1) (by omega)
  have hPc : va_P D vwCl [(q, e0)] H := hP.sub [ws.length] (by simp)
  refine py_cafter (va_runIN (b := q) (As := []) (rest := st) (g := F0 m pc la (.ref q :: st)) (cells := a) (slots := b) (locs := locs) (below := below) (meth := meth) (e := e) ⟨C.1, C.2.1, C.2.2.1, C.2.2.2.1, hts⟩ hM ⟨va_cnB 0 hts (py_good_y y1) rfl rfl rfl (C.2.2.2.2.2.2.2.2.2.2.1 _ _ _ _ hl) (hts _ y2) y3 ⟨by show d - 1 + 1 ≤ R.frames; omega, by show 8 + (nL1 + 11) + 200 * (d - 1) ≤ R.locals; omega⟩, hy, hts _ hi⟩
    ⟨py_cblind, fun U hU hW => ⟨rfl, by rw [hU], by rw [hU]; exact hPc, C.2.2.2.2.2.1.moved hW.alike, C.2.2.2.2.2.2.2.2.2.2.1.warm hW⟩⟩ rfl rfl hL.1 rfl (lv_room hr) hd ⟨by omega, by omega⟩) C.2.2.2.2.2.2.1 hP hD hS hn (fun w2 H1 locs1 hw h1 h2 h3 => ?_)
  exact kk w2 hw p l e R s m args below meth c A Q H1 locs1 la C h1 h2 h3 hL rt
theorem mk_ret (hd : decode cc pc = .ok (.return_, 1)) (hp : P ws) (ha : a = mc) (hb : b = ms) : py_Mk own cc nL d mc ms D cI cZ pc ls [] ws a b P := by
  intro p l e R s m args below meth c A Q H locs la C hP hD hS hL rt
  subst ha hb
  exact rt ws H locs la pc hp hP hD hS hd
theorem mk_ws {w2 : va_W} (e : ws = w2) (k : py_Mk own cc nL d mc ms D cI cZ pc ls st w2 a b P) : py_Mk own cc nL d mc ms D cI cZ pc ls st ws a b P := e ▸ k
end PYN
theorem py_Cn.of {d : Nat} {y : MethodName} {own : String} {cc : ByteArray} {nL mc ms : Nat} {D : va_G} {cI cZ : ClassId} {e0 : va_E} {P : Nat → va_W → Prop} (hy : plainName y.cls = true) (ho : y.cls = own) (hy1 : y.name = "<init>") (hn : 1 ≤ nL) (h : ∀ h0, py_Mk own cc nL d mc ms D cI cZ 0 (some (.ref h0) :: List.replicate (nL - 1) none) [] [(h0, e0)] 0 0 (P h0)) : py_Cn d y cc nL mc ms D cI cZ e0 P := by
  intro l sz h0 n hdn
  refine Met.ofW (cc := cc) (maxL := nL) (ret := none) hy rfl ?_
  intro p e s m args below meth c s₁ B hml hv
  obtain ⟨rfl, hsz, hP, hK, hN⟩ := hv
  subst hsz
  have hx := B.exec
  have hb := B.bytes
  have hrt := B.returns
  have hts := atoms_spec (ws := Cond.code y cc nL none :: py_tb) B.pre
  have hown : s.vm.findClass own = some m.cls := by rw [← ho]; exact findClass_of_methodNamed B.named
  have hin : meth.name = "<init>" := by rw [← hy1]; exact (name_of_methodNamed B.named B.method).1
  rw [lg_entry_eq]
  have hD : va_D (va_A [(h0, e0)] s.heap.size) [(h0, e0)] := by
    refine ⟨fun i j p q hi hj _ => ?_, fun k q hk => va_A.in hk⟩
    have a1 := (List.getElem?_eq_some_iff.mp hi).1
    have a2 := (List.getElem?_eq_some_iff.mp hj).1
    simp at a1 a2
    omega
  have hL := py_entry (av := [.ref h0]) (nL := nL) (ad := fun k => k) (by intro w hw; simp at hw; subst hw; rfl) (by simpa using hn)
  refine h h0 p l e _ s m _ below meth c (va_A [(h0, e0)] s.heap.size) _ s.heap [] _ ⟨hx, hb, hml, hown, fun w hw => hts w (List.mem_cons_of_mem _ hw), hK, fun q hq => Or.inr hq, ⟨hdn, by show 200 * d ≤ 200 * n; omega⟩, Nat.le_refl _, Nat.le_refl _, hN, hin⟩ hP hD va_S.rf hL ?_
  intro w2 H2 locs2 la2 pc2 hp2 hP2 hD2 hS2 hd2
  exact W.vret hx hb hrt (fun t ht _ => ⟨⟨w2, rfl, hp2, by rw [ht]; exact hP2, hD2⟩, hS2.F ht⟩) hS2.2.2 hd2
