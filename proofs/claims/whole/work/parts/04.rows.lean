/-! the layer's rows: one an instruction -/
section PYG
variable {X : py_X} {own : String} {cc : ByteArray} {nL d pc : Nat} {ls : List (Option Value)} {st : List Value} {σ : py_H} {P : py_P}
theorem go_iadd {x y : Int32} (hd : decode cc pc = .ok (.iadd, 1))  (k : py_Go X own cc nL d (pc + 1) ls (.int (x + y) :: st) σ P) : py_Go X own cc nL d pc ls (.int y :: .int x :: st) σ P := by
  intro p l e R s m args below meth c D ad cI cZ A cells slots Q H locs la C hP hS hL rt
  exact lv_iadd C.1 C.2.1 hd  (k p l e R s m args below meth c D ad cI cZ A cells slots Q H locs la C hP hS hL rt)
theorem go_isub {x y : Int32} (hd : decode cc pc = .ok (.isub, 1))  (k : py_Go X own cc nL d (pc + 1) ls (.int (x - y) :: st) σ P) : py_Go X own cc nL d pc ls (.int y :: .int x :: st) σ P := by
  intro p l e R s m args below meth c D ad cI cZ A cells slots Q H locs la C hP hS hL rt
  exact lv_isub C.1 C.2.1 hd  (k p l e R s m args below meth c D ad cI cZ A cells slots Q H locs la C hP hS hL rt)
theorem go_imul {x y : Int32} (hd : decode cc pc = .ok (.imul, 1))  (k : py_Go X own cc nL d (pc + 1) ls (.int (x * y) :: st) σ P) : py_Go X own cc nL d pc ls (.int y :: .int x :: st) σ P := by
  intro p l e R s m args below meth c D ad cI cZ A cells slots Q H locs la C hP hS hL rt
  exact lv_imul C.1 C.2.1 hd  (k p l e R s m args below meth c D ad cI cZ A cells slots Q H locs la C hP hS hL rt)
theorem go_iand {x y : Int32} (hd : decode cc pc = .ok (.iand, 1))  (k : py_Go X own cc nL d (pc + 1) ls (.int (x &&& y) :: st) σ P) : py_Go X own cc nL d pc ls (.int y :: .int x :: st) σ P := by
  intro p l e R s m args below meth c D ad cI cZ A cells slots Q H locs la C hP hS hL rt
  exact lv_iand C.1 C.2.1 hd  (k p l e R s m args below meth c D ad cI cZ A cells slots Q H locs la C hP hS hL rt)
theorem go_ior {x y : Int32} (hd : decode cc pc = .ok (.ior, 1))  (k : py_Go X own cc nL d (pc + 1) ls (.int (x ||| y) :: st) σ P) : py_Go X own cc nL d pc ls (.int y :: .int x :: st) σ P := by
  intro p l e R s m args below meth c D ad cI cZ A cells slots Q H locs la C hP hS hL rt
  exact lv_ior C.1 C.2.1 hd  (k p l e R s m args below meth c D ad cI cZ A cells slots Q H locs la C hP hS hL rt)
theorem go_ixor {x y : Int32} (hd : decode cc pc = .ok (.ixor, 1))  (k : py_Go X own cc nL d (pc + 1) ls (.int (x ^^^ y) :: st) σ P) : py_Go X own cc nL d pc ls (.int y :: .int x :: st) σ P := by
  intro p l e R s m args below meth c D ad cI cZ A cells slots Q H locs la C hP hS hL rt
  exact lv_ixor C.1 C.2.1 hd  (k p l e R s m args below meth c D ad cI cZ A cells slots Q H locs la C hP hS hL rt)
theorem go_ishl {x y : Int32} (hd : decode cc pc = .ok (.ishl, 1))  (k : py_Go X own cc nL d (pc + 1) ls (.int (x <<< (y &&& 31)) :: st) σ P) : py_Go X own cc nL d pc ls (.int y :: .int x :: st) σ P := by
  intro p l e R s m args below meth c D ad cI cZ A cells slots Q H locs la C hP hS hL rt
  exact lv_ishl C.1 C.2.1 hd  (k p l e R s m args below meth c D ad cI cZ A cells slots Q H locs la C hP hS hL rt)
theorem go_ishr {x y : Int32} (hd : decode cc pc = .ok (.ishr, 1))  (k : py_Go X own cc nL d (pc + 1) ls (.int (x >>> (y &&& 31)) :: st) σ P) : py_Go X own cc nL d pc ls (.int y :: .int x :: st) σ P := by
  intro p l e R s m args below meth c D ad cI cZ A cells slots Q H locs la C hP hS hL rt
  exact lv_ishr C.1 C.2.1 hd  (k p l e R s m args below meth c D ad cI cZ A cells slots Q H locs la C hP hS hL rt)
theorem go_idiv {x y : Int32} (hd : decode cc pc = .ok (.idiv, 1)) (hne : ¬ y = 0) (k : py_Go X own cc nL d (pc + 1) ls (.int (x / y) :: st) σ P) : py_Go X own cc nL d pc ls (.int y :: .int x :: st) σ P := by
  intro p l e R s m args below meth c D ad cI cZ A cells slots Q H locs la C hP hS hL rt
  exact lv_idiv C.1 C.2.1 hd hne (k p l e R s m args below meth c D ad cI cZ A cells slots Q H locs la C hP hS hL rt)
theorem go_irem {x y : Int32} (hd : decode cc pc = .ok (.irem, 1)) (hne : ¬ y = 0) (k : py_Go X own cc nL d (pc + 1) ls (.int (x - x / y * y) :: st) σ P) : py_Go X own cc nL d pc ls (.int y :: .int x :: st) σ P := by
  intro p l e R s m args below meth c D ad cI cZ A cells slots Q H locs la C hP hS hL rt
  exact lv_irem C.1 C.2.1 hd hne (k p l e R s m args below meth c D ad cI cZ A cells slots Q H locs la C hP hS hL rt)
theorem go_ineg {x : Int32} (hd : decode cc pc = .ok (.ineg, 1))  (k : py_Go X own cc nL d (pc + 1) ls (.int (-x) :: st) σ P) : py_Go X own cc nL d pc ls (.int x :: st) σ P := by
  intro p l e R s m args below meth c D ad cI cZ A cells slots Q H locs la C hP hS hL rt
  exact lv_ineg C.1 C.2.1 hd  (k p l e R s m args below meth c D ad cI cZ A cells slots Q H locs la C hP hS hL rt)
theorem go_iushr {x y : Int32} (hd : decode cc pc = .ok (.iushr, 1))  (k : py_Go X own cc nL d (pc + 1) ls (.int ((x.toUInt32 >>> (y.toUInt32 &&& Int32.toUInt32 31)).toInt32) :: st) σ P) : py_Go X own cc nL d pc ls (.int y :: .int x :: st) σ P := by
  intro p l e R s m args below meth c D ad cI cZ A cells slots Q H locs la C hP hS hL rt
  exact lv_iushr C.1 C.2.1 hd rfl (k p l e R s m args below meth c D ad cI cZ A cells slots Q H locs la C hP hS hL rt)
theorem go_i2l {x : Int32} (hd : decode cc pc = .ok (.i2l, 1))  (k : py_Go X own cc nL d (pc + 1) ls (.long x.toInt64 :: st) σ P) : py_Go X own cc nL d pc ls (.int x :: st) σ P := by
  intro p l e R s m args below meth c D ad cI cZ A cells slots Q H locs la C hP hS hL rt
  exact lv_i2l C.1 C.2.1 hd rfl (k p l e R s m args below meth c D ad cI cZ A cells slots Q H locs la C hP hS hL rt)
theorem go_l2i {x : Int64} (hd : decode cc pc = .ok (.l2i, 1))  (k : py_Go X own cc nL d (pc + 1) ls (.int x.toInt32 :: st) σ P) : py_Go X own cc nL d pc ls (.long x :: st) σ P := by
  intro p l e R s m args below meth c D ad cI cZ A cells slots Q H locs la C hP hS hL rt
  exact lv_l2i C.1 C.2.1 hd rfl (k p l e R s m args below meth c D ad cI cZ A cells slots Q H locs la C hP hS hL rt)
theorem go_i2b {x : Int32} (hd : decode cc pc = .ok (.i2b, 1))  (k : py_Go X own cc nL d (pc + 1) ls (.int x.toInt8.toInt32 :: st) σ P) : py_Go X own cc nL d pc ls (.int x :: st) σ P := by
  intro p l e R s m args below meth c D ad cI cZ A cells slots Q H locs la C hP hS hL rt
  exact lv_i2b C.1 C.2.1 hd rfl (k p l e R s m args below meth c D ad cI cZ A cells slots Q H locs la C hP hS hL rt)
theorem go_i2s {x : Int32} (hd : decode cc pc = .ok (.i2s, 1))  (k : py_Go X own cc nL d (pc + 1) ls (.int x.toInt16.toInt32 :: st) σ P) : py_Go X own cc nL d pc ls (.int x :: st) σ P := by
  intro p l e R s m args below meth c D ad cI cZ A cells slots Q H locs la C hP hS hL rt
  exact lv_i2s C.1 C.2.1 hd rfl (k p l e R s m args below meth c D ad cI cZ A cells slots Q H locs la C hP hS hL rt)
theorem go_lmul {x y : Int64} (hd : decode cc pc = .ok (.lmul, 1))  (k : py_Go X own cc nL d (pc + 1) ls (.long (x * y) :: st) σ P) : py_Go X own cc nL d pc ls (.long y :: .long x :: st) σ P := by
  intro p l e R s m args below meth c D ad cI cZ A cells slots Q H locs la C hP hS hL rt
  exact lv_lmul C.1 C.2.1 hd  (k p l e R s m args below meth c D ad cI cZ A cells slots Q H locs la C hP hS hL rt)
theorem go_lrem {x y : Int64} (hd : decode cc pc = .ok (.lrem, 1)) (hne : ¬ y = 0) (k : py_Go X own cc nL d (pc + 1) ls (.long (x - x / y * y) :: st) σ P) : py_Go X own cc nL d pc ls (.long y :: .long x :: st) σ P := by
  intro p l e R s m args below meth c D ad cI cZ A cells slots Q H locs la C hP hS hL rt
  exact lv_lrem C.1 C.2.1 hd hne (k p l e R s m args below meth c D ad cI cZ A cells slots Q H locs la C hP hS hL rt)
theorem go_iconst {n : Int} {v : Int32} (hd : decode cc pc = .ok (.iconst n, 1)) (hv : Int32.ofInt n = v) (k : py_Go X own cc nL d (pc + 1) ls (.int v :: st) σ P) : py_Go X own cc nL d pc ls st σ P := by
  intro p l e R s m args below meth c D ad cI cZ A cells slots Q H locs la C hP hS hL rt
  exact lv_iconst C.1 C.2.1 hd hv (k p l e R s m args below meth c D ad cI cZ A cells slots Q H locs la C hP hS hL rt)
theorem go_bipush {n : Int} {v : Int32} (hd : decode cc pc = .ok (.bipush n, 2)) (hv : (Int8.ofInt n).toInt32 = v) (k : py_Go X own cc nL d (pc + 2) ls (.int v :: st) σ P) : py_Go X own cc nL d pc ls st σ P := by
  intro p l e R s m args below meth c D ad cI cZ A cells slots Q H locs la C hP hS hL rt
  exact lv_bipush C.1 C.2.1 hd hv (k p l e R s m args below meth c D ad cI cZ A cells slots Q H locs la C hP hS hL rt)
theorem go_sipush {n : Int} {v : Int32} (hd : decode cc pc = .ok (.sipush n, 3)) (hv : (Int16.ofInt n).toInt32 = v) (k : py_Go X own cc nL d (pc + 3) ls (.int v :: st) σ P) : py_Go X own cc nL d pc ls st σ P := by
  intro p l e R s m args below meth c D ad cI cZ A cells slots Q H locs la C hP hS hL rt
  exact lv_sipush C.1 C.2.1 hd hv (k p l e R s m args below meth c D ad cI cZ A cells slots Q H locs la C hP hS hL rt)
theorem go_ldc {i : Nat} {v : Int32} (hd : decode cc pc = .ok (.ldc i, 2)) (hw : Cond.constant own i v ∈ py_tb) (k : py_Go X own cc nL d (pc + 2) ls (.int v :: st) σ P) : py_Go X own cc nL d pc ls st σ P := by
  intro p l e R s m args below meth c D ad cI cZ A cells slots Q H locs la C hP hS hL rt
  exact lv_ldc C.1 C.2.1 C.2.2.2.1 (C.2.2.2.2.1 _ hw) hd (k p l e R s m args below meth c D ad cI cZ A cells slots Q H locs la C hP hS hL rt)
theorem go_ldcw {i : Nat} {v : Int32} (hd : decode cc pc = .ok (.ldc_w i, 3)) (hw : Cond.constant own i v ∈ py_tb) (k : py_Go X own cc nL d (pc + 3) ls (.int v :: st) σ P) : py_Go X own cc nL d pc ls st σ P := by
  intro p l e R s m args below meth c D ad cI cZ A cells slots Q H locs la C hP hS hL rt
  exact lv_ldcw C.1 C.2.1 C.2.2.2.1 (C.2.2.2.2.1 _ hw) hd (k p l e R s m args below meth c D ad cI cZ A cells slots Q H locs la C hP hS hL rt)
theorem go_ldc2 {i : Nat} {v : Int64} (hd : decode cc pc = .ok (.ldc2_w i, 3)) (hw : Cond.constantLong own i v ∈ py_tb) (k : py_Go X own cc nL d (pc + 3) ls (.long v :: st) σ P) : py_Go X own cc nL d pc ls st σ P := by
  intro p l e R s m args below meth c D ad cI cZ A cells slots Q H locs la C hP hS hL rt
  exact lv_ldc2 C.1 C.2.1 C.2.2.2.1 (C.2.2.2.2.1 _ hw) hd (k p l e R s m args below meth c D ad cI cZ A cells slots Q H locs la C hP hS hL rt)
theorem py_cat (ad : Nat → Nat) (v : Value) : (py_cv ad v).category = v.category := by cases v <;> rfl
theorem go_dup {v : Value} (hd : decode cc pc = .ok (.dup, 1)) (h1 : v.category = 1) (k : py_Go X own cc nL d (pc + 1) ls (v :: v :: st) σ P) : py_Go X own cc nL d pc ls (v :: st) σ P := by
  intro p l e R s m args below meth c D ad cI cZ A cells slots Q H locs la C hP hS hL rt
  exact lv_dup C.1 C.2.1 hd (by rw [py_cat]; exact h1) (k p l e R s m args below meth c D ad cI cZ A cells slots Q H locs la C hP hS hL rt)
theorem go_pop {v : Value} (hd : decode cc pc = .ok (.pop, 1)) (h1 : v.category = 1) (k : py_Go X own cc nL d (pc + 1) ls st σ P) : py_Go X own cc nL d pc ls (v :: st) σ P := by
  intro p l e R s m args below meth c D ad cI cZ A cells slots Q H locs la C hP hS hL rt
  exact lv_pop C.1 C.2.1 hd (by rw [py_cat]; exact h1) (k p l e R s m args below meth c D ad cI cZ A cells slots Q H locs la C hP hS hL rt)
theorem go_dup2 {v w : Value} (hd : decode cc pc = .ok (.dup2, 1)) (h1 : v.category = 1) (h2 : w.category = 1) (k : py_Go X own cc nL d (pc + 1) ls (v :: w :: v :: w :: st) σ P) : py_Go X own cc nL d pc ls (v :: w :: st) σ P := by
  intro p l e R s m args below meth c D ad cI cZ A cells slots Q H locs la C hP hS hL rt
  exact lv_dup2_11 C.1 C.2.1 hd (by rw [py_cat]; exact h1) (by rw [py_cat]; exact h2) (k p l e R s m args below meth c D ad cI cZ A cells slots Q H locs la C hP hS hL rt)
theorem py_L.at {la : Array Slot} {nL : Nat} {ad : Nat → Nat} {ls : List (Option Value)} (h : py_L la nL ad ls) {i : Nat} {v : Value} (hi : ls[i]? = some (some v)) : la[i]? = some (.val (py_cv ad v)) := h.2.2 i v hi
theorem go_iload {i : Nat} {x : Int32} (hd : decode cc pc = .ok (.iload i, 2)) (hi : ls[i]? = some (some (.int x))) (k : py_Go X own cc nL d (pc + 2) ls (.int x :: st) σ P) : py_Go X own cc nL d pc ls st σ P := by
  intro p l e R s m args below meth c D ad cI cZ A cells slots Q H locs la C hP hS hL rt
  exact lv_iload C.1 C.2.1 hd (hL.at hi) (k p l e R s m args below meth c D ad cI cZ A cells slots Q H locs la C hP hS hL rt)
theorem go_iload_n {i : Fin 4} {x : Int32} (hd : decode cc pc = .ok (.iload_n i, 1)) (hi : ls[(i : Nat)]? = some (some (.int x))) (k : py_Go X own cc nL d (pc + 1) ls (.int x :: st) σ P) : py_Go X own cc nL d pc ls st σ P := by
  intro p l e R s m args below meth c D ad cI cZ A cells slots Q H locs la C hP hS hL rt
  exact lv_iload_n C.1 C.2.1 hd rfl (hL.at hi) (k p l e R s m args below meth c D ad cI cZ A cells slots Q H locs la C hP hS hL rt)
theorem go_lload {i : Nat} {x : Int64} (hd : decode cc pc = .ok (.lload i, 2)) (hi : ls[i]? = some (some (.long x))) (k : py_Go X own cc nL d (pc + 2) ls (.long x :: st) σ P) : py_Go X own cc nL d pc ls st σ P := by
  intro p l e R s m args below meth c D ad cI cZ A cells slots Q H locs la C hP hS hL rt
  exact lv_lload C.1 C.2.1 hd (hL.at hi) (k p l e R s m args below meth c D ad cI cZ A cells slots Q H locs la C hP hS hL rt)
theorem go_lload_n {i : Fin 4} {x : Int64} (hd : decode cc pc = .ok (.lload_n i, 1)) (hi : ls[(i : Nat)]? = some (some (.long x))) (k : py_Go X own cc nL d (pc + 1) ls (.long x :: st) σ P) : py_Go X own cc nL d pc ls st σ P := by
  intro p l e R s m args below meth c D ad cI cZ A cells slots Q H locs la C hP hS hL rt
  exact lv_lload_n C.1 C.2.1 hd rfl (hL.at hi) (k p l e R s m args below meth c D ad cI cZ A cells slots Q H locs la C hP hS hL rt)
theorem go_aload {i : Nat} {x : Nat} (hd : decode cc pc = .ok (.aload i, 2)) (hi : ls[i]? = some (some (.ref x))) (k : py_Go X own cc nL d (pc + 2) ls (.ref x :: st) σ P) : py_Go X own cc nL d pc ls st σ P := by
  intro p l e R s m args below meth c D ad cI cZ A cells slots Q H locs la C hP hS hL rt
  exact lv_aload C.1 C.2.1 hd (hL.at hi) (k p l e R s m args below meth c D ad cI cZ A cells slots Q H locs la C hP hS hL rt)
theorem go_aload_n {i : Fin 4} {x : Nat} (hd : decode cc pc = .ok (.aload_n i, 1)) (hi : ls[(i : Nat)]? = some (some (.ref x))) (k : py_Go X own cc nL d (pc + 1) ls (.ref x :: st) σ P) : py_Go X own cc nL d pc ls st σ P := by
  intro p l e R s m args below meth c D ad cI cZ A cells slots Q H locs la C hP hS hL rt
  exact lv_aload_n C.1 C.2.1 hd rfl (hL.at hi) (k p l e R s m args below meth c D ad cI cZ A cells slots Q H locs la C hP hS hL rt)
def py_lv (ad : Nat → Nat) (ls : List (Option Value)) : List (Nat × Value) := (List.range ls.length).filterMap (fun i => match ls[i]? with
  | some (some v) => some (i, py_cv ad v)
  | _ => none)
theorem py_lv_mem {ad : Nat → Nat} {ls : List (Option Value)} {i : Nat} {v : Value} (h : ls[i]? = some (some v)) : (i, py_cv ad v) ∈ py_lv ad ls := by
  refine List.mem_filterMap.mpr ⟨i, List.mem_range.mpr (List.getElem?_eq_some_iff.mp h).1, ?_⟩
  rw [h]
theorem py_lv_of {ad : Nat → Nat} {ls : List (Option Value)} {q : Nat × Value} (h : q ∈ py_lv ad ls) : ∃ v, ls[q.1]? = some (some v) ∧ q.2 = py_cv ad v := by
  obtain ⟨i, -, hi⟩ := List.mem_filterMap.mp h
  match hl : ls[i]?, hi with
  | some (some v), hi =>
    cases hi
    exact ⟨v, hl, rfl⟩
  | some none, hi => cases hi
  | none, hi => cases hi
theorem py_L.lv {la : Array Slot} {nL : Nat} {ad : Nat → Nat} {ls : List (Option Value)} (h : py_L la nL ad ls) : lv_has la nL (py_lv ad ls) := by
  refine ⟨h.1, h.2.1, fun q hq => ?_⟩
  obtain ⟨v, h1, h2⟩ := py_lv_of hq
  rw [h2]
  exact h.2.2 _ _ h1
/-- no long's second half stands at i -/
def py_ok (ls : List (Option Value)) (i : Nat) : Bool := match i with
  | 0 => true
  | j + 1 => match ls[j]? with
    | some (some v) => v.category == 1
    | _ => true
theorem py_ok_ne {ls : List (Option Value)} {i j : Nat} {v : Value} (h : py_ok ls i = true) (hj : ls[j]? = some (some v)) (e : j + 1 = i) : v.category = 1 := by
  subst e
  have h2 : (match ls[j]? with
    | some (some v) => v.category == 1
    | _ => true) = true := h
  rw [hj] at h2
  simpa using h2
theorem py_L.set1 {la : Array Slot} {nL : Nat} {ad : Nat → Nat} {ls : List (Option Value)} {i : Nat} {v : Value} (hok : py_ok ls i = true) (h : lv_has la nL ((i, py_cv ad v) :: (py_lv ad ls).filter (fun q => !(q.1 == i) && !(q.1 + 1 == i && q.2.category == 2)))) : py_L la nL ad (ls.set i (some v)) := by
  refine ⟨h.1, h.2.1, fun j w hw => ?_⟩
  by_cases hij : i = j
  · subst hij
    have hlt : i < ls.length := by
      have := (List.getElem?_eq_some_iff.mp hw).1
      rwa [List.length_set] at this
    rw [List.getElem?_set_self hlt] at hw
    cases hw
    exact h.2.2 _ List.mem_cons_self
  · rw [List.getElem?_set_ne hij] at hw
    refine h.2.2 (j, py_cv ad w) (List.mem_cons_of_mem _ (List.mem_filter.mpr ⟨py_lv_mem hw, ?_⟩))
    have h1 : (j == i) = false := by simp [Ne.symm hij]
    dsimp only
    rw [h1, py_cat]
    by_cases hj1 : j + 1 = i
    · rw [py_ok_ne hok hw hj1]; simp
    · simp [hj1]
theorem py_L.set2 {la : Array Slot} {nL : Nat} {ad : Nat → Nat} {ls : List (Option Value)} {i : Nat} {v : Value} (hok : py_ok ls i = true) (h : lv_has la nL ((i, py_cv ad v) :: (py_lv ad ls).filter (fun q => !(q.1 == i) && (!(q.1 == i + 1) && !(q.1 + 1 == i && q.2.category == 2))))) : py_L la nL ad ((ls.set i (some v)).set (i + 1) none) := by
  refine ⟨h.1, h.2.1, fun j w hw => ?_⟩
  by_cases hj2 : i + 1 = j
  · exfalso
    subst hj2
    have hlt : i + 1 < (ls.set i (some v)).length := by
      have := (List.getElem?_eq_some_iff.mp hw).1
      rwa [List.length_set] at this
    rw [List.getElem?_set_self hlt] at hw
    cases hw
  rw [List.getElem?_set_ne hj2] at hw
  by_cases hij : i = j
  · subst hij
    have hlt : i < ls.length := by
      have := (List.getElem?_eq_some_iff.mp hw).1
      rwa [List.length_set] at this
    rw [List.getElem?_set_self hlt] at hw
    cases hw
    exact h.2.2 _ List.mem_cons_self
  · rw [List.getElem?_set_ne hij] at hw
    refine h.2.2 (j, py_cv ad w) (List.mem_cons_of_mem _ (List.mem_filter.mpr ⟨py_lv_mem hw, ?_⟩))
    have h1 : (j == i) = false := by simp [Ne.symm hij]
    have h2 : (j == i + 1) = false := by simp [Ne.symm hj2]
    dsimp only
    rw [h1, h2, py_cat]
    by_cases hj1 : j + 1 = i
    · rw [py_ok_ne hok hw hj1]; simp
    · simp [hj1]
theorem go_istore {i : Nat} {x : Int32} (hd : decode cc pc = .ok (.istore i, 2)) (hn : i < nL) (hok : py_ok ls i = true) (k : py_Go X own cc nL d (pc + 2) (ls.set i (some (.int x))) st σ P) : py_Go X own cc nL d pc ls (.int x :: st) σ P := by
  intro p l e R s m args below meth c D ad cI cZ A cells slots Q H locs la C hP hS hL rt
  exact lv_istore C.1 C.2.1 hd hL.lv hn rfl (fun la hl => k p l e R s m args below meth c D ad cI cZ A cells slots Q H locs la C hP hS (py_L.set1 (v := .int x) hok hl) rt)
theorem go_istore_n {i : Fin 4} {x : Int32} (hd : decode cc pc = .ok (.istore_n i, 1)) (hn : (i : Nat) < nL) (hok : py_ok ls i = true) (k : py_Go X own cc nL d (pc + 1) (ls.set (i : Nat) (some (.int x))) st σ P) : py_Go X own cc nL d pc ls (.int x :: st) σ P := by
  intro p l e R s m args below meth c D ad cI cZ A cells slots Q H locs la C hP hS hL rt
  exact lv_istore_n C.1 C.2.1 hd rfl hL.lv hn rfl (fun la hl => k p l e R s m args below meth c D ad cI cZ A cells slots Q H locs la C hP hS (py_L.set1 (v := .int x) hok hl) rt)
theorem go_astore {i : Nat} {x : Nat} (hd : decode cc pc = .ok (.astore i, 2)) (hn : i < nL) (hok : py_ok ls i = true) (k : py_Go X own cc nL d (pc + 2) (ls.set i (some (.ref x))) st σ P) : py_Go X own cc nL d pc ls (.ref x :: st) σ P := by
  intro p l e R s m args below meth c D ad cI cZ A cells slots Q H locs la C hP hS hL rt
  exact lv_astore C.1 C.2.1 hd hL.lv hn rfl (fun la hl => k p l e R s m args below meth c D ad cI cZ A cells slots Q H locs la C hP hS (py_L.set1 (v := .ref x) hok hl) rt)
theorem go_astore_n {i : Fin 4} {x : Nat} (hd : decode cc pc = .ok (.astore_n i, 1)) (hn : (i : Nat) < nL) (hok : py_ok ls i = true) (k : py_Go X own cc nL d (pc + 1) (ls.set (i : Nat) (some (.ref x))) st σ P) : py_Go X own cc nL d pc ls (.ref x :: st) σ P := by
  intro p l e R s m args below meth c D ad cI cZ A cells slots Q H locs la C hP hS hL rt
  exact lv_astore_n C.1 C.2.1 hd rfl hL.lv hn rfl (fun la hl => k p l e R s m args below meth c D ad cI cZ A cells slots Q H locs la C hP hS (py_L.set1 (v := .ref x) hok hl) rt)
theorem go_lstore {i : Nat} {x : Int64} (hd : decode cc pc = .ok (.lstore i, 2)) (hn : i + 1 < nL) (hok : py_ok ls i = true) (k : py_Go X own cc nL d (pc + 2) ((ls.set i (some (.long x))).set (i + 1) none) st σ P) : py_Go X own cc nL d pc ls (.long x :: st) σ P := by
  intro p l e R s m args below meth c D ad cI cZ A cells slots Q H locs la C hP hS hL rt
  exact lv_lstore C.1 C.2.1 hd hL.lv hn rfl (fun la hl => k p l e R s m args below meth c D ad cI cZ A cells slots Q H locs la C hP hS (py_L.set2 (v := .long x) hok hl) rt)
theorem go_iinc {i : Nat} {n : Int} {x v : Int32} (hd : decode cc pc = .ok (.iinc i n, 3)) (hi : ls[i]? = some (some (.int x))) (hv : x + Int32.ofInt n = v) (hn : i < nL) (hok : py_ok ls i = true) (k : py_Go X own cc nL d (pc + 3) (ls.set i (some (.int v))) st σ P) : py_Go X own cc nL d pc ls st σ P := by
  intro p l e R s m args below meth c D ad cI cZ A cells slots Q H locs la C hP hS hL rt
  obtain ⟨q, hq⟩ := List.getElem?_of_mem (py_lv_mem (ad := ad) hi)
  exact lv_iinc C.1 C.2.1 hd hL.lv hq hv hn rfl (fun la hl => k p l e R s m args below meth c D ad cI cZ A cells slots Q H locs la C hP hS (py_L.set1 (v := .int v) hok hl) rt)
theorem go_if_eq {x : Int32} {off : Int} {tgt : Nat} (hd : decode cc pc = .ok (.ifCond .eq off, 3)) (ht : (pc : Int) + off = (tgt : Int)) (kt : x = 0 → py_Go X own cc nL d tgt ls st σ P) (kf : ¬ (x = 0) → py_Go X own cc nL d (pc + 3) ls st σ P) : py_Go X own cc nL d pc ls (.int x :: st) σ P := by
  intro p l e R s m args below meth c D ad cI cZ A cells slots Q H locs la C hP hS hL rt
  exact lv_if_eq C.1 C.2.1 hd ht (fun h => kt h p l e R s m args below meth c D ad cI cZ A cells slots Q H locs la C hP hS hL rt) (fun h => kf h p l e R s m args below meth c D ad cI cZ A cells slots Q H locs la C hP hS hL rt)
theorem go_if_ne {x : Int32} {off : Int} {tgt : Nat} (hd : decode cc pc = .ok (.ifCond .ne off, 3)) (ht : (pc : Int) + off = (tgt : Int)) (kt : ¬ x = 0 → py_Go X own cc nL d tgt ls st σ P) (kf : x = 0 → py_Go X own cc nL d (pc + 3) ls st σ P) : py_Go X own cc nL d pc ls (.int x :: st) σ P := by
  intro p l e R s m args below meth c D ad cI cZ A cells slots Q H locs la C hP hS hL rt
  exact lv_if_ne C.1 C.2.1 hd ht (fun h => kt h p l e R s m args below meth c D ad cI cZ A cells slots Q H locs la C hP hS hL rt) (fun h => kf h p l e R s m args below meth c D ad cI cZ A cells slots Q H locs la C hP hS hL rt)
theorem go_if_lt {x : Int32} {off : Int} {tgt : Nat} (hd : decode cc pc = .ok (.ifCond .lt off, 3)) (ht : (pc : Int) + off = (tgt : Int)) (kt : x < 0 → py_Go X own cc nL d tgt ls st σ P) (kf : ¬ (x < 0) → py_Go X own cc nL d (pc + 3) ls st σ P) : py_Go X own cc nL d pc ls (.int x :: st) σ P := by
  intro p l e R s m args below meth c D ad cI cZ A cells slots Q H locs la C hP hS hL rt
  exact lv_if_lt C.1 C.2.1 hd ht (fun h => kt h p l e R s m args below meth c D ad cI cZ A cells slots Q H locs la C hP hS hL rt) (fun h => kf h p l e R s m args below meth c D ad cI cZ A cells slots Q H locs la C hP hS hL rt)
theorem go_if_ge {x : Int32} {off : Int} {tgt : Nat} (hd : decode cc pc = .ok (.ifCond .ge off, 3)) (ht : (pc : Int) + off = (tgt : Int)) (kt : 0 ≤ x → py_Go X own cc nL d tgt ls st σ P) (kf : ¬ (0 ≤ x) → py_Go X own cc nL d (pc + 3) ls st σ P) : py_Go X own cc nL d pc ls (.int x :: st) σ P := by
  intro p l e R s m args below meth c D ad cI cZ A cells slots Q H locs la C hP hS hL rt
  exact lv_if_ge C.1 C.2.1 hd ht (fun h => kt h p l e R s m args below meth c D ad cI cZ A cells slots Q H locs la C hP hS hL rt) (fun h => kf h p l e R s m args below meth c D ad cI cZ A cells slots Q H locs la C hP hS hL rt)
theorem go_if_gt {x : Int32} {off : Int} {tgt : Nat} (hd : decode cc pc = .ok (.ifCond .gt off, 3)) (ht : (pc : Int) + off = (tgt : Int)) (kt : 0 < x → py_Go X own cc nL d tgt ls st σ P) (kf : ¬ (0 < x) → py_Go X own cc nL d (pc + 3) ls st σ P) : py_Go X own cc nL d pc ls (.int x :: st) σ P := by
  intro p l e R s m args below meth c D ad cI cZ A cells slots Q H locs la C hP hS hL rt
  exact lv_if_gt C.1 C.2.1 hd ht (fun h => kt h p l e R s m args below meth c D ad cI cZ A cells slots Q H locs la C hP hS hL rt) (fun h => kf h p l e R s m args below meth c D ad cI cZ A cells slots Q H locs la C hP hS hL rt)
theorem go_if_le {x : Int32} {off : Int} {tgt : Nat} (hd : decode cc pc = .ok (.ifCond .le off, 3)) (ht : (pc : Int) + off = (tgt : Int)) (kt : x ≤ 0 → py_Go X own cc nL d tgt ls st σ P) (kf : ¬ (x ≤ 0) → py_Go X own cc nL d (pc + 3) ls st σ P) : py_Go X own cc nL d pc ls (.int x :: st) σ P := by
  intro p l e R s m args below meth c D ad cI cZ A cells slots Q H locs la C hP hS hL rt
  exact lv_if_le C.1 C.2.1 hd ht (fun h => kt h p l e R s m args below meth c D ad cI cZ A cells slots Q H locs la C hP hS hL rt) (fun h => kf h p l e R s m args below meth c D ad cI cZ A cells slots Q H locs la C hP hS hL rt)
theorem go_icmp_eq {x y : Int32} {off : Int} {tgt : Nat} (hd : decode cc pc = .ok (.if_icmp .eq off, 3)) (ht : (pc : Int) + off = (tgt : Int)) (kt : x = y → py_Go X own cc nL d tgt ls st σ P) (kf : ¬ (x = y) → py_Go X own cc nL d (pc + 3) ls st σ P) : py_Go X own cc nL d pc ls (.int y :: .int x :: st) σ P := by
  intro p l e R s m args below meth c D ad cI cZ A cells slots Q H locs la C hP hS hL rt
  exact lv_icmp_eq C.1 C.2.1 hd ht (fun h => kt h p l e R s m args below meth c D ad cI cZ A cells slots Q H locs la C hP hS hL rt) (fun h => kf h p l e R s m args below meth c D ad cI cZ A cells slots Q H locs la C hP hS hL rt)
theorem go_icmp_ne {x y : Int32} {off : Int} {tgt : Nat} (hd : decode cc pc = .ok (.if_icmp .ne off, 3)) (ht : (pc : Int) + off = (tgt : Int)) (kt : ¬ x = y → py_Go X own cc nL d tgt ls st σ P) (kf : x = y → py_Go X own cc nL d (pc + 3) ls st σ P) : py_Go X own cc nL d pc ls (.int y :: .int x :: st) σ P := by
  intro p l e R s m args below meth c D ad cI cZ A cells slots Q H locs la C hP hS hL rt
  exact lv_icmp_ne C.1 C.2.1 hd ht (fun h => kt h p l e R s m args below meth c D ad cI cZ A cells slots Q H locs la C hP hS hL rt) (fun h => kf h p l e R s m args below meth c D ad cI cZ A cells slots Q H locs la C hP hS hL rt)
theorem go_icmp_lt {x y : Int32} {off : Int} {tgt : Nat} (hd : decode cc pc = .ok (.if_icmp .lt off, 3)) (ht : (pc : Int) + off = (tgt : Int)) (kt : x < y → py_Go X own cc nL d tgt ls st σ P) (kf : ¬ (x < y) → py_Go X own cc nL d (pc + 3) ls st σ P) : py_Go X own cc nL d pc ls (.int y :: .int x :: st) σ P := by
  intro p l e R s m args below meth c D ad cI cZ A cells slots Q H locs la C hP hS hL rt
  exact lv_icmp_lt C.1 C.2.1 hd ht (fun h => kt h p l e R s m args below meth c D ad cI cZ A cells slots Q H locs la C hP hS hL rt) (fun h => kf h p l e R s m args below meth c D ad cI cZ A cells slots Q H locs la C hP hS hL rt)
theorem go_icmp_ge {x y : Int32} {off : Int} {tgt : Nat} (hd : decode cc pc = .ok (.if_icmp .ge off, 3)) (ht : (pc : Int) + off = (tgt : Int)) (kt : y ≤ x → py_Go X own cc nL d tgt ls st σ P) (kf : ¬ (y ≤ x) → py_Go X own cc nL d (pc + 3) ls st σ P) : py_Go X own cc nL d pc ls (.int y :: .int x :: st) σ P := by
  intro p l e R s m args below meth c D ad cI cZ A cells slots Q H locs la C hP hS hL rt
  exact lv_icmp_ge C.1 C.2.1 hd ht (fun h => kt h p l e R s m args below meth c D ad cI cZ A cells slots Q H locs la C hP hS hL rt) (fun h => kf h p l e R s m args below meth c D ad cI cZ A cells slots Q H locs la C hP hS hL rt)
theorem go_icmp_gt {x y : Int32} {off : Int} {tgt : Nat} (hd : decode cc pc = .ok (.if_icmp .gt off, 3)) (ht : (pc : Int) + off = (tgt : Int)) (kt : y < x → py_Go X own cc nL d tgt ls st σ P) (kf : ¬ (y < x) → py_Go X own cc nL d (pc + 3) ls st σ P) : py_Go X own cc nL d pc ls (.int y :: .int x :: st) σ P := by
  intro p l e R s m args below meth c D ad cI cZ A cells slots Q H locs la C hP hS hL rt
  exact lv_icmp_gt C.1 C.2.1 hd ht (fun h => kt h p l e R s m args below meth c D ad cI cZ A cells slots Q H locs la C hP hS hL rt) (fun h => kf h p l e R s m args below meth c D ad cI cZ A cells slots Q H locs la C hP hS hL rt)
theorem go_icmp_le {x y : Int32} {off : Int} {tgt : Nat} (hd : decode cc pc = .ok (.if_icmp .le off, 3)) (ht : (pc : Int) + off = (tgt : Int)) (kt : x ≤ y → py_Go X own cc nL d tgt ls st σ P) (kf : ¬ (x ≤ y) → py_Go X own cc nL d (pc + 3) ls st σ P) : py_Go X own cc nL d pc ls (.int y :: .int x :: st) σ P := by
  intro p l e R s m args below meth c D ad cI cZ A cells slots Q H locs la C hP hS hL rt
  exact lv_icmp_le C.1 C.2.1 hd ht (fun h => kt h p l e R s m args below meth c D ad cI cZ A cells slots Q H locs la C hP hS hL rt) (fun h => kf h p l e R s m args below meth c D ad cI cZ A cells slots Q H locs la C hP hS hL rt)
theorem go_goto {off : Int} {tgt : Nat} (hd : decode cc pc = .ok (.goto off, 3)) (ht : (pc : Int) + off = (tgt : Int)) (k : py_Go X own cc nL d tgt ls st σ P) : py_Go X own cc nL d pc ls st σ P := by
  intro p l e R s m args below meth c D ad cI cZ A cells slots Q H locs la C hP hS hL rt
  exact lv_goto C.1 C.2.1 hd ht (k p l e R s m args below meth c D ad cI cZ A cells slots Q H locs la C hP hS hL rt)
theorem go_swOut {dflt lo hi : Int} {offs : Array Int} {len : Nat} {x : Int32} {tgt : Nat} (hd : decode cc pc = .ok (.tableswitch dflt lo hi offs, len)) (h : x.toInt < lo ∨ hi < x.toInt) (ht : (pc : Int) + dflt = (tgt : Int)) (k : py_Go X own cc nL d tgt ls st σ P) : py_Go X own cc nL d pc ls (.int x :: st) σ P := by
  intro p l e R s m args below meth c D ad cI cZ A cells slots Q H locs la C hP hS hL rt
  exact lv_tableOut C.1 C.2.1 hd h ht (k p l e R s m args below meth c D ad cI cZ A cells slots Q H locs la C hP hS hL rt)
theorem go_swIn {dflt lo hi : Int} {offs : Array Int} {len : Nat} {x : Int32} {off : Int} {tgt : Nat} (hd : decode cc pc = .ok (.tableswitch dflt lo hi offs, len)) (h1 : ¬ x.toInt < lo) (h2 : ¬ hi < x.toInt) (ho : offs[(x.toInt - lo).toNat]? = some off) (ht : (pc : Int) + off = (tgt : Int)) (k : py_Go X own cc nL d tgt ls st σ P) : py_Go X own cc nL d pc ls (.int x :: st) σ P := by
  intro p l e R s m args below meth c D ad cI cZ A cells slots Q H locs la C hP hS hL rt
  exact lv_tableIn C.1 C.2.1 hd h1 h2 ho ht (k p l e R s m args below meth c D ad cI cZ A cells slots Q H locs la C hP hS hL rt)
theorem go_look {dflt : Int} {ps : Array (Int × Int)} {len : Nat} {x : Int32} {off : Int} {tgt : Nat} (hd : decode cc pc = .ok (.lookupswitch dflt ps, len)) (hp : (ps.toList.zip (ps.toList.drop 1)).all (fun (a, next) => a.1 < next.1) = true) (ho : Op.lookupswitch.offset ps.toList dflt x.toInt = off) (ht : (pc : Int) + off = (tgt : Int)) (k : py_Go X own cc nL d tgt ls st σ P) : py_Go X own cc nL d pc ls (.int x :: st) σ P := by
  intro p l e R s m args below meth c D ad cI cZ A cells slots Q H locs la C hP hS hL rt
  exact lv_lookup C.1 C.2.1 hd hp ho ht (k p l e R s m args below meth c D ad cI cZ A cells slots Q H locs la C hP hS hL rt)
theorem go_iret {x : Int32} (hd : decode cc pc = .ok (.ireturn, 1)) (h : P (some (.int x)) σ) : py_Go X own cc nL d pc ls [.int x] σ P := by
  intro p l e R s m args below meth c D ad cI cZ A cells slots Q H locs la C hP hS hL rt
  exact rt _ _ H locs la pc h hP hS hd
theorem go_vret (hd : decode cc pc = .ok (.return_, 1)) (h : P none σ) : py_Go X own cc nL d pc ls [] σ P := by
  intro p l e R s m args below meth c D ad cI cZ A cells slots Q H locs la C hP hS hL rt
  exact rt _ _ H locs la pc h hP hS hd
theorem go_aret {x : Nat} (hd : decode cc pc = .ok (.areturn, 1)) (h : P (some (.ref x)) σ) : py_Go X own cc nL d pc ls [.ref x] σ P := by
  intro p l e R s m args below meth c D ad cI cZ A cells slots Q H locs la C hP hS hL rt
  exact rt _ _ H locs la pc h hP hS hd
theorem go_eq {st2 : List Value} (h : st = st2) (k : py_Go X own cc nL d pc ls st2 σ P) : py_Go X own cc nL d pc ls st σ P := h ▸ k
theorem go_top {x y : Int32} (h : x = y) (k : py_Go X own cc nL d pc ls (.int y :: st) σ P) : py_Go X own cc nL d pc ls (.int x :: st) σ P := h ▸ k
theorem go_ls {ls2 : List (Option Value)} (h : ls = ls2) (k : py_Go X own cc nL d pc ls2 st σ P) : py_Go X own cc nL d pc ls st σ P := h ▸ k
theorem go_hp {σ3 : py_H} (h : σ = σ3) (k : py_Go X own cc nL d pc ls st σ3 P) : py_Go X own cc nL d pc ls st σ P := h ▸ k
/-- a class of the list with its words -/
def py_Cl (ci : Nat) (C : String) (T : u_T) (N : Nat) (ty : Nat → FieldType) : Prop := vwCl[ci]? = some (C, T, N) ∧ (∀ w ∈ u_ws C T N, w ∈ py_tb) ∧ (∀ k, k < N → parseFieldDescriptor (T k).2.2.1 = some (ty k)) ∧ (∀ a, a < N → ∀ b, b < N → a ≠ b → (T a).2.1 ≠ (T b).2.1)
/-- field j of class ci, by entry idx of own's pool; its type; whether it is final -/
def py_F (own : String) (idx ci nf j : Nat) (ft : FieldType) (fin : Bool) : Prop := ∃ (C : String) (T : u_T) (ty : Nat → FieldType), py_Cl ci C T nf ty ∧ j < nf ∧ Cond.fieldLink own idx (T j).1 (T j).2.1 (T j).2.2.1 ∈ py_tb ∧ ty j = ft ∧ (T j).2.2.2 = fin
theorem py_fs_at {ad : Nat → Nat} {σ : py_H} {k j n : Nat} (h : j < n) : ((List.range n).map (py_fv ad σ k))[j]? = some (py_fv ad σ k j) := by simp [h]
theorem py_E_obj {ad : Nat → Nat} {cI cZ : ClassId} {σ : py_H} {k ci nf : Nat} (hk : py_O k = some (ci, nf)) : py_E ad cI cZ σ k = .inr (ci, (List.range nf).map (py_fv ad σ k)) := by
  unfold py_E
  rw [hk]
theorem py_O_lt {k : Nat} {o : Nat × Nat} (h : py_O k = some o) : k < 62 := by
  apply Nat.lt_of_not_le
  intro hk
  unfold py_O at h
  split at h <;> first | omega | cases h
theorem go_get {idx ci nf j k : Nat} {ft : FieldType} {fin : Bool} {v : Value} (hd : decode cc pc = .ok (.getfield idx, 3)) (hf : py_F own idx ci nf j ft fin) (hk : py_O k = some (ci, nf)) (hv : py_pv σ k j = v) (kk : py_Go X own cc nL d (pc + 3) ls (v :: st) σ P) : py_Go X own cc nL d pc ls (.ref k :: st) σ P := by
  intro p l e R s m args below meth c D ad cI cZ A cells slots Q H locs la C hP hS hL rt
  obtain ⟨Cn, T, ty, ⟨c1, c2, c3, c4⟩, hj, hlk, -, -⟩ := hf
  subst hv
  refine va_get (D := D) (ci := ci) (v := py_fv ad σ k j) (C := Cn) (T := T) (N := nf) (ref := (T j).1) C.1 C.2.1 C.2.2.2.2.1 c2 C.2.2.2.1 C.2.2.2.2.2.1 hP k (fs := (List.range nf).map (py_fv ad σ k)) (by rw [py_ws_at ad cI cZ σ (py_O_lt hk), py_E_obj hk]) c1 j hj (C.2.2.2.2.1 _ hlk) (fun _ h => h) (py_fs_at hj) hd ?_
  have h2 := kk p l e R s m args below meth c D ad cI cZ A cells slots Q H locs la C hP hS hL rt
  rw [List.map_cons, py_pv_cv] at h2
  exact h2
theorem go_put {idx ci nf j k : Nat} {ft : FieldType} {x : Int32} (hd : decode cc pc = .ok (.putfield idx, 3)) (hf : py_F own idx ci nf j ft false) (hk : py_O k = some (ci, nf)) (hr : py_R k j = none) (hn : narrow ft (.int x) = .int x ∧ fits ft (.int x) = true) (kk : py_Go X own cc nL d (pc + 3) ls st (py_up σ k j x) P) : py_Go X own cc nL d pc ls (.int x :: .ref k :: st) σ P := by
  intro p l e R s m args below meth c D ad cI cZ A cells slots Q H locs la C hP hS hL rt
  obtain ⟨Cn, T, ty, ⟨c1, c2, c3, c4⟩, hj, hlk, ht, hfin⟩ := hf
  refine va_put (D := D) (ci := ci) (v := .int x) (ty := ft) (C := Cn) (T := T) (N := nf) (ref := (T j).1) C.1 C.2.1 C.2.2.2.2.1 c2 ty c3 c4 C.2.2.2.1 C.2.2.2.2.2.1 hP (py_D C.2.2.2.2.2.2.1 C.2.2.2.2.2.2.2.1) hS k (fs := (List.range nf).map (py_fv ad σ k)) (by rw [py_ws_at ad cI cZ σ (py_O_lt hk), py_E_obj hk]) c1 j hj (C.2.2.2.2.1 _ hlk) (fun _ h => h) hfin (by rw [c3 j hj, ht]) hn.1 hn.2 (by simp; exact hj) hd (fun H1 locs1 hP1 _ hS1 => ?_)
  rw [py_ws_fld (py_O_lt hk) hk hr] at hP1
  exact kk p l e R s m args below meth c D ad cI cZ A cells slots Q H1 locs1 la C hP1 hS1 hL rt
theorem py_isA_spec {k : Nat} (h : py_isA k = true) : k < 62 ∧ py_O k = none ∧ k ≠ 58 := by
  unfold py_isA at h
  simp only [Bool.and_eq_true, decide_eq_true_eq, Option.isNone_iff_eq_none, Bool.not_eq_true', beq_eq_false_iff_ne] at h
  exact ⟨h.1.1, h.1.2, h.2⟩
theorem py_E_arr {ad : Nat → Nat} {cI cZ : ClassId} {σ : py_H} {k : Nat} (h : py_isA k = true) : py_E ad cI cZ σ k = .inl (cI, py_N k, .inl (σ k)) := by
  obtain ⟨-, h2, h3⟩ := py_isA_spec h
  unfold py_E
  rw [h2, if_neg h3]
theorem go_ald {k : Nat} {i : Int32} (hd : decode cc pc = .ok (.iaload, 1)) (hk : py_isA k = true) (hin : vp_in i (py_N k)) (kk : py_Go X own cc nL d (pc + 1) ls (.int (σ k i.toNatClampNeg) :: st) σ P) : py_Go X own cc nL d pc ls (.int i :: .ref k :: st) σ P := by
  intro p l e R s m args below meth c D ad cI cZ A cells slots Q H locs la C hP hS hL rt
  exact va_iald C.1 C.2.1 C.2.2.2.2.2.1 hP k 0 (by rw [py_ws_at ad cI cZ σ (py_isA_spec hk).1, py_E_arr hk]) rfl hin hd (kk p l e R s m args below meth c D ad cI cZ A cells slots Q H locs la C hP hS hL rt)
theorem go_ast {k : Nat} {i x : Int32} (hd : decode cc pc = .ok (.iastore, 1)) (hk : py_isA k = true) (hin : vp_in i (py_N k)) (kk : py_Go X own cc nL d (pc + 1) ls st (py_up σ k i.toNatClampNeg x) P) : py_Go X own cc nL d pc ls (.int x :: .int i :: .ref k :: st) σ P := by
  intro p l e R s m args below meth c D ad cI cZ A cells slots Q H locs la C hP hS hL rt
  refine va_iast C.1 C.2.1 C.2.2.2.2.2.1 hP (py_D C.2.2.2.2.2.2.1 C.2.2.2.2.2.2.2.1) hS k 0 (by rw [py_ws_at ad cI cZ σ (py_isA_spec hk).1, py_E_arr hk]) rfl hin hd (fun H1 locs1 hP1 _ hS1 => ?_)
  rw [py_ws_row (py_isA_spec hk).1 (py_isA_spec hk).2.1 (if_neg (py_isA_spec hk).2.2)] at hP1
  exact kk p l e R s m args below meth c D ad cI cZ A cells slots Q H1 locs1 la C hP1 hS1 hL rt
theorem go_alen {k : Nat} {v : Int32} (hd : decode cc pc = .ok (.arraylength, 1)) (hk : py_isA k = true) (hv : Int32.ofNat (py_N k) = v) (kk : py_Go X own cc nL d (pc + 1) ls (.int v :: st) σ P) : py_Go X own cc nL d pc ls (.ref k :: st) σ P := by
  intro p l e R s m args below meth c D ad cI cZ A cells slots Q H locs la C hP hS hL rt
  exact va_alen C.1 C.2.1 C.2.2.2.2.2.1 hP k 0 (by rw [py_ws_at ad cI cZ σ (py_isA_spec hk).1, py_E_arr hk]) rfl hv hd (kk p l e R s m args below meth c D ad cI cZ A cells slots Q H locs la C hP hS hL rt)
theorem go_zld {i : Int32} (hd : decode cc pc = .ok (.baload, 1)) (hin : vp_in i 2) (kk : py_Go X own cc nL d (pc + 1) ls (.int (σ 58 i.toNatClampNeg) :: st) σ P) : py_Go X own cc nL d pc ls (.int i :: .ref 58 :: st) σ P := by
  intro p l e R s m args below meth c D ad cI cZ A cells slots Q H locs la C hP hS hL rt
  exact va_zald C.1 C.2.1 C.2.2.2.2.2.1 hP 58 1 (py_ws_at ad cI cZ σ (by decide)) rfl hin hd (kk p l e R s m args below meth c D ad cI cZ A cells slots Q H locs la C hP hS hL rt)
theorem go_zst {i x : Int32} (hd : decode cc pc = .ok (.bastore, 1)) (hin : vp_in i 2) (kk : py_Go X own cc nL d (pc + 1) ls st (py_up σ 58 i.toNatClampNeg (vp_nar .boolean x)) P) : py_Go X own cc nL d pc ls (.int x :: .int i :: .ref 58 :: st) σ P := by
  intro p l e R s m args below meth c D ad cI cZ A cells slots Q H locs la C hP hS hL rt
  refine va_zast C.1 C.2.1 C.2.2.2.2.2.1 hP (py_D C.2.2.2.2.2.2.1 C.2.2.2.2.2.2.2.1) hS 58 1 (py_ws_at ad cI cZ σ (by decide)) rfl hin hd (fun H1 locs1 hP1 _ hS1 => ?_)
  rw [py_ws_row (k := 58) (by decide) rfl rfl] at hP1
  exact kk p l e R s m args below meth c D ad cI cZ A cells slots Q H1 locs1 la C hP1 hS1 hL rt
/-- the script -/
theorem go_sld {i : Int32} (hd : decode cc pc = .ok (.iaload, 1)) (hin : vp_in i X.1) (kk : py_Go X own cc nL d (pc + 1) ls (.int (X.2 i.toNatClampNeg) :: st) σ P) : py_Go X own cc nL d pc ls (.int i :: .ref 65 :: st) σ P := by
  intro p l e R s m args below meth c D ad cI cZ A cells slots Q H locs la C hP hS hL rt
  exact va_ti C.1 C.2.1 C.2.2.2.2.2.2.2.2.1.2 hS hin rfl hd (kk p l e R s m args below meth c D ad cI cZ A cells slots Q H locs la C hP hS hL rt)
theorem go_slen {v : Int32} (hd : decode cc pc = .ok (.arraylength, 1)) (hv : Int32.ofNat X.1 = v) (kk : py_Go X own cc nL d (pc + 1) ls (.int v :: st) σ P) : py_Go X own cc nL d pc ls (.ref 65 :: st) σ P := by
  intro p l e R s m args below meth c D ad cI cZ A cells slots Q H locs la C hP hS hL rt
  exact va_tlen C.1 C.2.1 C.2.2.2.2.2.2.2.2.1.2 hS hv hd (kk p l e R s m args below meth c D ad cI cZ A cells slots Q H locs la C hP hS hL rt)
/-- a table of the class -/
theorem go_tget {idx k : Nat} (h1 : 62 ≤ k) (h2 : k ≤ 64) (hd : decode cc pc = .ok (.getstatic idx, 3)) (hw : Cond.fieldLink own idx "PortraitYears$Asker" (py_tn k) "[I" ∈ py_tb) (kk : py_Go X own cc nL d (pc + 3) ls (.ref k :: st) σ P) : py_Go X own cc nL d pc ls st σ P := by
  intro p l e R s m args below meth c D ad cI cZ A cells slots Q H locs la C hP hS hL rt
  exact va_gets C.1 C.2.1 (C.2.2.2.2.2.2.2.2.1.1 k h1 h2).1 hS C.2.2.2.1 (C.2.2.2.2.1 _ hw) (fun _ h => h) hd (kk p l e R s m args below meth c D ad cI cZ A cells slots Q H locs la C hP hS hL rt)
theorem go_tld {k : Nat} {i : Int32} (h1 : 62 ≤ k) (h2 : k ≤ 64) (hd : decode cc pc = .ok (.iaload, 1)) (hin : vp_in i 6) (kk : py_Go X own cc nL d (pc + 1) ls (.int (py_T k i.toNatClampNeg) :: st) σ P) : py_Go X own cc nL d pc ls (.int i :: .ref k :: st) σ P := by
  intro p l e R s m args below meth c D ad cI cZ A cells slots Q H locs la C hP hS hL rt
  exact va_ti C.1 C.2.1 (C.2.2.2.2.2.2.2.2.1.1 k h1 h2).2 hS hin rfl hd (kk p l e R s m args below meth c D ad cI cZ A cells slots Q H locs la C hP hS hL rt)
theorem go_tlen {k : Nat} (h1 : 62 ≤ k) (h2 : k ≤ 64) (hd : decode cc pc = .ok (.arraylength, 1)) (kk : py_Go X own cc nL d (pc + 1) ls (.int 6 :: st) σ P) : py_Go X own cc nL d pc ls (.ref k :: st) σ P := by
  intro p l e R s m args below meth c D ad cI cZ A cells slots Q H locs la C hP hS hL rt
  exact va_tlen C.1 C.2.1 (C.2.2.2.2.2.2.2.2.1.1 k h1 h2).2 hS rfl hd (kk p l e R s m args below meth c D ad cI cZ A cells slots Q H locs la C hP hS hL rt)
theorem py_sum (ad : Nat → Nat) (st : List Value) : ((st.map (py_cv ad)).map fun v => v.category).sum = (st.map fun v => v.category).sum := by
  rw [List.map_map]
  congr 1
  apply List.map_congr_left
  intro v _
  exact py_cat ad v
theorem go_mmax {idx : Nat} {x y : Int32} (hd : decode cc pc = .ok (.invokestatic idx, 3)) (hw : Cond.methodLink own idx Lib.Math.max.name ∈ py_tb) (h2 : Cond.static Lib.Math.max.name ∈ py_tb) (h3 : Cond.initialized "java/lang/Math" ∈ py_tb) (h4 : Cond.code Lib.Math.max.name Lib.Math.max.code 2 (some .int) ∈ py_tb) (hdp : 1 ≤ d) (hr : (st.map fun v => v.category).sum ≤ 8) (kk : py_Go X own cc nL d (pc + 3) ls (.int (if x < y then y else x) :: st) σ P) : py_Go X own cc nL d pc ls (.int y :: .int x :: st) σ P := by
  intro p l e R s m args below meth c D ad cI cZ A cells slots Q H locs la C hP hS hL rt
  have hz := py_sum ad st
  have hfl := C.2.2.2.2.2.2.2.2.2.1
  exact va_mmax C.1 C.2.1 (by rw [hL.1]; exact C.2.2.1) C.2.2.2.1 (C.2.2.2.2.1 _ hw) (C.2.2.2.2.1 _ h2) (C.2.2.2.2.1 _ h3) (C.2.2.2.2.1 _ h4) (by omega) (by rw [hz]; omega) C.2.2.2.2.2.2.2.2.2.2.1 C.2.2.2.2.2.2.2.2.2.2.2.1 hd (kk p l e R s m args below meth c D ad cI cZ A cells slots Q H locs la C hP hS hL rt)
theorem go_mmin {idx : Nat} {x y : Int32} (hd : decode cc pc = .ok (.invokestatic idx, 3)) (hw : Cond.methodLink own idx Lib.Math.min.name ∈ py_tb) (h2 : Cond.static Lib.Math.min.name ∈ py_tb) (h3 : Cond.initialized "java/lang/Math" ∈ py_tb) (h4 : Cond.code Lib.Math.min.name Lib.Math.min.code 2 (some .int) ∈ py_tb) (hdp : 1 ≤ d) (hr : (st.map fun v => v.category).sum ≤ 8) (kk : py_Go X own cc nL d (pc + 3) ls (.int (if y < x then y else x) :: st) σ P) : py_Go X own cc nL d pc ls (.int y :: .int x :: st) σ P := by
  intro p l e R s m args below meth c D ad cI cZ A cells slots Q H locs la C hP hS hL rt
  have hz := py_sum ad st
  have hfl := C.2.2.2.2.2.2.2.2.2.1
  exact va_mmin C.1 C.2.1 (by rw [hL.1]; exact C.2.2.1) C.2.2.2.1 (C.2.2.2.2.1 _ hw) (C.2.2.2.2.1 _ h2) (C.2.2.2.2.1 _ h3) (C.2.2.2.2.1 _ h4) (by omega) (by rw [hz]; omega) C.2.2.2.2.2.2.2.2.2.2.1 C.2.2.2.2.2.2.2.2.2.2.2.1 hd (kk p l e R s m args below meth c D ad cI cZ A cells slots Q H locs la C hP hS hL rt)
theorem go_copy {idx k0 k1 : Nat} {sp dp n : Int32} (hd : decode cc pc = .ok (.invokestatic idx, 3)) (hw : Cond.methodLink own idx arraycopyName ∈ py_tb) (h2 : Cond.native arraycopyName ∈ py_tb) (h3 : Cond.static arraycopyName ∈ py_tb) (h4 : Cond.initialized "java/lang/System" ∈ py_tb) (hdp : 1 ≤ d) (hr : (st.map fun v => v.category).sum ≤ 8) (hk0 : py_isA k0 = true) (hk1 : py_isA k1 = true) (g1 : ¬ sp < 0) (g2 : ¬ dp < 0) (g3 : ¬ n < 0) (g4 : sp.toNatClampNeg + n.toNatClampNeg ≤ py_N k0) (g5 : dp.toNatClampNeg + n.toNatClampNeg ≤ py_N k1)
    (kk : py_Go X own cc nL d (pc + 3) ls st (py_row σ k1 (va_cpy (σ k0) (σ k1) sp.toNatClampNeg dp.toNatClampNeg n.toNatClampNeg)) P) : py_Go X own cc nL d pc ls (.int n :: .int dp :: .ref k1 :: .int sp :: .ref k0 :: st) σ P := by
  intro p l e R s m args below meth c D ad cI cZ A cells slots Q H locs la C hP hS hL rt
  have hz := py_sum ad st
  have hfl := C.2.2.2.2.2.2.2.2.2.1
  have hnw : nativeFrameWords "java/lang/System" "arraycopy" 5 ≤ 100 := by decide +kernel
  refine va_copyi C.1 C.2.1 (by rw [hL.1]; exact C.2.2.1) C.2.2.2.1 (C.2.2.2.2.1 _ hw) (C.2.2.2.2.1 _ h2) (C.2.2.2.2.1 _ h3) (C.2.2.2.2.1 _ h4) C.2.2.2.2.2.1 hP (py_D C.2.2.2.2.2.2.1 C.2.2.2.2.2.2.2.1) hS k0 k1 0 0 (by rw [py_ws_at ad cI cZ σ (py_isA_spec hk0).1, py_E_arr hk0]) (by rw [py_ws_at ad cI cZ σ (py_isA_spec hk1).1, py_E_arr hk1]) rfl rfl rfl g1 g2 g3 g4 g5 (fun _ _ => rfl) (by omega) (by rw [hz]; omega) hd (fun H1 locs1 hP1 _ hS1 => ?_)
  rw [py_ws_row (py_isA_spec hk1).1 (py_isA_spec hk1).2.1 (if_neg (py_isA_spec hk1).2.2)] at hP1
  exact kk p l e R s m args below meth c D ad cI cZ A cells slots Q H1 locs1 la C hP1 hS1 hL rt
end PYG
