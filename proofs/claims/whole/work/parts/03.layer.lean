/-! THE LAYER: one world for class and reference: 62 places (objects, arrays), all ints that change in one function of place and slot; 'py_Go': from a frame the method returns such a value in such a heap -/
abbrev py_H : Type := Nat → Nat → Int32
abbrev py_X : Type := Nat × (Nat → Int32)
/-- the object at a place: its class in vwCl, how many fields; none: an array, or nothing -/
def py_O (k : Nat) : Option (Nat × Nat) := match k with
  | 0 => some (7, 11)
  | 1 => some (4, 3)
  | 5 => some (6, 5)
  | 7 => some (2, 12)
  | 14 => some (2, 12)
  | 21 => some (2, 12)
  | 28 => some (2, 12)
  | 35 => some (0, 3)
  | 37 => some (5, 9)
  | 38 => some (3, 6)
  | 45 => some (1, 2)
  | 47 => some (8, 24)
  | _ => none
/-- which place a field of references holds -/
def py_R (k j : Nat) : Option Nat := match k, j with
  | 0, 0 => some 1 | 0, 1 => some 5 | 0, 2 => some 7 | 0, 3 => some 14 | 0, 4 => some 21 | 0, 5 => some 28 | 0, 6 => some 35 | 0, 7 => some 37 | 0, 8 => some 45
  | 1, 0 => some 2 | 1, 1 => some 3 | 1, 2 => some 4
  | 5, 0 => some 6
  | 7, 6 => some 8 | 7, 7 => some 9 | 7, 8 => some 10 | 7, 9 => some 11 | 7, 10 => some 12 | 7, 11 => some 13
  | 14, 6 => some 15 | 14, 7 => some 16 | 14, 8 => some 17 | 14, 9 => some 18 | 14, 10 => some 19 | 14, 11 => some 20
  | 21, 6 => some 22 | 21, 7 => some 23 | 21, 8 => some 24 | 21, 9 => some 25 | 21, 10 => some 26 | 21, 11 => some 27
  | 28, 6 => some 29 | 28, 7 => some 30 | 28, 8 => some 31 | 28, 9 => some 32 | 28, 10 => some 33 | 28, 11 => some 34
  | 35, 0 => some 36
  | 37, 0 => some 38 | 37, 1 => some 39 | 37, 2 => some 40 | 37, 3 => some 41 | 37, 4 => some 42 | 37, 5 => some 43 | 37, 6 => some 44
  | 45, 0 => some 46
  | 47, 0 => some 48 | 47, 1 => some 49 | 47, 2 => some 50 | 47, 3 => some 51 | 47, 5 => some 52 | 47, 13 => some 53 | 47, 14 => some 54 | 47, 15 => some 55 | 47, 16 => some 56 | 47, 18 => some 57 | 47, 19 => some 58 | 47, 20 => some 59 | 47, 21 => some 60 | 47, 22 => some 61
  | _, _ => none
/-- how long the array at a place is -/
def py_N (k : Nat) : Nat := match k with
  | 2 => 320 | 3 => 8 | 4 => 8 | 6 => 100
  | 8 => 4 | 9 => 4 | 10 => 5 | 11 => 5 | 12 => 5 | 13 => 5
  | 15 => 4 | 16 => 4 | 17 => 5 | 18 => 5 | 19 => 5 | 20 => 5
  | 22 => 4 | 23 => 4 | 24 => 5 | 25 => 5 | 26 => 5 | 27 => 5
  | 29 => 4 | 30 => 4 | 31 => 5 | 32 => 5 | 33 => 5 | 34 => 5
  | 36 => 288 | 39 => 16 | 40 => 20 | 41 => 4 | 42 => 5 | 43 => 5 | 44 => 5 | 46 => 16
  | 48 => 8 | 49 => 8 | 50 => 320 | 51 => 40 | 52 => 100 | 53 => 33 | 54 => 33 | 55 => 33 | 56 => 792 | 57 => 66 | 58 => 2 | 59 => 5 | 60 => 5 | 61 => 16
  | _ => 0
/-- an array of ints at a place -/
def py_isA (k : Nat) : Bool := decide (k < 62) && (py_O k).isNone && !(k == 58)
def py_cv (ad : Nat → Nat) (v : Value) : Value := match v with
  | .ref k => .ref (ad k)
  | w => w
def py_fv (ad : Nat → Nat) (σ : py_H) (k j : Nat) : Value := match py_R k j with
  | some t => .ref (ad t)
  | none => .int (σ k j)
/-- a field's value in the layer's own words -/
def py_pv (σ : py_H) (k j : Nat) : Value := match py_R k j with
  | some t => .ref t
  | none => .int (σ k j)
theorem py_pv_cv (ad : Nat → Nat) (σ : py_H) (k j : Nat) : py_cv ad (py_pv σ k j) = py_fv ad σ k j := by
  unfold py_pv py_fv
  cases py_R k j <;> rfl
def py_E (ad : Nat → Nat) (cI cZ : ClassId) (σ : py_H) (k : Nat) : va_E := match py_O k with
  | some o => .inr (o.1, (List.range o.2).map (py_fv ad σ k))
  | none => .inl (if k = 58 then cZ else cI, py_N k, .inl (σ k))
def py_ws (ad : Nat → Nat) (cI cZ : ClassId) (σ : py_H) : va_W := (List.range 62).map (fun k => (ad k, py_E ad cI cZ σ k))
def py_row (σ : py_H) (k : Nat) (f : Nat → Int32) : py_H := fun a => if a = k then f else σ a
def py_up (σ : py_H) (k j : Nat) (v : Int32) : py_H := py_row σ k (upd (σ k) j v)
theorem py_ws_at (ad : Nat → Nat) (cI cZ : ClassId) (σ : py_H) {k : Nat} (h : k < 62) : (py_ws ad cI cZ σ)[k]? = some (ad k, py_E ad cI cZ σ k) := by
  simp [py_ws, h]
theorem py_ws_len (ad : Nat → Nat) (cI cZ : ClassId) (σ : py_H) : (py_ws ad cI cZ σ).length = 62 := by
  simp [py_ws]
theorem py_ws_set {ad : Nat → Nat} {cI cZ : ClassId} {σ σ2 : py_H} {k : Nat} {e : va_E} (h : k < 62) (he : e = py_E ad cI cZ σ2 k) (ho : ∀ i, i ≠ k → py_E ad cI cZ σ2 i = py_E ad cI cZ σ i) : (py_ws ad cI cZ σ).set k (ad k, e) = py_ws ad cI cZ σ2 := by
  apply List.ext_getElem?
  intro i
  by_cases hi : i < 62
  · rw [py_ws_at ad cI cZ σ2 hi]
    by_cases hk : k = i
    · subst hk
      rw [List.getElem?_set_self (by rw [py_ws_len]; exact h), he]
    · rw [List.getElem?_set_ne hk, py_ws_at ad cI cZ σ hi, ho i (Ne.symm hk)]
  · rw [List.getElem?_eq_none (by rw [List.length_set, py_ws_len]; omega), List.getElem?_eq_none (by rw [py_ws_len]; omega)]
theorem py_row_self (σ : py_H) (k : Nat) (f : Nat → Int32) : py_row σ k f k = f := by simp [py_row]
theorem py_row_ne (σ : py_H) {k i : Nat} (f : Nat → Int32) (h : i ≠ k) : py_row σ k f i = σ i := by simp [py_row, h]
theorem py_E_row_ne {ad : Nat → Nat} {cI cZ : ClassId} {σ : py_H} {k : Nat} {f : Nat → Int32} : ∀ i, i ≠ k → py_E ad cI cZ (py_row σ k f) i = py_E ad cI cZ σ i := by
  intro i hi
  have e : ∀ j, py_fv ad (py_row σ k f) i j = py_fv ad σ i j := fun j => by
    unfold py_fv
    rw [py_row_ne σ f hi]
  unfold py_E
  rw [py_row_ne σ f hi, show py_fv ad (py_row σ k f) i = py_fv ad σ i from funext e]
/-- an array's row moves -/
theorem py_ws_row {ad : Nat → Nat} {cI cZ : ClassId} {σ : py_H} {k : Nat} {f : Nat → Int32} {cA : ClassId} (h : k < 62) (ho : py_O k = none) (hc : (if k = 58 then cZ else cI) = cA) : (py_ws ad cI cZ σ).set k (ad k, .inl (cA, py_N k, .inl f)) = py_ws ad cI cZ (py_row σ k f) := by
  refine py_ws_set h ?_ py_E_row_ne
  unfold py_E
  rw [ho, py_row_self, hc]
/-- a field moves -/
theorem py_ws_fld {ad : Nat → Nat} {cI cZ : ClassId} {σ : py_H} {k j : Nat} {x : Int32} {o : Nat × Nat} (h : k < 62) (ho : py_O k = some o) (hr : py_R k j = none) : (py_ws ad cI cZ σ).set k (ad k, .inr (o.1, ((List.range o.2).map (py_fv ad σ k)).set j (.int x))) = py_ws ad cI cZ (py_up σ k j x) := by
  refine py_ws_set h ?_ py_E_row_ne
  unfold py_E
  rw [ho]
  dsimp only
  congr 2
  apply List.ext_getElem?
  intro i
  by_cases hi : i < o.2
  · by_cases hj : j = i
    · subst hj
      rw [List.getElem?_set_self (by simp; exact hi)]
      simp [hi, py_fv, hr, py_up, py_row, upd]
    · rw [List.getElem?_set_ne hj]
      have hj2 : i ≠ j := Ne.symm hj
      simp [hi, py_fv, py_up, py_row, upd, hj2]
  · rw [List.getElem?_eq_none (by simp; omega), List.getElem?_eq_none (by simp; omega)]
def py_A (ad : Nat → Nat) (q : Nat) : Prop := ∃ k, k < 62 ∧ q = ad k
def py_J (ad : Nat → Nat) : Prop := ∀ i j, i < 62 → j < 62 → ad i = ad j → i = j
theorem py_D {ad : Nat → Nat} {cI cZ : ClassId} {σ : py_H} {A : Nat → Prop} (hJ : py_J ad) (hA : ∀ k, k < 62 → A (ad k)) : va_D A (py_ws ad cI cZ σ) := by
  have key : ∀ (i : Nat) (p : Nat × va_E), (py_ws ad cI cZ σ)[i]? = some p → i < 62 ∧ p.1 = ad i := by
    intro i p hp
    have hi : i < 62 := by
      have := (List.getElem?_eq_some_iff.mp hp).1
      rwa [py_ws_len] at this
    rw [py_ws_at ad cI cZ σ hi] at hp
    cases hp
    exact ⟨hi, rfl⟩
  refine ⟨fun i j p q hp hq h => ?_, fun k q hq => ?_⟩
  · obtain ⟨h1, h2⟩ := key i p hp
    obtain ⟨h3, h4⟩ := key j q hq
    exact hJ i j h1 h3 (by rw [← h2, ← h4, h])
  · obtain ⟨h1, h2⟩ := key k q hq
    rw [h2]
    exact hA k h1
/-- the three tables of the class, by their places 62, 63, 64 -/
def py_T (k : Nat) (j : Nat) : Int32 := match k, j with
  | 62, 0 => -1 | 62, 1 => 0 | 62, 2 => 1 | 62, 3 => 1 | 62, 4 => 0 | 62, 5 => 4
  | 63, 0 => 10 | 63, 1 => 11 | 63, 2 => 12 | 63, 3 => 11 | 63, 4 => 13 | 63, 5 => 14
  | 64, 0 => 20 | 64, 1 => 21 | 64, 2 => 24 | 64, 3 => 22 | 64, 4 => 23 | 64, 5 => 23
  | _, _ => 0
def py_tn (k : Nat) : String := match k with
  | 62 => "NEAREST"
  | 63 => "SIZE_BODIES"
  | _ => "MARK_BODIES"
/-- what nobody writes: the class's tables, the script at place 65 -/
def py_S (X : py_X) (ad : Nat → Nat) (A : Nat → Prop) (U : State) (H : Heap) : Prop :=
  (∀ k, 62 ≤ k → k ≤ 64 → va_Z "PortraitYears$Asker" (py_tn k) "[I" (.ref (ad k)) A U H ∧ va_T .int (ad k) 6 (fun j => .int (py_T k j)) A U H) ∧ va_T .int (ad 65) X.1 (fun j => .int (X.2 j)) A U H
theorem py_S.moved {X : py_X} {ad : Nat → Nat} {A : Nat → Prop} {u U : State} {H : Heap} (hvm : u.vm.Alike U.vm) (h : py_S X ad A u H) : py_S X ad A U H :=
  ⟨fun k h1 h2 => ⟨(h.1 k h1 h2).1.moved hvm, (h.1 k h1 h2).2.moved hvm⟩, h.2.moved hvm⟩
theorem py_S.kept {X : py_X} {ad : Nat → Nat} {A : Nat → Prop} {U : State} {H H1 : Heap} (h : py_S X ad A U H) (hq : ∀ a : Nat, a < H.size → ¬ A a → H1[a]? = H[a]?) : py_S X ad A U H1 :=
  ⟨fun k h1 h2 => ⟨(h.1 k h1 h2).1.kept hq, (h.1 k h1 h2).2.kept hq⟩, h.2.kept hq⟩
theorem py_S.narrow {X : py_X} {ad : Nat → Nat} {A B : Nat → Prop} {U : State} {H : Heap} (h : py_S X ad A U H) (hAB : ∀ q, B q → A q) : py_S X ad B U H :=
  ⟨fun k h1 h2 => ⟨(h.1 k h1 h2).1.narrow hAB, (h.1 k h1 h2).2.narrow hAB⟩, h.2.narrow hAB⟩
/-- the tables' words that stay, whatever is linked -/
def py_tb : List Cond := lw_tbl.filter goodWord
theorem py_tb_in {w : Cond} (i : Nat) (h : lw_tbl[i]? = some w) (hg : goodWord w = true) : w ∈ py_tb := List.mem_filter.mpr ⟨List.mem_of_getElem? h, hg⟩
/-- the links to private methods of nest mates -/
def py_nest (U : State) : Prop := ∀ (o : String) (i : Nat) (y : MethodName) (h : String), Cond.methodLinkNest o i y h ∈ lw_tbl → va_Nw (.methodLinkNest o i y h) U
theorem py_nest.same {u U : State} (h : u.vm = U.vm) (hn : py_nest u) : py_nest U := fun o i y g hw => va_Nw.same rfl h (hn o i y g hw)
theorem py_nest.warm {s U : State} (h : s.WarmedH U.vm) (hn : py_nest s) : py_nest U := fun o i y g hw => va_Nw.warmM h (hn o i y g hw)
abbrev py_tys (cI cZ : ClassId) : List (ClassId × FieldType) := [(cI, .int), (cZ, .boolean)]
/-- the world at a state -/
def py_W (X : py_X) (D : va_G) (ad : Nat → Nat) (cI cZ : ClassId) (σ : py_H) (U : State) : Prop :=
  va_P D vwCl (py_ws ad cI cZ σ) U.heap ∧ va_K D vwCl (py_tys cI cZ) U ∧ py_J ad ∧ py_S X ad (py_A ad) U U.heap ∧ py_nest U
theorem py_W.moved {X : py_X} {D : va_G} {ad : Nat → Nat} {cI cZ : ClassId} {σ : py_H} {u U : State} (hvm : u.vm = U.vm) (hh : U.heap = u.heap) (h : py_W X D ad cI cZ σ u) : py_W X D ad cI cZ σ U := by
  obtain ⟨h1, h2, h3, h4, h5⟩ := h
  have ha : u.vm.Alike U.vm := by rw [← hvm]; exact Vm.Alike.refl u.vm
  exact ⟨by rw [hh]; exact h1, h2.moved ha, h3, by rw [hh]; exact h4.moved ha, h5.same hvm⟩
def py_rm (n : Nat) : Room := { frames := n, cells := 0, slots := 0, locals := 200 * n }
abbrev py_P : Type := Option Value → py_H → Prop
def py_Q (D : va_G) (ad : Nat → Nat) (cI cZ : ClassId) (P : py_P) : Array Value → State → Outcome → State → Prop :=
  fun _ st oc t => ∃ (r : Option Value) (σ2 : py_H), P r σ2 ∧ oc = .returned (r.map (py_cv ad)) ∧ va_P D vwCl (py_ws ad cI cZ σ2) t.heap ∧ va_F (py_A ad) st t
/-- THE CONTRACT: y, called with av in σ, returns some r in some σ2 of which P holds (some d frames deep) -/
def py_Ev (X : py_X) (d : Nat) (y : MethodName) (cc : ByteArray) (nL : Nat) (ret : Option FieldType) (av : List Value) (σ : py_H) (P : py_P) : Prop :=
  ∀ (l : Launch) (D : va_G) (ad : Nat → Nat) (cI cZ : ClassId) (n : Nat), d ≤ n → Met l y (Cond.code y cc nL ret :: py_tb) (py_rm n) (va_Pc (av.map (py_cv ad)) (py_W X D ad cI cZ σ)) (py_Q D ad cI cZ P) 0 0 (py_A ad)
/-- what holds all along a method's body -/
def py_C (X : py_X) (own : String) (cc : ByteArray) (nL d : Nat) (p : Program) (R : Room) (s : State) (m : MethodId) (args : Array Value) (c : Code) (D : va_G) (ad : Nat → Nat) (cI cZ : ClassId) (A : Nat → Prop) (cells slots : Nat) : Prop :=
  p.tables.exec = Jvm.exec ∧ c.code = cc ∧ c.maxLocals = nL ∧ s.vm.findClass own = some m.cls ∧ (∀ w ∈ py_tb, w.before args s = true) ∧ va_K D vwCl (py_tys cI cZ) s ∧ py_J ad ∧ (∀ k, k < 62 → A (ad k)) ∧ py_S X ad A s s.heap ∧ (d ≤ R.frames ∧ 200 * d ≤ R.locals) ∧ cells ≤ R.cells ∧ slots ≤ R.slots ∧ py_nest s
def py_L (la : Array Slot) (nL : Nat) (ad : Nat → Nat) (ls : List (Option Value)) : Prop := la.size = nL ∧ lv_wf la ∧ ∀ (i : Nat) (v : Value), ls[i]? = some (some v) → la[i]? = some (.val (py_cv ad v))
def py_ri (r : Option Value) : Instr := match r with
  | none => .return_
  | some (.long _) => .lreturn
  | some (.ref _) => .areturn
  | some _ => .ireturn
/-- FROM HERE: the frame at pc with locals ls and stack st over σ comes to a return of which P holds -/
def py_Go (X : py_X) (own : String) (cc : ByteArray) (nL d pc : Nat) (ls : List (Option Value)) (st : List Value) (σ : py_H) (P : py_P) : Prop :=
  ∀ (p : Program) (l : Launch) (e : Env) (R : Room) (s : State) (m : MethodId) (args : Array Value) (below : List Frame) (meth : Method) (c : Code) (D : va_G) (ad : Nat → Nat) (cI cZ : ClassId) (A : Nat → Prop) (cells slots : Nat) (Q : State → Prop) (H : Heap) (locs : List Loc) (la : Array Slot),
    py_C X own cc nL d p R s m args c D ad cI cZ A cells slots → va_P D vwCl (py_ws ad cI cZ σ) H → va_S A s.heap H locs → py_L la nL ad ls →
    (∀ (r : Option Value) (σ2 : py_H) (H2 : Heap) (locs2 : List Loc) (la2 : Array Slot) (pc2 : Nat), P r σ2 → va_P D vwCl (py_ws ad cI cZ σ2) H2 → va_S A s.heap H2 locs2 → decode cc pc2 = .ok (py_ri r, 1) → W p l e R s m args below meth c H2 locs2 cells slots Q (F0 m pc2 la2 (r.map (py_cv ad)).toList)) →
    W p l e R s m args below meth c H locs cells slots Q (F0 m pc la (st.map (py_cv ad)))
