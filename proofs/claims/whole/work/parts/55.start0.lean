/-! what holds at the start -/
def py_s0 : py_H := fun k => match k with
  | 3 => py_fl (-1) 8
  | 48 => py_fl (-1000000) 8
  | _ => fun _ => 0
/-- where the places lie -/
def py_ad (q0 qm t2 t3 t4 b : Nat) (qf : Nat → Nat) (ff : Nat → Nat → Nat) (g : Nat → Nat) : Nat → Nat := fun k => ([q0, qf 1, ff 1 1, ff 1 2, ff 1 3, qf 2, ff 2 1, qf 3, ff 3 1, ff 3 2, ff 3 3, ff 3 4, ff 3 5, ff 3 6, qf 4, ff 4 1, ff 4 2, ff 4 3, ff 4 4, ff 4 5, ff 4 6, qf 5, ff 5 1, ff 5 2, ff 5 3, ff 5 4, ff 5 5, ff 5 6, qf 6, ff 6 1, ff 6 2, ff 6 3, ff 6 4, ff 6 5, ff 6 6, qf 7, ff 7 1, qf 8, ff 8 1, ff 8 2, ff 8 3, ff 8 4, ff 8 5, ff 8 6, ff 8 7, qf 9, ff 9 1, qm, g 1, g 2, g 3, g 4, g 5, g 6, g 7, g 8, g 9, g 10, g 11, g 12, g 13, g 14, t2, t3, t4, b] : List Nat).getD k 0
set_option maxRecDepth 100000 in
set_option maxHeartbeats 4000000 in
theorem py_w0 (cI cZ : ClassId) (q0 qm t2 t3 t4 b : Nat) (qf : Nat → Nat) (ff : Nat → Nat → Nat) (g : Nat → Nat) : pw_X7 cI q0 qf ff ++ pw_X8 cI cZ qm g = py_ws (py_ad q0 qm t2 t3 t4 b qf ff g) cI cZ py_s0 := rfl
theorem py_s0_IC : py_IC py_s0 (fun _ => 3, fun _ => 0, fun _ => 0) 0 (fun _ => 0) 0 0 (fun _ => 0) 0 (fun _ _ => 0) none none 0 (fun _ => 0) := by
  refine ⟨fun r hr => ⟨Nat.le_refl _, ?_, fun h => absurd h (Nat.lt_irrefl 3)⟩, rfl, ⟨rfl, by decide, fun i hi => absurd hi (Nat.not_lt_zero i)⟩, rfl, ⟨?_, rfl, rfl, rfl, rfl, rfl, fun w hw => absurd hw (Nat.not_lt_zero w), fun p hp => absurd hp (Nat.not_lt_zero p)⟩, ⟨0, rfl, rfl, by decide, by decide, fun i hi => absurd hi (Nat.not_lt_zero i)⟩, rfl, rfl, ⟨rfl, fun i hi => absurd hi (Nat.not_lt_zero i)⟩, fun w hw => rfl⟩
  · show py_fl (-1) 8 r = _
    unfold py_fl
    rw [if_pos hr, if_pos rfl]
  · show (0 : Int32) = py_b (0 < 0)
    rw [py_b_f (by decide)]
    rfl
theorem py_s0_IM : py_IM py_s0 (fun _ => 3, fun _ => 0, fun _ => 0) 0 (fun _ => 0) 0 0 (fun _ => 0) 0 (fun _ _ => 0) none none 0 (fun _ => 0) := by
  refine ⟨fun r hr => ⟨Nat.le_refl _, ?_, fun h => absurd h (Nat.lt_irrefl 3)⟩, rfl, ⟨rfl, by decide, fun i hi => absurd hi (Nat.not_lt_zero i)⟩, rfl, fun j hj => rfl, ⟨rfl, fun i hi => absurd hi (Nat.not_lt_zero i)⟩, rfl, rfl, ⟨rfl, fun i hi => absurd hi (Nat.not_lt_zero i)⟩⟩
  show py_fl (-1000000) 8 r = _
  unfold py_fl
  rw [if_pos hr, if_pos rfl]
theorem py_s0_IW : py_IW (fun _ => 0) 0 (fun _ _ => 0) none none 0 := by
  refine ⟨⟨by decide, by decide, by decide, by decide, by decide, fun h => absurd h (by decide), fun _ => ⟨rfl, rfl⟩, fun w hw => absurd hw (Nat.not_lt_zero w), fun p hp => absurd hp (Nat.not_lt_zero p), fun w hw => absurd hw (Nat.not_lt_zero w)⟩, ⟨by decide, fun i hi => absurd hi (Nat.not_lt_zero i)⟩, fun J hJ => (by cases hJ), fun J hJ => (by cases hJ), by decide⟩
theorem py_known {args : Array Value} {s : State} (htb : ∀ w ∈ py_tb, w.before args s = true) : ∃ (D : va_G) (cI cZ : ClassId), va_K D vwCl (py_tys cI cZ) s := by
  obtain ⟨c0, i0, h0⟩ := u_known (C := RX0) (T := TX0) (N := 3) (n := 3) htb clX0.2.1 (htb _ kiX0)
  obtain ⟨c1, i1, h1⟩ := u_known (C := RX1) (T := TX1) (N := 2) (n := 2) htb clX1.2.1 (htb _ kiX1)
  obtain ⟨c2, i2, h2⟩ := u_known (C := RX2) (T := TX2) (N := 12) (n := 12) htb clX2.2.1 (htb _ kiX2)
  obtain ⟨c3, i3, h3⟩ := u_known (C := RX3) (T := TX3) (N := 6) (n := 6) htb clX3.2.1 (htb _ kiX3)
  obtain ⟨c4, i4, h4⟩ := u_known (C := RX4) (T := TX4) (N := 3) (n := 3) htb clX4.2.1 (htb _ kiX4)
  obtain ⟨c5, i5, h5⟩ := u_known (C := RX5) (T := TX5) (N := 9) (n := 9) htb clX5.2.1 (htb _ kiX5)
  obtain ⟨c6, i6, h6⟩ := u_known (C := RX6) (T := TX6) (N := 5) (n := 5) htb clX6.2.1 (htb _ kiX6)
  obtain ⟨c7, i7, h7⟩ := u_known (C := RX7) (T := TX7) (N := 11) (n := 11) htb clX7.2.1 (htb _ kiX7)
  obtain ⟨c8, i8, h8⟩ := u_known (C := RX8) (T := TX8) (N := 24) (n := 24) htb clX8.2.1 (htb _ kiX8)
  obtain ⟨cI, kI, pI, a1, a2, a3⟩ := Cond.arrayClass_spec (htb _ acI)
  obtain ⟨cZ, kZ, pZ, b1, b2, b3⟩ := Cond.arrayClass_spec (htb _ acZ)
  refine ⟨(fun k => [c0, c1, c2, c3, c4, c5, c6, c7, c8].getD k c0, fun k => [i0, i1, i2, i3, i4, i5, i6, i7, i8].getD k i0), cI, cZ, fun k q hq => ?_, fun k q hq => ?_⟩
  · match k, hq with
    | 0, hq => cases hq; exact h0
    | 1, hq => cases hq; exact h1
    | 2, hq => cases hq; exact h2
    | 3, hq => cases hq; exact h3
    | 4, hq => cases hq; exact h4
    | 5, hq => cases hq; exact h5
    | 6, hq => cases hq; exact h6
    | 7, hq => cases hq; exact h7
    | 8, hq => cases hq; exact h8
    | k + 9, hq => simp [vwCl] at hq
  · match k, hq with
    | 0, hq => cases hq; exact ⟨fun n z => ⟨fun k h => (by cases h), kI, a2, pI, a3⟩, a1⟩
    | 1, hq => cases hq; exact ⟨fun n z => ⟨fun k h => (by cases h), kZ, b2, pZ, b3⟩, b1⟩
    | k + 2, hq => simp [py_tys] at hq
theorem ls_NEAREST : Cond.laysStatic "PortraitYears$Asker" "NEAREST" "[I" ∈ lw_tbl := List.mem_of_getElem? (i := 763) (by decide +kernel)
theorem ls_SIZE_BODIES : Cond.laysStatic "PortraitYears$Asker" "SIZE_BODIES" "[I" ∈ lw_tbl := List.mem_of_getElem? (i := 774) (by decide +kernel)
theorem ls_MARK_BODIES : Cond.laysStatic "PortraitYears$Asker" "MARK_BODIES" "[I" ∈ lw_tbl := List.mem_of_getElem? (i := 788) (by decide +kernel)
set_option maxRecDepth 100000 in
theorem py_st62 {args : Array Value} {s : State} {A : Nat → Prop} (hts : ∀ w ∈ lw_tbl, w.before args s = true) (hgv : (Jvm.Cond.and given_1 narrow_1).before args s = true) (hA : ∀ a : Nat, a < s.heap.size → ¬ A a) : ∃ t, va_Z "PortraitYears$Asker" "NEAREST" "[I" (.ref t) A s s.heap ∧ va_T .int t 6 (fun j => .int (py_T 62 j)) A s s.heap := by
  have hs := flat_of_before _ hgv
  have hel : ∀ j, j < 6 → (Term.elem (Term.static "PortraitYears$Asker" "NEAREST" "[I") (.int (Int32.ofNat j))).eval args s none [] s = some (.int (py_T 62 j)) := fun j hj => by
    rcases (show j = 0 ∨ j = 1 ∨ j = 2 ∨ j = 3 ∨ j = 4 ∨ j = 5 by omega) with rfl | rfl | rfl | rfl | rfl | rfl
    · exact va_eqt (z := -1) (hs (Cond.eq (.elem (Term.static "PortraitYears$Asker" "NEAREST" "[I") (.int 0)) (.int (-1))) (by decide +kernel))
    · exact va_eqt (z := 0) (hs (Cond.eq (.elem (Term.static "PortraitYears$Asker" "NEAREST" "[I") (.int 1)) (.int (0))) (by decide +kernel))
    · exact va_eqt (z := 1) (hs (Cond.eq (.elem (Term.static "PortraitYears$Asker" "NEAREST" "[I") (.int 2)) (.int (1))) (by decide +kernel))
    · exact va_eqt (z := 1) (hs (Cond.eq (.elem (Term.static "PortraitYears$Asker" "NEAREST" "[I") (.int 3)) (.int (1))) (by decide +kernel))
    · exact va_eqt (z := 0) (hs (Cond.eq (.elem (Term.static "PortraitYears$Asker" "NEAREST" "[I") (.int 4)) (.int (0))) (by decide +kernel))
    · exact va_eqt (z := 4) (hs (Cond.eq (.elem (Term.static "PortraitYears$Asker" "NEAREST" "[I") (.int 5)) (.int (4))) (by decide +kernel))
  obtain ⟨t, h1, h2⟩ := va_Tof (tm := (Term.static "PortraitYears$Asker" "NEAREST" "[I")) (ty := .int) (N := 6) (f := fun j => .int (py_T 62 j)) (A := A) (by decide) (hs _ (by decide +kernel)) (va_eqt (z := 6) (hs (Cond.eq (.length (Term.static "PortraitYears$Asker" "NEAREST" "[I")) (.int 6)) (by decide +kernel))) hel hA
  exact ⟨t, va_Zof (hts _ ls_NEAREST) (hts (.initialized "PortraitYears$Asker") (List.mem_of_getElem? (i := 41) (by decide +kernel))) h1 hA, h2⟩
set_option maxRecDepth 100000 in
theorem py_st63 {args : Array Value} {s : State} {A : Nat → Prop} (hts : ∀ w ∈ lw_tbl, w.before args s = true) (hgv : (Jvm.Cond.and given_1 narrow_1).before args s = true) (hA : ∀ a : Nat, a < s.heap.size → ¬ A a) : ∃ t, va_Z "PortraitYears$Asker" "SIZE_BODIES" "[I" (.ref t) A s s.heap ∧ va_T .int t 6 (fun j => .int (py_T 63 j)) A s s.heap := by
  have hs := flat_of_before _ hgv
  have hel : ∀ j, j < 6 → (Term.elem (Term.static "PortraitYears$Asker" "SIZE_BODIES" "[I") (.int (Int32.ofNat j))).eval args s none [] s = some (.int (py_T 63 j)) := fun j hj => by
    rcases (show j = 0 ∨ j = 1 ∨ j = 2 ∨ j = 3 ∨ j = 4 ∨ j = 5 by omega) with rfl | rfl | rfl | rfl | rfl | rfl
    · exact va_eqt (z := 10) (hs (Cond.eq (.elem (Term.static "PortraitYears$Asker" "SIZE_BODIES" "[I") (.int 0)) (.int (10))) (by decide +kernel))
    · exact va_eqt (z := 11) (hs (Cond.eq (.elem (Term.static "PortraitYears$Asker" "SIZE_BODIES" "[I") (.int 1)) (.int (11))) (by decide +kernel))
    · exact va_eqt (z := 12) (hs (Cond.eq (.elem (Term.static "PortraitYears$Asker" "SIZE_BODIES" "[I") (.int 2)) (.int (12))) (by decide +kernel))
    · exact va_eqt (z := 11) (hs (Cond.eq (.elem (Term.static "PortraitYears$Asker" "SIZE_BODIES" "[I") (.int 3)) (.int (11))) (by decide +kernel))
    · exact va_eqt (z := 13) (hs (Cond.eq (.elem (Term.static "PortraitYears$Asker" "SIZE_BODIES" "[I") (.int 4)) (.int (13))) (by decide +kernel))
    · exact va_eqt (z := 14) (hs (Cond.eq (.elem (Term.static "PortraitYears$Asker" "SIZE_BODIES" "[I") (.int 5)) (.int (14))) (by decide +kernel))
  obtain ⟨t, h1, h2⟩ := va_Tof (tm := (Term.static "PortraitYears$Asker" "SIZE_BODIES" "[I")) (ty := .int) (N := 6) (f := fun j => .int (py_T 63 j)) (A := A) (by decide) (hs _ (by decide +kernel)) (va_eqt (z := 6) (hs (Cond.eq (.length (Term.static "PortraitYears$Asker" "SIZE_BODIES" "[I")) (.int 6)) (by decide +kernel))) hel hA
  exact ⟨t, va_Zof (hts _ ls_SIZE_BODIES) (hts (.initialized "PortraitYears$Asker") (List.mem_of_getElem? (i := 41) (by decide +kernel))) h1 hA, h2⟩
set_option maxRecDepth 100000 in
theorem py_st64 {args : Array Value} {s : State} {A : Nat → Prop} (hts : ∀ w ∈ lw_tbl, w.before args s = true) (hgv : (Jvm.Cond.and given_1 narrow_1).before args s = true) (hA : ∀ a : Nat, a < s.heap.size → ¬ A a) : ∃ t, va_Z "PortraitYears$Asker" "MARK_BODIES" "[I" (.ref t) A s s.heap ∧ va_T .int t 6 (fun j => .int (py_T 64 j)) A s s.heap := by
  have hs := flat_of_before _ hgv
  have hel : ∀ j, j < 6 → (Term.elem (Term.static "PortraitYears$Asker" "MARK_BODIES" "[I") (.int (Int32.ofNat j))).eval args s none [] s = some (.int (py_T 64 j)) := fun j hj => by
    rcases (show j = 0 ∨ j = 1 ∨ j = 2 ∨ j = 3 ∨ j = 4 ∨ j = 5 by omega) with rfl | rfl | rfl | rfl | rfl | rfl
    · exact va_eqt (z := 20) (hs (Cond.eq (.elem (Term.static "PortraitYears$Asker" "MARK_BODIES" "[I") (.int 0)) (.int (20))) (by decide +kernel))
    · exact va_eqt (z := 21) (hs (Cond.eq (.elem (Term.static "PortraitYears$Asker" "MARK_BODIES" "[I") (.int 1)) (.int (21))) (by decide +kernel))
    · exact va_eqt (z := 24) (hs (Cond.eq (.elem (Term.static "PortraitYears$Asker" "MARK_BODIES" "[I") (.int 2)) (.int (24))) (by decide +kernel))
    · exact va_eqt (z := 22) (hs (Cond.eq (.elem (Term.static "PortraitYears$Asker" "MARK_BODIES" "[I") (.int 3)) (.int (22))) (by decide +kernel))
    · exact va_eqt (z := 23) (hs (Cond.eq (.elem (Term.static "PortraitYears$Asker" "MARK_BODIES" "[I") (.int 4)) (.int (23))) (by decide +kernel))
    · exact va_eqt (z := 23) (hs (Cond.eq (.elem (Term.static "PortraitYears$Asker" "MARK_BODIES" "[I") (.int 5)) (.int (23))) (by decide +kernel))
  obtain ⟨t, h1, h2⟩ := va_Tof (tm := (Term.static "PortraitYears$Asker" "MARK_BODIES" "[I")) (ty := .int) (N := 6) (f := fun j => .int (py_T 64 j)) (A := A) (by decide) (hs _ (by decide +kernel)) (va_eqt (z := 6) (hs (Cond.eq (.length (Term.static "PortraitYears$Asker" "MARK_BODIES" "[I")) (.int 6)) (by decide +kernel))) hel hA
  exact ⟨t, va_Zof (hts _ ls_MARK_BODIES) (hts (.initialized "PortraitYears$Asker") (List.mem_of_getElem? (i := 41) (by decide +kernel))) h1 hA, h2⟩
theorem py_scr {b L : Nat} {xs : Nat → Int32} {s : State} {A : Nat → Prop} (hX : va_X b L xs s s.heap) (hb : ¬ A b) : va_T .int b L (fun j => .int (xs j)) A s s.heap := by
  obtain ⟨scr, h1, h2, h3, h4, h5⟩ := hX
  exact ⟨scr, h1, h2, h3, by omega, by rw [h4], h5, hb⟩
