/-! the answers of the other calls, and what they make of the house -/
def an_feed (N : Nat) (x : Int32) : Int32 := if 0 ≤ x.toInt ∧ x.toInt ≤ 255 then (if N < 100 then nI (N + 1) else -1000003) else -1000001
def nn_feed (N : Nat) (x : Int32) : Nat := if (0 ≤ x.toInt ∧ x.toInt ≤ 255) ∧ N < 100 then N + 1 else N
def nb_feed (B : Nat → Nat) (N : Nat) (x : Int32) : Nat → Nat := if (0 ≤ x.toInt ∧ x.toInt ≤ 255) ∧ N < 100 then va_up B N x.toNatClampNeg else B
def an_house (r : py_Re (Nat → Nat)) : Int32 := match r with
  | .inl e => -1000100 - nI e.1
  | .inr q => nI (q.2 12)
def nf_house (ft : Int32) (r : py_Re (Nat → Nat)) : Int32 := match r with
  | .inl e => nI e.2
  | .inr _ => ft
def nh_house (H : Nat → Nat) (r : py_Re (Nat → Nat)) : Nat → Nat := match r with
  | .inl _ => H
  | .inr q => q.2
def na_house (n : Nat) (r : py_Re (Nat → Nat)) : Nat := match r with
  | .inl _ => n
  | .inr _ => 0
/-- who lives, as bits -/
def py_lvH (H : Nat → Nat) : Nat := py_bs (fun p => decide (0 < H (15 + 4 * p))) (H 12)
abbrev py_Az : Type := Nat × (Nat → Nat → Nat) × (Nat → Nat)
/-- an act is kept, and the house becomes another -/
def py_act (z : py_Az) (H2 : Nat → Nat) : py_Az := ((if z.1 + 1 < 24 then z.1 + 1 else 24), py_pa z.1 z.2.1 z.2.2, H2)
def py_yz : Nat → py_Az → py_Az
  | 0, z => z
  | k + 1, z => py_act (py_yz k z) (py_age (py_yz k z).2.2 1)
abbrev py_yok (H : Nat → Nat) (x : Int32) : Prop := 0 < H 0 ∧ (1 ≤ x.toInt ∧ x.toInt ≤ 24) ∧ (H 2 : Int) + x.toInt ≤ 999
def an_years (H : Nat → Nat) (x : Int32) : Int32 := if 0 < H 0 then (if 1 ≤ x.toInt ∧ x.toInt ≤ 24 then (if (H 2 : Int) + x.toInt ≤ 999 then nI (py_lvH (py_age H x.toNatClampNeg)) else -1000003) else -1000001) else -1000002
def nz_years (z : py_Az) (x : Int32) : py_Az := if py_yok z.2.2 x then py_yz x.toNatClampNeg z else z
/-- picture p's cells become v -/
def py_pc2 (H : Nat → Nat) (p v : Nat) : Nat → Nat := fun j => if j = 15 + 4 * p then v else H j
abbrev py_dok (H : Nat → Nat) (x y : Int32) : Prop := (py_pi x (H 12) ∧ (1 ≤ y.toInt ∧ y.toInt ≤ 60)) ∧ 0 < H (15 + 4 * x.toNatClampNeg)
def an_deed (H : Nat → Nat) (x y : Int32) : Int32 := if py_pi x (H 12) ∧ (1 ≤ y.toInt ∧ y.toInt ≤ 60) then (if H (15 + 4 * x.toNatClampNeg) = 0 then -1000002 else nI (H (15 + 4 * x.toNatClampNeg) - y.toNatClampNeg)) else -1000001
def nz_deed (z : py_Az) (x y : Int32) : py_Az := if py_dok z.2.2 x y then py_act z (py_pc2 z.2.2 x.toNatClampNeg (z.2.2 (15 + 4 * x.toNatClampNeg) - y.toNatClampNeg)) else z
def py_cm (H : Nat → Nat) (p v : Nat) : Nat := if v < 60 - H (15 + 4 * p) then v else 60 - H (15 + 4 * p)
def py_rs (H : Nat → Nat) (p c : Nat) : Nat → Nat := fun j => if j = 15 + 4 * p then H j + c else if j = 1 then H 1 - c else H j
abbrev py_rok2 (H : Nat → Nat) (x y : Int32) : Prop := (py_pi x (H 12) ∧ (1 ≤ y.toInt ∧ y.toInt ≤ 60)) ∧ 0 < H (15 + 4 * x.toNatClampNeg) ∧ py_cm H x.toNatClampNeg y.toNatClampNeg ≤ H 1
def an_restore (H : Nat → Nat) (x y : Int32) : Int32 := if py_pi x (H 12) ∧ (1 ≤ y.toInt ∧ y.toInt ≤ 60) then (if 0 < H (15 + 4 * x.toNatClampNeg) ∧ py_cm H x.toNatClampNeg y.toNatClampNeg ≤ H 1 then nI (H (15 + 4 * x.toNatClampNeg) + py_cm H x.toNatClampNeg y.toNatClampNeg) else -1000002) else -1000001
def nz_restore (z : py_Az) (x y : Int32) : py_Az := if py_rok2 z.2.2 x y then py_act z (py_rs z.2.2 x.toNatClampNeg (py_cm z.2.2 x.toNatClampNeg y.toNatClampNeg)) else z
def py_hg (H : Nat → Nat) (p w : Nat) : Nat → Nat := fun j => if j = 16 + 4 * p then w else H j
def py_ct (H : Nat → Nat) (w : Nat) : Nat := py_cn (fun p => decide (H (16 + 4 * p) = w)) (H 12)
def an_hang (H : Nat → Nat) (x y : Int32) : Int32 := if py_pi x (H 12) ∧ py_pi y (H 3) then (if H (16 + 4 * x.toNatClampNeg) = y.toNatClampNeg then -1000002 else if py_ct H y.toNatClampNeg < H 0 then nI (H (16 + 4 * x.toNatClampNeg)) else -1000003) else -1000001
abbrev py_gok (H : Nat → Nat) (x y : Int32) : Prop := (py_pi x (H 12) ∧ py_pi y (H 3)) ∧ H (16 + 4 * x.toNatClampNeg) ≠ y.toNatClampNeg ∧ py_ct H y.toNatClampNeg < H 0
def nz_hang (z : py_Az) (x y : Int32) : py_Az := if py_gok z.2.2 x y then py_act z (py_hg z.2.2 x.toNatClampNeg y.toNatClampNeg) else z
def an_undo (n : Nat) : Int32 := if n = 0 then -1000002 else nI (n - 1)
def nz_undo (z : py_Az) : py_Az := if z.1 = 0 then z else (z.1 - 1, z.2.1, z.2.1 (z.1 - 1))
def an_picture (H : Nat → Nat) (x y : Int32) : Int32 := if py_pi x (H 12) then (if y.toInt = 0 then nI (H (14 + 4 * x.toNatClampNeg)) else if y.toInt = 1 then nI (H (15 + 4 * x.toNatClampNeg)) else if y.toInt = 2 then nI (H (16 + 4 * x.toNatClampNeg)) else if y.toInt = 3 then (if 0 < H (15 + 4 * x.toNatClampNeg) then nI 1 else nI 0) else if y.toInt = 4 then nI (py_f1 H x.toNatClampNeg) else -1000001) else -1000001
def an_wall (H : Nat → Nat) (x y : Int32) : Int32 := if py_pi x (H 3) then (if y.toInt = 0 then nI (H (4 + 2 * x.toNatClampNeg)) else if y.toInt = 1 then nI (H (5 + 2 * x.toNatClampNeg)) else if y.toInt = 2 then nI (py_bs (fun p => decide (H (16 + 4 * p) = x.toNatClampNeg)) (H 12)) else -1000001) else -1000001
abbrev py_fa (x : Int32) : Prop := 0 ≤ x.toInt ∧ x.toInt ≤ 60
def an_remains (H : Nat → Nat) (x y : Int32) : Int32 := if py_pi x (H 12) ∧ py_fa y then nI (py_lf H x.toNatClampNeg y.toNatClampNeg) else -1000001
def an_lives (H : Nat → Nat) (x : Int32) : Int32 := if 0 < H 0 then (if py_fa x then nI (py_bs (fun p => decide (0 < py_lf H p x.toNatClampNeg)) (H 12)) else -1000001) else -1000002
def an_dies (H : Nat → Nat) (x : Int32) : Int32 := if py_pi x (H 12) then py_dyI H x.toNatClampNeg else -1000001
def an_first (H : Nat → Nat) (x : Int32) : Int32 := if 0 < H 0 then (if 0 ≤ x.toInt ∧ x.toInt ≤ 1 then (if py_sn H (H 12) < 100 then (if x.toInt = 0 then nI (py_wh H (H 12)) else nI (py_sn H (H 12))) else -1000000) else -1000001) else -1000002
def py_hz (H : Nat → Nat) (d : Nat) : py_B := py_hf H d (H 12) 0 (fun _ => 0) (fun _ => 0) 0 0 none
def an_hanging (H : Nat → Nat) (x y : Int32) : Int32 := if 0 < H 0 then (if py_fa x ∧ (-2 ≤ y.toInt ∧ y.toInt ≤ 4) then (match py_hz H x.toNatClampNeg with
  | none => -1
  | some b => if y.toInt = -1 then nI b.1 else if y.toInt = -2 then nI b.2.1 else if y.toInt < (H 12 : Int) then nI (b.2.2 y.toNatClampNeg) else -1000000) else -1000001) else -1000002
def an_save (H : Nat → Nat) (x y : Int32) : Int32 := if 0 < H 0 then (if (0 ≤ x.toInt ∧ x.toInt < ((2 ^ H 12 : Nat) : Int)) ∧ py_fa y then py_saveI H x.toNatClampNeg y.toNatClampNeg else -1000001) else -1000002
def an_dark (H : Nat → Nat) (x y : Int32) : Int32 := if 0 < H 0 then (if py_fa x ∧ (0 ≤ y.toInt ∧ y.toInt ≤ 1) then (if y.toInt = 0 then nI (py_mx (fun w => py_dn H w x.toNatClampNeg) (H 3)) else nI (py_dn H (py_mx (fun w => py_dn H w x.toNatClampNeg) (H 3)) x.toNatClampNeg)) else -1000001) else -1000002
/-- the four of 'fits': of a picture, of what is told from i on -/
def py_ft4 (H : Nat → Nat) (p : Nat) (τ : Nat → Int32) (n : Nat) (y : Int32) : Nat :=
  if y.toInt = 0 then py_bs (fun v => decide (1 ≤ v) && py_fit v (H (14 + 4 * p)) (H (15 + 4 * p)) (H (4 + 2 * H (16 + 4 * p))) (H (5 + 2 * H (16 + 4 * p))) (H 2) τ n) 6
  else if y.toInt = 1 then py_bs (fun v => decide (1 ≤ v) && py_fit (H (13 + 4 * p)) v (H (15 + 4 * p)) (H (4 + 2 * H (16 + 4 * p))) (H (5 + 2 * H (16 + 4 * p))) (H 2) τ n) 10
  else if y.toInt = 2 then py_bs (fun v => py_fit (H (13 + 4 * p)) (H (14 + 4 * p)) (H (15 + 4 * p)) (H (4 + 2 * v)) (H (5 + 2 * v)) (H 2) τ n) (H 3)
  else py_bs (fun v => py_fit (H (13 + 4 * p)) (H (14 + 4 * p)) (H (15 + 4 * p) - v) (H (4 + 2 * H (16 + 4 * p))) (H (5 + 2 * H (16 + 4 * p))) (H 2) τ n) 30
abbrev py_fi1 (H : Nat → Nat) (x r n y : Int32) : Prop := (py_pi x (H 12) ∧ py_pi r 8) ∧ ((1 ≤ n.toInt ∧ n.toInt ≤ 16) ∧ (0 ≤ y.toInt ∧ y.toInt ≤ 3))
def an_fits (R : py_Rt) (H : Nat → Nat) (x r i n y : Int32) : Int32 := if py_fi1 H x r n y then (if R.1 r.toNatClampNeg = 3 then -1000010 - nI 1 else if py_hp i n (R.2.1 r.toNatClampNeg) then nI (py_ft4 H x.toNatClampNeg (fun k => R.2.2 (40 * r.toNatClampNeg + i.toNatClampNeg + k)) n.toNatClampNeg y) else -1000010 - nI 2) else -1000001
def nq_fits (R : py_Rt) (q : Int32) (H : Nat → Nat) (x r i n y : Int32) : Int32 := if py_fi1 H x r n y then (if R.1 r.toNatClampNeg = 3 then nI 1 else if py_hp i n (R.2.1 r.toNatClampNeg) then nI 0 else nI 2) else q
def py_lc (H : Nat → Nat) (d : Nat) : Nat := py_cn (fun p => decide (0 < py_lf H p d)) (H 12)
def py_up1 (H : Nat → Nat) (m d c : Nat) : Nat := py_wy m (py_lc H d) c (2 ^ py_lc H d)
def an_thieves (H : Nat → Nat) (x d c y : Int32) : Int32 := if 0 < H 0 then (if ((0 ≤ x.toInt ∧ x.toInt ≤ 5) ∧ py_fa d) ∧ ((0 ≤ c.toInt ∧ c.toInt ≤ 10) ∧ (0 ≤ y.toInt ∧ y.toInt ≤ 1)) then nI ((if y.toInt = 0 then py_up1 H x.toNatClampNeg d.toNatClampNeg c.toNatClampNeg else 10 ^ py_lc H d.toNatClampNeg) / Nat.gcd (py_up1 H x.toNatClampNeg d.toNatClampNeg c.toNatClampNeg) (10 ^ py_lc H d.toNatClampNeg)) else -1000001) else -1000002
def an_drawn (H : Nat → Nat) (x sd y : Int32) : Int32 := if 0 < H 0 then (if (py_fa x ∧ (1 ≤ sd.toInt ∧ sd.toInt ≤ 999999)) ∧ (0 ≤ y.toInt ∧ y.toInt ≤ 1) then (if y.toInt = 0 then nI (py_bs (fun p => decide (0 < py_dg H sd.toNatClampNeg x.toNatClampNeg p)) (H 12)) else nI (py_sm (py_dg H sd.toNatClampNeg x.toNatClampNeg) (H 12))) else -1000001) else -1000002
def an_image (H : Nat → Nat) (x : Int32) : Int32 := if 0 ≤ x.toInt ∧ x.toInt ≤ 1 then (if 0 < H 0 then nI 1 else -1000002) else -1000001
def ni_image (H : Nat → Nat) (I : Option (Nat → Nat)) (k : Int) (x : Int32) : Option (Nat → Nat) := if x.toInt = k ∧ 0 < H 0 then some H else I
def py_ix (I0 I1 : Option (Nat → Nat)) (x : Int32) : Option (Nat → Nat) := if x.toInt = 0 then I0 else I1
def an_recall (I0 I1 : Option (Nat → Nat)) (x : Int32) : Int32 := if 0 ≤ x.toInt ∧ x.toInt ≤ 1 then (match py_ix I0 I1 x with
  | some _ => nI 1
  | none => -1000002) else -1000001
def nh_recall (H : Nat → Nat) (I0 I1 : Option (Nat → Nat)) (x : Int32) : Nat → Nat := if 0 ≤ x.toInt ∧ x.toInt ≤ 1 then (match py_ix I0 I1 x with
  | some J => J
  | none => H) else H
def na_recall (n : Nat) (I0 I1 : Option (Nat → Nat)) (x : Int32) : Nat := if 0 ≤ x.toInt ∧ x.toInt ≤ 1 then (match py_ix I0 I1 x with
  | some _ => 0
  | none => n) else n
def an_kind (H : Nat → Nat) (x : Int32) : Int32 := if py_pi x (H 12) then nI (H (13 + 4 * x.toNatClampNeg)) else -1000001
def an_as (H : Nat → Nat) (x y : Int32) : Int32 := if py_pi x (H 12) ∧ (0 ≤ y.toInt ∧ y.toInt ≤ 5) then (if py_isa (H (13 + 4 * x.toNatClampNeg)) y.toNatClampNeg then x else -1000010 - nI 3) else -1000001
def nq_as (q : Int32) (H : Nat → Nat) (x y : Int32) : Int32 := if py_pi x (H 12) ∧ (0 ≤ y.toInt ∧ y.toInt ≤ 5) then (if py_isa (H (13 + 4 * x.toNatClampNeg)) y.toNatClampNeg then nI 0 else nI 3) else q
def py_ak (H : Nat → Nat) (x y : Int32) : Int32 × List Nat := if y.toInt = 0 then py_sz H x.toNatClampNeg else py_mr H x.toNatClampNeg
def an_ask (H : Nat → Nat) (x y : Int32) : Int32 := if py_pi x (H 12) ∧ (0 ≤ y.toInt ∧ y.toInt ≤ 1) then (py_ak H x y).1 else -1000001
def nt_ask (t : Nat) (H : Nat → Nat) (x y : Int32) : Nat := if py_pi x (H 12) ∧ (0 ≤ y.toInt ∧ y.toInt ≤ 1) then (py_ak H x y).2.length else t
def nu_ask (tr : Nat → Int32) (H : Nat → Nat) (x y : Int32) : Nat → Int32 := if py_pi x (H 12) ∧ (0 ≤ y.toInt ∧ y.toInt ≤ 1) then (fun i => nI ((py_ak H x y).2.getD i 0)) else tr
def an_trace (t : Nat) (tr : Nat → Int32) (x : Int32) : Int32 := if py_pi x t then tr x.toNatClampNeg else -1000000
def an_count (R : py_Rt) (N : Nat) (H : Nat → Nat) (n : Nat) (x : Int32) : Int32 := if x.toInt = 0 then nI (py_cn (fun r => decide (R.1 r ≠ 3)) 8) else if x.toInt = 1 then nI (H 3) else if x.toInt = 2 then nI (H 12) else if x.toInt = 3 then nI (H 2) else if x.toInt = 4 then nI (H 1) else if x.toInt = 5 then nI (py_lvH H) else if x.toInt = 6 then nI n else if x.toInt = 7 then nI N else -1000001
/-! the bounds stay -/
theorem py_st_rf (H : Nat → Nat) : py_st H H := ⟨rfl, rfl, rfl, fun _ _ => ⟨rfl, rfl⟩, fun _ _ => ⟨rfl, rfl⟩⟩
theorem py_st_tr {A H G : Nat → Nat} (h : py_st A H) (g : py_st H G) : py_st A G := by
  obtain ⟨a0, a3, a12, aw, ap⟩ := h
  obtain ⟨g0, g3, g12, gw, gp⟩ := g
  refine ⟨a0.trans g0, a3.trans g3, a12.trans g12, fun w hw => ?_, fun p hp => ?_⟩
  · have x := aw w (by omega)
    have y := gw w hw
    exact ⟨x.1.trans y.1, x.2.trans y.2⟩
  · have x := ap p (by omega)
    have y := gp p hp
    exact ⟨x.1.trans y.1, x.2.trans y.2⟩
theorem py_act_w {z : py_Az} {H2 : Nat → Nat} (hw : py_wf z.2.2) (hA : z.1 ≤ 24 ∧ ∀ i, i < z.1 → py_wf (z.2.1 i) ∧ py_st (z.2.1 i) z.2.2) (hst : py_st z.2.2 H2) : (py_act z H2).1 ≤ 24 ∧ ∀ i, i < (py_act z H2).1 → py_wf ((py_act z H2).2.1 i) ∧ py_st ((py_act z H2).2.1 i) H2 := by
  obtain ⟨n, As, H⟩ := z
  show (if n + 1 < 24 then n + 1 else 24) ≤ 24 ∧ ∀ i, i < (if n + 1 < 24 then n + 1 else 24) → py_wf (py_pa n As H i) ∧ py_st (py_pa n As H i) H2
  have hA1 : n ≤ 24 := hA.1
  have hA2 : ∀ i, i < n → py_wf (As i) ∧ py_st (As i) H := hA.2
  have hw2 : py_wf H := hw
  have hst2 : py_st H H2 := hst
  refine ⟨by split <;> omega, fun i hi => ?_⟩
  have hi2 : i < n + 1 ∧ i < 24 := by split at hi <;> omega
  unfold py_pa
  by_cases h24 : n < 24
  · rw [if_pos h24]
    by_cases hin : i = n
    · rw [if_pos hin]; exact ⟨hw2, hst2⟩
    · rw [if_neg hin]
      have z := hA2 i (by omega)
      exact ⟨z.1, py_st_tr z.2 hst2⟩
  · rw [if_neg h24]
    by_cases hin : i = 23
    · rw [if_pos hin]; exact ⟨hw2, hst2⟩
    · rw [if_neg hin]
      have z := hA2 (i + 1) (by omega)
      exact ⟨z.1, py_st_tr z.2 hst2⟩
/-- a house whose static numbers are H's is as bounded if its others are -/
theorem py_wf_st {H G : Nat → Nat} (hw : py_wf H) (hst : py_st H G) (h1 : G 1 ≤ 99) (h2 : G 2 ≤ 999) (hp : ∀ p, p < H 12 → G (15 + 4 * p) ≤ 60 ∧ G (16 + 4 * p) < H 3) (hr : ∀ w, w < H 3 → py_cn (fun p => decide (G (16 + 4 * p) = w)) (H 12) ≤ H 0) : py_wf G := by
  obtain ⟨w0, w1, w2, w3, w12, w03, w00, wW, wP, wR⟩ := hw
  obtain ⟨a0, a3, a12, aw, ap⟩ := hst
  unfold py_wf
  rw [← a0, ← a3, ← a12]
  rw [← a3] at aw
  rw [← a12] at ap
  refine ⟨w0, h1, h2, w3, w12, w03, w00, fun w hw => ?_, fun p hpp => ?_, hr⟩
  · have x := aw w hw
    have y := wW w hw
    rw [← x.1, ← x.2]
    exact y
  · have x := ap p hpp
    have y := wP p hpp
    have z := hp p hpp
    rw [← x.1, ← x.2]
    exact ⟨y.1, y.2.1, y.2.2.1, y.2.2.2.1, z.1, z.2⟩
theorem py_age1_st {H : Nat → Nat} (hw : py_wf H) (d : Nat) : py_st H (py_age H d) := by
  have h3 := hw.2.2.2.1
  have e3 : py_age H d 3 = H 3 := py_age_n H d (by decide) (fun p => by omega)
  have e12 := py_age_12 H d
  refine ⟨(py_age_n H d (by decide) (fun p => by omega)).symm, e3.symm, e12.symm, fun w hw => ?_, fun p hp => ?_⟩
  · rw [e3] at hw
    exact ⟨(py_age_n H d (by omega) (fun p => by omega)).symm, (py_age_n H d (by omega) (fun p => by omega)).symm⟩
  · exact ⟨(py_age_n H d (by omega) (fun p => by omega)).symm, (py_age_n H d (by omega) (fun p => by omega)).symm⟩
theorem py_age_wf {H : Nat → Nat} (hw : py_wf H) {d : Nat} (hd : H 2 + d ≤ 999) : py_wf (py_age H d) := by
  have hst := py_age1_st hw d
  refine py_wf_st hw hst ?_ ?_ (fun p hp => ?_) (fun w hw2 => ?_)
  · rw [py_age_n H d (by decide) (fun p => by omega)]; exact hw.2.1
  · rw [py_age_2]; exact hd
  · have y := hw.2.2.2.2.2.2.2.2.1 p hp
    rw [py_age_l H d hp, py_age_n H d (j := 16 + 4 * p) (by omega) (fun q => by omega)]
    exact ⟨by omega, y.2.2.2.2.2⟩
  · rw [show (fun p => decide (py_age H d (16 + 4 * p) = w)) = (fun p => decide (H (16 + 4 * p) = w)) from funext (fun p => by rw [py_age_n H d (j := 16 + 4 * p) (by omega) (fun q => by omega)])]
    exact hw.2.2.2.2.2.2.2.2.2 w hw2
/-- a year behind d years -/
theorem py_age_age {H : Nat → Nat} (hw : py_wf H) (d : Nat) : py_age (py_age H d) 1 = py_age H (d + 1) := by
  funext j
  have e12 := py_age_12 H d
  by_cases h2 : j = 2
  · subst h2; rw [py_age_2, py_age_2, py_age_2]; omega
  by_cases hl : ∃ p, p < H 12 ∧ j = 15 + 4 * p
  · obtain ⟨p, hp, rfl⟩ := hl
    have y := hw.2.2.2.2.2.2.2.2.1 p hp
    have h3 := hw.2.2.2.1
    rw [py_age_l _ 1 (by rw [e12]; exact hp), py_age_l H d hp, py_age_l H (d + 1) hp]
    have e1 : py_fn (py_age H d) p 1 = py_fd (H (13 + 4 * p)) (H (14 + 4 * p)) (H (4 + 2 * H (16 + 4 * p))) (H (5 + 2 * H (16 + 4 * p))) (H 2 + d) := by
      rw [← py_age_f1 H d p (by omega)]
      unfold py_fn py_f1
      rw [py_fs_1]
      rw [py_age_n H d (j := 14 + 4 * p) (by omega) (fun q => by omega)]
      exact y.2.2.1
    have e2 : py_fn H p (d + 1) = py_fn H p d + py_fd (H (13 + 4 * p)) (H (14 + 4 * p)) (H (4 + 2 * H (16 + 4 * p))) (H (5 + 2 * H (16 + 4 * p))) (H 2 + d) := py_fs_s y.2.2.1
    rw [e1, e2]
    omega
  · rw [py_age_o _ 1 h2 (fun p hp e => hl ⟨p, by rw [← e12]; exact hp, e⟩), py_age_o H d h2 (fun p hp e => hl ⟨p, hp, e⟩), py_age_o H (d + 1) h2 (fun p hp e => hl ⟨p, hp, e⟩)]
theorem py_yz_h {z : py_Az} (hw : py_wf z.2.2) : ∀ k, (py_yz k z).2.2 = py_age z.2.2 k
  | 0 => (py_age_0 _).symm
  | k + 1 => by
    have ih := py_yz_h hw k
    show py_age (py_yz k z).2.2 1 = _
    rw [ih, py_age_age hw]
