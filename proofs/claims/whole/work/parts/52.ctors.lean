/-! the constructors -/
theorem klL_7 : Cond.classLink RL 7 RX7 ∈ py_tb := py_tb_in 46 (by decide +kernel) rfl
theorem kiX7 : Cond.instantiable RX7 11 ∈ py_tb := py_tb_in 47 (by decide +kernel) rfl
theorem imX7 : Cond.instanceMethod yX7_init ∈ py_tb := py_tb_in 49 (by decide +kernel) rfl
theorem koX7 : Cond.methodLink RX7 1 objectInit ∈ py_tb := py_tb_in 51 (by decide +kernel) rfl
theorem imO : Cond.instanceMethod objectInit ∈ py_tb := py_tb_in 52 (by decide +kernel) rfl
theorem coO : Cond.code objectInit ⟨#[0xb1]⟩ 1 none ∈ py_tb := py_tb_in 53 (by decide +kernel) rfl
theorem klX7_7 : Cond.classLink RX7 7 RX4 ∈ py_tb := py_tb_in 54 (by decide +kernel) rfl
theorem kiX4 : Cond.instantiable RX4 3 ∈ py_tb := py_tb_in 55 (by decide +kernel) rfl
theorem imX4 : Cond.instanceMethod yX4_init ∈ py_tb := py_tb_in 57 (by decide +kernel) rfl
theorem koX4 : Cond.methodLink RX4 1 objectInit ∈ py_tb := py_tb_in 59 (by decide +kernel) rfl
theorem acI : Cond.arrayClass .int ∈ py_tb := py_tb_in 70 (by decide +kernel) rfl
theorem klX7_16 : Cond.classLink RX7 16 RX6 ∈ py_tb := py_tb_in 71 (by decide +kernel) rfl
theorem kiX6 : Cond.instantiable RX6 5 ∈ py_tb := py_tb_in 72 (by decide +kernel) rfl
theorem imX6 : Cond.instanceMethod yX6_init ∈ py_tb := py_tb_in 74 (by decide +kernel) rfl
theorem koX6 : Cond.methodLink RX6 3 objectInit ∈ py_tb := py_tb_in 76 (by decide +kernel) rfl
theorem klX7_23 : Cond.classLink RX7 23 RX2 ∈ py_tb := py_tb_in 96 (by decide +kernel) rfl
theorem kiX2 : Cond.instantiable RX2 12 ∈ py_tb := py_tb_in 97 (by decide +kernel) rfl
theorem imX2 : Cond.instanceMethod yX2_init ∈ py_tb := py_tb_in 99 (by decide +kernel) rfl
theorem koX2 : Cond.methodLink RX2 3 objectInit ∈ py_tb := py_tb_in 101 (by decide +kernel) rfl
theorem klX7_39 : Cond.classLink RX7 39 RX0 ∈ py_tb := py_tb_in 176 (by decide +kernel) rfl
theorem kiX0 : Cond.instantiable RX0 3 ∈ py_tb := py_tb_in 177 (by decide +kernel) rfl
theorem imX0 : Cond.instanceMethod yX0_init ∈ py_tb := py_tb_in 179 (by decide +kernel) rfl
theorem koX0 : Cond.methodLink RX0 5 objectInit ∈ py_tb := py_tb_in 181 (by decide +kernel) rfl
theorem klX7_46 : Cond.classLink RX7 46 RX5 ∈ py_tb := py_tb_in 193 (by decide +kernel) rfl
theorem kiX5 : Cond.instantiable RX5 9 ∈ py_tb := py_tb_in 194 (by decide +kernel) rfl
theorem imX5 : Cond.instanceMethod yX5_init ∈ py_tb := py_tb_in 196 (by decide +kernel) rfl
theorem koX5 : Cond.methodLink RX5 3 objectInit ∈ py_tb := py_tb_in 198 (by decide +kernel) rfl
theorem klX5_9 : Cond.classLink RX5 9 RX3 ∈ py_tb := py_tb_in 199 (by decide +kernel) rfl
theorem kiX3 : Cond.instantiable RX3 6 ∈ py_tb := py_tb_in 200 (by decide +kernel) rfl
theorem imX3 : Cond.instanceMethod yX3_init ∈ py_tb := py_tb_in 202 (by decide +kernel) rfl
theorem koX3 : Cond.methodLink RX3 3 objectInit ∈ py_tb := py_tb_in 204 (by decide +kernel) rfl
theorem klX7_53 : Cond.classLink RX7 53 RX1 ∈ py_tb := py_tb_in 261 (by decide +kernel) rfl
theorem kiX1 : Cond.instantiable RX1 2 ∈ py_tb := py_tb_in 262 (by decide +kernel) rfl
theorem imX1 : Cond.instanceMethod yX1_init ∈ py_tb := py_tb_in 264 (by decide +kernel) rfl
theorem koX1 : Cond.methodLink RX1 3 objectInit ∈ py_tb := py_tb_in 266 (by decide +kernel) rfl
theorem klL_10 : Cond.classLink RL 10 RX8 ∈ py_tb := py_tb_in 810 (by decide +kernel) rfl
theorem kiX8 : Cond.instantiable RX8 24 ∈ py_tb := py_tb_in 811 (by decide +kernel) rfl
theorem imX8 : Cond.instanceMethod yX8_init ∈ py_tb := py_tb_in 813 (by decide +kernel) rfl
theorem koX8 : Cond.methodLink RX8 1 objectInit ∈ py_tb := py_tb_in 815 (by decide +kernel) rfl
theorem acZ : Cond.arrayClass .boolean ∈ py_tb := py_tb_in 890 (by decide +kernel) rfl
theorem py_nd_of : ∀ {l : List Nat}, l.Nodup → va_nd l = true
  | [], _ => rfl
  | a :: l, h => by
    rw [List.nodup_cons] at h
    show (decide (a ∉ l) && va_nd l) = true
    rw [decide_eq_true h.1, py_nd_of h.2]
    rfl
theorem py_nd_rg (n : Nat) : va_nd (List.range n) = true := py_nd_of List.nodup_range
/-- the first i filled with v -/
def py_fl (v : Int32) (i : Nat) : Nat → Int32 := fun j => if j < i then v else 0
theorem py_fl_0 (v : Int32) : py_fl v 0 = (fun _ => 0) := by
  funext j
  unfold py_fl
  rw [if_neg (by omega)]
theorem py_fl_s (v : Int32) (i : Nat) : upd (py_fl v i) i v = py_fl v (i + 1) := by
  funext j
  unfold upd py_fl
  by_cases h : j = i
  · rw [if_pos h, if_pos (by omega)]
  · rw [if_neg h]
    by_cases h2 : j < i
    · rw [if_pos h2, if_pos (by omega)]
    · rw [if_neg h2, if_neg (by omega)]
def pw_X3 (_cI : ClassId) (h0 : Nat) (_f : Nat → Nat) : va_W := [(h0, .inr (3, [.int 0, .int 0, .int 0, .int 0, .int 0, .int 0]))]
set_option maxHeartbeats 4000000 in
set_option maxRecDepth 100000 in
theorem cn_X3 (D : va_G) (cI cZ : ClassId) : py_Cn 1 yX3_init cX3_init 1 0 0 D cI cZ (.inr (3, [.int 0, .int 0, .int 0, .int 0, .int 0, .int 0])) (fun h0 w => ∃ f, w = pw_X3 cI h0 f) := by
  refine py_Cn.of (own := RX3) YX3_init.2.2.2.2 rfl rfl (by decide) (fun h0 => ?_)
  show py_Mk RX3 cX3_init 1 1 0 0 D cI cZ 0 [some (.ref h0)] [] [(h0, .inr (3, [.int 0, .int 0, .int 0, .int 0, .int 0, .int 0]))] 0 0 (fun w => ∃ f, w = pw_X3 cI h0 f)
  refine mk_aload_n (pc := 0) dX3_init_0 rfl ?_
  refine mk_obj (pc := 1) dX3_init_1 koX3 imO coO (by decide) ?_
  exact mk_ret (pc := 4) dX3_init_4 ⟨fun k => ([h0] : List Nat).getD k 0, rfl⟩ rfl rfl
def pw_X6 (cI : ClassId) (h0 : Nat) (f : Nat → Nat) : va_W := [(h0, .inr (6, [.ref (f 1), .int 0, .int 0, .int 0, .int 0])), ((f 1), .inl (cI, 100, .inl (fun _ => 0)))]
set_option maxHeartbeats 4000000 in
set_option maxRecDepth 100000 in
theorem cn_X6 (D : va_G) (cI cZ : ClassId) : py_Cn 1 yX6_init cX6_init 1 1 100 D cI cZ (.inr (6, [.null, .int 0, .int 0, .int 0, .int 0])) (fun h0 w => ∃ f, w = pw_X6 cI h0 f) := by
  refine py_Cn.of (own := RX6) YX6_init.2.2.2.2 rfl rfl (by decide) (fun h0 => ?_)
  show py_Mk RX6 cX6_init 1 1 1 100 D cI cZ 0 [some (.ref h0)] [] [(h0, .inr (6, [.null, .int 0, .int 0, .int 0, .int 0]))] 0 0 (fun w => ∃ f, w = pw_X6 cI h0 f)
  refine mk_aload_n (pc := 0) dX6_init_0 rfl ?_
  refine mk_obj (pc := 1) dX6_init_1 koX6 imO coO (by decide) ?_
  refine mk_aload_n (pc := 4) dX6_init_4 rfl ?_
  refine mk_bipush (v := nI 100) (pc := 5) dX6_init_5 (by decide) ?_
  refine mk_newI (n := 100) (pc := 7) dX6_init_7 acI (by decide) (by decide) (by decide) (fun q1 => ?_)
  refine mk_ws (w2 := [(h0, .inr (6, [.null, .int 0, .int 0, .int 0, .int 0])), (q1, .inl (cI, 100, .inl (fun _ => 0)))]) rfl ?_
  refine mk_putF (q0 := 0) (pc := 9) dX6_init_9 fX6_11 (fun C T h => by have e := h.symm.trans (show vwCl[6]? = some (RX6, TX6, 5) from rfl); injection e with e; injection e with e1 e2; injection e2 with e3 e4; subst e3; rfl) rfl ⟨rfl, rfl⟩ (Nat.le_of_ble_eq_true rfl) ?_
  refine mk_ws (w2 := [(h0, .inr (6, [.ref q1, .int 0, .int 0, .int 0, .int 0])), (q1, .inl (cI, 100, .inl (fun _ => 0)))]) rfl ?_
  exact mk_ret (pc := 12) dX6_init_12 ⟨fun k => ([h0, q1] : List Nat).getD k 0, rfl⟩ rfl rfl
def pw_X0 (cI : ClassId) (h0 : Nat) (f : Nat → Nat) : va_W := [(h0, .inr (0, [.ref (f 1), .int 0, .int 0])), ((f 1), .inl (cI, 288, .inl (fun _ => 0)))]
set_option maxHeartbeats 4000000 in
set_option maxRecDepth 100000 in
theorem cn_X0 (D : va_G) (cI cZ : ClassId) : py_Cn 1 yX0_init cX0_init 1 1 288 D cI cZ (.inr (0, [.null, .int 0, .int 0])) (fun h0 w => ∃ f, w = pw_X0 cI h0 f) := by
  refine py_Cn.of (own := RX0) YX0_init.2.2.2.2 rfl rfl (by decide) (fun h0 => ?_)
  show py_Mk RX0 cX0_init 1 1 1 288 D cI cZ 0 [some (.ref h0)] [] [(h0, .inr (0, [.null, .int 0, .int 0]))] 0 0 (fun w => ∃ f, w = pw_X0 cI h0 f)
  refine mk_aload_n (pc := 0) dX0_init_0 rfl ?_
  refine mk_obj (pc := 1) dX0_init_1 koX0 imO coO (by decide) ?_
  refine mk_aload_n (pc := 4) dX0_init_4 rfl ?_
  refine mk_sipush (v := nI 288) (pc := 5) dX0_init_5 (by decide) ?_
  refine mk_newI (n := 288) (pc := 8) dX0_init_8 acI (by decide) (by decide) (by decide) (fun q1 => ?_)
  refine mk_ws (w2 := [(h0, .inr (0, [.null, .int 0, .int 0])), (q1, .inl (cI, 288, .inl (fun _ => 0)))]) rfl ?_
  refine mk_putF (q0 := 0) (pc := 10) dX0_init_10 fX0_11 (fun C T h => by have e := h.symm.trans (show vwCl[0]? = some (RX0, TX0, 3) from rfl); injection e with e; injection e with e1 e2; injection e2 with e3 e4; subst e3; rfl) rfl ⟨rfl, rfl⟩ (Nat.le_of_ble_eq_true rfl) ?_
  refine mk_ws (w2 := [(h0, .inr (0, [.ref q1, .int 0, .int 0])), (q1, .inl (cI, 288, .inl (fun _ => 0)))]) rfl ?_
  exact mk_ret (pc := 13) dX0_init_13 ⟨fun k => ([h0, q1] : List Nat).getD k 0, rfl⟩ rfl rfl
def pw_X1 (cI : ClassId) (h0 : Nat) (f : Nat → Nat) : va_W := [(h0, .inr (1, [.ref (f 1), .int 0])), ((f 1), .inl (cI, 16, .inl (fun _ => 0)))]
set_option maxHeartbeats 4000000 in
set_option maxRecDepth 100000 in
theorem cn_X1 (D : va_G) (cI cZ : ClassId) : py_Cn 1 yX1_init cX1_init 1 1 16 D cI cZ (.inr (1, [.null, .int 0])) (fun h0 w => ∃ f, w = pw_X1 cI h0 f) := by
  refine py_Cn.of (own := RX1) YX1_init.2.2.2.2 rfl rfl (by decide) (fun h0 => ?_)
  show py_Mk RX1 cX1_init 1 1 1 16 D cI cZ 0 [some (.ref h0)] [] [(h0, .inr (1, [.null, .int 0]))] 0 0 (fun w => ∃ f, w = pw_X1 cI h0 f)
  refine mk_aload_n (pc := 0) dX1_init_0 rfl ?_
  refine mk_obj (pc := 1) dX1_init_1 koX1 imO coO (by decide) ?_
  refine mk_aload_n (pc := 4) dX1_init_4 rfl ?_
  refine mk_bipush (v := nI 16) (pc := 5) dX1_init_5 (by decide) ?_
  refine mk_newI (n := 16) (pc := 7) dX1_init_7 acI (by decide) (by decide) (by decide) (fun q1 => ?_)
  refine mk_ws (w2 := [(h0, .inr (1, [.null, .int 0])), (q1, .inl (cI, 16, .inl (fun _ => 0)))]) rfl ?_
  refine mk_putF (q0 := 0) (pc := 9) dX1_init_9 fX1_11 (fun C T h => by have e := h.symm.trans (show vwCl[1]? = some (RX1, TX1, 2) from rfl); injection e with e; injection e with e1 e2; injection e2 with e3 e4; subst e3; rfl) rfl ⟨rfl, rfl⟩ (Nat.le_of_ble_eq_true rfl) ?_
  refine mk_ws (w2 := [(h0, .inr (1, [.ref q1, .int 0])), (q1, .inl (cI, 16, .inl (fun _ => 0)))]) rfl ?_
  exact mk_ret (pc := 12) dX1_init_12 ⟨fun k => ([h0, q1] : List Nat).getD k 0, rfl⟩ rfl rfl
def pw_X2 (cI : ClassId) (h0 : Nat) (f : Nat → Nat) : va_W := [(h0, .inr (2, [.int 0, .int 0, .int 0, .int 0, .int 0, .int 0, .ref (f 1), .ref (f 2), .ref (f 3), .ref (f 4), .ref (f 5), .ref (f 6)])), ((f 1), .inl (cI, 4, .inl (fun _ => 0))), ((f 2), .inl (cI, 4, .inl (fun _ => 0))), ((f 3), .inl (cI, 5, .inl (fun _ => 0))), ((f 4), .inl (cI, 5, .inl (fun _ => 0))), ((f 5), .inl (cI, 5, .inl (fun _ => 0))), ((f 6), .inl (cI, 5, .inl (fun _ => 0)))]
set_option maxHeartbeats 4000000 in
set_option maxRecDepth 100000 in
theorem cn_X2 (D : va_G) (cI cZ : ClassId) : py_Cn 1 yX2_init cX2_init 1 6 28 D cI cZ (.inr (2, [.int 0, .int 0, .int 0, .int 0, .int 0, .int 0, .null, .null, .null, .null, .null, .null])) (fun h0 w => ∃ f, w = pw_X2 cI h0 f) := by
  refine py_Cn.of (own := RX2) YX2_init.2.2.2.2 rfl rfl (by decide) (fun h0 => ?_)
  show py_Mk RX2 cX2_init 1 1 6 28 D cI cZ 0 [some (.ref h0)] [] [(h0, .inr (2, [.int 0, .int 0, .int 0, .int 0, .int 0, .int 0, .null, .null, .null, .null, .null, .null]))] 0 0 (fun w => ∃ f, w = pw_X2 cI h0 f)
  refine mk_aload_n (pc := 0) dX2_init_0 rfl ?_
  refine mk_obj (pc := 1) dX2_init_1 koX2 imO coO (by decide) ?_
  refine mk_aload_n (pc := 4) dX2_init_4 rfl ?_
  refine mk_iconst (v := nI 4) (pc := 5) dX2_init_5 (by decide) ?_
  refine mk_newI (n := 4) (pc := 6) dX2_init_6 acI (by decide) (by decide) (by decide) (fun q1 => ?_)
  refine mk_ws (w2 := [(h0, .inr (2, [.int 0, .int 0, .int 0, .int 0, .int 0, .int 0, .null, .null, .null, .null, .null, .null])), (q1, .inl (cI, 4, .inl (fun _ => 0)))]) rfl ?_
  refine mk_putF (q0 := 0) (pc := 8) dX2_init_8 fX2_9 (fun C T h => by have e := h.symm.trans (show vwCl[2]? = some (RX2, TX2, 12) from rfl); injection e with e; injection e with e1 e2; injection e2 with e3 e4; subst e3; rfl) rfl ⟨rfl, rfl⟩ (Nat.le_of_ble_eq_true rfl) ?_
  refine mk_ws (w2 := [(h0, .inr (2, [.int 0, .int 0, .int 0, .int 0, .int 0, .int 0, .ref q1, .null, .null, .null, .null, .null])), (q1, .inl (cI, 4, .inl (fun _ => 0)))]) rfl ?_
  refine mk_aload_n (pc := 11) dX2_init_11 rfl ?_
  refine mk_iconst (v := nI 4) (pc := 12) dX2_init_12 (by decide) ?_
  refine mk_newI (n := 4) (pc := 13) dX2_init_13 acI (by decide) (by decide) (by decide) (fun q2 => ?_)
  refine mk_ws (w2 := [(h0, .inr (2, [.int 0, .int 0, .int 0, .int 0, .int 0, .int 0, .ref q1, .null, .null, .null, .null, .null])), (q1, .inl (cI, 4, .inl (fun _ => 0))), (q2, .inl (cI, 4, .inl (fun _ => 0)))]) rfl ?_
  refine mk_putF (q0 := 0) (pc := 15) dX2_init_15 fX2_15 (fun C T h => by have e := h.symm.trans (show vwCl[2]? = some (RX2, TX2, 12) from rfl); injection e with e; injection e with e1 e2; injection e2 with e3 e4; subst e3; rfl) rfl ⟨rfl, rfl⟩ (Nat.le_of_ble_eq_true rfl) ?_
  refine mk_ws (w2 := [(h0, .inr (2, [.int 0, .int 0, .int 0, .int 0, .int 0, .int 0, .ref q1, .ref q2, .null, .null, .null, .null])), (q1, .inl (cI, 4, .inl (fun _ => 0))), (q2, .inl (cI, 4, .inl (fun _ => 0)))]) rfl ?_
  refine mk_aload_n (pc := 18) dX2_init_18 rfl ?_
  refine mk_iconst (v := nI 5) (pc := 19) dX2_init_19 (by decide) ?_
  refine mk_newI (n := 5) (pc := 20) dX2_init_20 acI (by decide) (by decide) (by decide) (fun q3 => ?_)
  refine mk_ws (w2 := [(h0, .inr (2, [.int 0, .int 0, .int 0, .int 0, .int 0, .int 0, .ref q1, .ref q2, .null, .null, .null, .null])), (q1, .inl (cI, 4, .inl (fun _ => 0))), (q2, .inl (cI, 4, .inl (fun _ => 0))), (q3, .inl (cI, 5, .inl (fun _ => 0)))]) rfl ?_
  refine mk_putF (q0 := 0) (pc := 22) dX2_init_22 fX2_18 (fun C T h => by have e := h.symm.trans (show vwCl[2]? = some (RX2, TX2, 12) from rfl); injection e with e; injection e with e1 e2; injection e2 with e3 e4; subst e3; rfl) rfl ⟨rfl, rfl⟩ (Nat.le_of_ble_eq_true rfl) ?_
  refine mk_ws (w2 := [(h0, .inr (2, [.int 0, .int 0, .int 0, .int 0, .int 0, .int 0, .ref q1, .ref q2, .ref q3, .null, .null, .null])), (q1, .inl (cI, 4, .inl (fun _ => 0))), (q2, .inl (cI, 4, .inl (fun _ => 0))), (q3, .inl (cI, 5, .inl (fun _ => 0)))]) rfl ?_
  refine mk_aload_n (pc := 25) dX2_init_25 rfl ?_
  refine mk_iconst (v := nI 5) (pc := 26) dX2_init_26 (by decide) ?_
  refine mk_newI (n := 5) (pc := 27) dX2_init_27 acI (by decide) (by decide) (by decide) (fun q4 => ?_)
  refine mk_ws (w2 := [(h0, .inr (2, [.int 0, .int 0, .int 0, .int 0, .int 0, .int 0, .ref q1, .ref q2, .ref q3, .null, .null, .null])), (q1, .inl (cI, 4, .inl (fun _ => 0))), (q2, .inl (cI, 4, .inl (fun _ => 0))), (q3, .inl (cI, 5, .inl (fun _ => 0))), (q4, .inl (cI, 5, .inl (fun _ => 0)))]) rfl ?_
  refine mk_putF (q0 := 0) (pc := 29) dX2_init_29 fX2_21 (fun C T h => by have e := h.symm.trans (show vwCl[2]? = some (RX2, TX2, 12) from rfl); injection e with e; injection e with e1 e2; injection e2 with e3 e4; subst e3; rfl) rfl ⟨rfl, rfl⟩ (Nat.le_of_ble_eq_true rfl) ?_
  refine mk_ws (w2 := [(h0, .inr (2, [.int 0, .int 0, .int 0, .int 0, .int 0, .int 0, .ref q1, .ref q2, .ref q3, .ref q4, .null, .null])), (q1, .inl (cI, 4, .inl (fun _ => 0))), (q2, .inl (cI, 4, .inl (fun _ => 0))), (q3, .inl (cI, 5, .inl (fun _ => 0))), (q4, .inl (cI, 5, .inl (fun _ => 0)))]) rfl ?_
  refine mk_aload_n (pc := 32) dX2_init_32 rfl ?_
  refine mk_iconst (v := nI 5) (pc := 33) dX2_init_33 (by decide) ?_
  refine mk_newI (n := 5) (pc := 34) dX2_init_34 acI (by decide) (by decide) (by decide) (fun q5 => ?_)
  refine mk_ws (w2 := [(h0, .inr (2, [.int 0, .int 0, .int 0, .int 0, .int 0, .int 0, .ref q1, .ref q2, .ref q3, .ref q4, .null, .null])), (q1, .inl (cI, 4, .inl (fun _ => 0))), (q2, .inl (cI, 4, .inl (fun _ => 0))), (q3, .inl (cI, 5, .inl (fun _ => 0))), (q4, .inl (cI, 5, .inl (fun _ => 0))), (q5, .inl (cI, 5, .inl (fun _ => 0)))]) rfl ?_
  refine mk_putF (q0 := 0) (pc := 36) dX2_init_36 fX2_24 (fun C T h => by have e := h.symm.trans (show vwCl[2]? = some (RX2, TX2, 12) from rfl); injection e with e; injection e with e1 e2; injection e2 with e3 e4; subst e3; rfl) rfl ⟨rfl, rfl⟩ (Nat.le_of_ble_eq_true rfl) ?_
  refine mk_ws (w2 := [(h0, .inr (2, [.int 0, .int 0, .int 0, .int 0, .int 0, .int 0, .ref q1, .ref q2, .ref q3, .ref q4, .ref q5, .null])), (q1, .inl (cI, 4, .inl (fun _ => 0))), (q2, .inl (cI, 4, .inl (fun _ => 0))), (q3, .inl (cI, 5, .inl (fun _ => 0))), (q4, .inl (cI, 5, .inl (fun _ => 0))), (q5, .inl (cI, 5, .inl (fun _ => 0)))]) rfl ?_
  refine mk_aload_n (pc := 39) dX2_init_39 rfl ?_
  refine mk_iconst (v := nI 5) (pc := 40) dX2_init_40 (by decide) ?_
  refine mk_newI (n := 5) (pc := 41) dX2_init_41 acI (by decide) (by decide) (by decide) (fun q6 => ?_)
  refine mk_ws (w2 := [(h0, .inr (2, [.int 0, .int 0, .int 0, .int 0, .int 0, .int 0, .ref q1, .ref q2, .ref q3, .ref q4, .ref q5, .null])), (q1, .inl (cI, 4, .inl (fun _ => 0))), (q2, .inl (cI, 4, .inl (fun _ => 0))), (q3, .inl (cI, 5, .inl (fun _ => 0))), (q4, .inl (cI, 5, .inl (fun _ => 0))), (q5, .inl (cI, 5, .inl (fun _ => 0))), (q6, .inl (cI, 5, .inl (fun _ => 0)))]) rfl ?_
  refine mk_putF (q0 := 0) (pc := 43) dX2_init_43 fX2_27 (fun C T h => by have e := h.symm.trans (show vwCl[2]? = some (RX2, TX2, 12) from rfl); injection e with e; injection e with e1 e2; injection e2 with e3 e4; subst e3; rfl) rfl ⟨rfl, rfl⟩ (Nat.le_of_ble_eq_true rfl) ?_
  refine mk_ws (w2 := [(h0, .inr (2, [.int 0, .int 0, .int 0, .int 0, .int 0, .int 0, .ref q1, .ref q2, .ref q3, .ref q4, .ref q5, .ref q6])), (q1, .inl (cI, 4, .inl (fun _ => 0))), (q2, .inl (cI, 4, .inl (fun _ => 0))), (q3, .inl (cI, 5, .inl (fun _ => 0))), (q4, .inl (cI, 5, .inl (fun _ => 0))), (q5, .inl (cI, 5, .inl (fun _ => 0))), (q6, .inl (cI, 5, .inl (fun _ => 0)))]) rfl ?_
  exact mk_ret (pc := 46) dX2_init_46 ⟨fun k => ([h0, q1, q2, q3, q4, q5, q6] : List Nat).getD k 0, rfl⟩ rfl rfl
def pw_X5 (cI : ClassId) (h0 : Nat) (f : Nat → Nat) : va_W := [(h0, .inr (5, [.ref (f 1), .ref (f 2), .ref (f 3), .ref (f 4), .ref (f 5), .ref (f 6), .ref (f 7), .int 0, .int 0])), ((f 1), .inr (3, [.int 0, .int 0, .int 0, .int 0, .int 0, .int 0])), ((f 2), .inl (cI, 16, .inl (fun _ => 0))), ((f 3), .inl (cI, 20, .inl (fun _ => 0))), ((f 4), .inl (cI, 4, .inl (fun _ => 0))), ((f 5), .inl (cI, 5, .inl (fun _ => 0))), ((f 6), .inl (cI, 5, .inl (fun _ => 0))), ((f 7), .inl (cI, 5, .inl (fun _ => 0)))]
set_option maxHeartbeats 4000000 in
set_option maxRecDepth 100000 in
theorem cn_X5 (D : va_G) (cI cZ : ClassId) : py_Cn 2 yX5_init cX5_init 1 7 61 D cI cZ (.inr (5, [.null, .null, .null, .null, .null, .null, .null, .int 0, .int 0])) (fun h0 w => ∃ f, w = pw_X5 cI h0 f) := by
  refine py_Cn.of (own := RX5) YX5_init.2.2.2.2 rfl rfl (by decide) (fun h0 => ?_)
  show py_Mk RX5 cX5_init 1 2 7 61 D cI cZ 0 [some (.ref h0)] [] [(h0, .inr (5, [.null, .null, .null, .null, .null, .null, .null, .int 0, .int 0]))] 0 0 (fun w => ∃ f, w = pw_X5 cI h0 f)
  refine mk_aload_n (pc := 0) dX5_init_0 rfl ?_
  refine mk_obj (pc := 1) dX5_init_1 koX5 imO coO (by decide) ?_
  refine mk_aload_n (pc := 4) dX5_init_4 rfl ?_
  refine mk_new (pc := 5) (fs := [.int 0, .int 0, .int 0, .int 0, .int 0, .int 0]) dX5_init_5 clX3 klX5_9 kiX3 YX3_init.2.1 (fun j hj => by rcases (show j = 0 ∨ j = 1 ∨ j = 2 ∨ j = 3 ∨ j = 4 ∨ j = 5 by omega) with rfl | rfl | rfl | rfl | rfl | rfl <;> rfl) (by decide) (by decide) (fun q1 => ?_)
  refine mk_dup (pc := 8) dX5_init_8 rfl ?_
  refine mk_iN (ws := [(h0, .inr (5, [.null, .null, .null, .null, .null, .null, .null, .int 0, .int 0]))]) (pc := 9) dX5_init_9 (cn_X3 D cI cZ) nX5_11 YX3_init imX3 rfl (by decide) (Nat.le_of_ble_eq_true rfl) (py_nd_rg _) (by decide) (by decide) (fun w2 hw => ?_)
  obtain ⟨f1, rfl⟩ := hw
  refine mk_ws (w2 := [(h0, .inr (5, [.null, .null, .null, .null, .null, .null, .null, .int 0, .int 0])), (q1, .inr (3, [.int 0, .int 0, .int 0, .int 0, .int 0, .int 0]))]) rfl ?_
  refine mk_putF (q0 := 0) (pc := 12) dX5_init_12 fX5_12 (fun C T h => by have e := h.symm.trans (show vwCl[5]? = some (RX5, TX5, 9) from rfl); injection e with e; injection e with e1 e2; injection e2 with e3 e4; subst e3; rfl) rfl ⟨rfl, rfl⟩ (Nat.le_of_ble_eq_true rfl) ?_
  refine mk_ws (w2 := [(h0, .inr (5, [.ref q1, .null, .null, .null, .null, .null, .null, .int 0, .int 0])), (q1, .inr (3, [.int 0, .int 0, .int 0, .int 0, .int 0, .int 0]))]) rfl ?_
  refine mk_aload_n (pc := 15) dX5_init_15 rfl ?_
  refine mk_bipush (v := nI 16) (pc := 16) dX5_init_16 (by decide) ?_
  refine mk_newI (n := 16) (pc := 18) dX5_init_18 acI (by decide) (by decide) (by decide) (fun q2 => ?_)
  refine mk_ws (w2 := [(h0, .inr (5, [.ref q1, .null, .null, .null, .null, .null, .null, .int 0, .int 0])), (q1, .inr (3, [.int 0, .int 0, .int 0, .int 0, .int 0, .int 0])), (q2, .inl (cI, 16, .inl (fun _ => 0)))]) rfl ?_
  refine mk_putF (q0 := 0) (pc := 20) dX5_init_20 fX5_18 (fun C T h => by have e := h.symm.trans (show vwCl[5]? = some (RX5, TX5, 9) from rfl); injection e with e; injection e with e1 e2; injection e2 with e3 e4; subst e3; rfl) rfl ⟨rfl, rfl⟩ (Nat.le_of_ble_eq_true rfl) ?_
  refine mk_ws (w2 := [(h0, .inr (5, [.ref q1, .ref q2, .null, .null, .null, .null, .null, .int 0, .int 0])), (q1, .inr (3, [.int 0, .int 0, .int 0, .int 0, .int 0, .int 0])), (q2, .inl (cI, 16, .inl (fun _ => 0)))]) rfl ?_
  refine mk_aload_n (pc := 23) dX5_init_23 rfl ?_
  refine mk_bipush (v := nI 20) (pc := 24) dX5_init_24 (by decide) ?_
  refine mk_newI (n := 20) (pc := 26) dX5_init_26 acI (by decide) (by decide) (by decide) (fun q3 => ?_)
  refine mk_ws (w2 := [(h0, .inr (5, [.ref q1, .ref q2, .null, .null, .null, .null, .null, .int 0, .int 0])), (q1, .inr (3, [.int 0, .int 0, .int 0, .int 0, .int 0, .int 0])), (q2, .inl (cI, 16, .inl (fun _ => 0))), (q3, .inl (cI, 20, .inl (fun _ => 0)))]) rfl ?_
  refine mk_putF (q0 := 0) (pc := 28) dX5_init_28 fX5_22 (fun C T h => by have e := h.symm.trans (show vwCl[5]? = some (RX5, TX5, 9) from rfl); injection e with e; injection e with e1 e2; injection e2 with e3 e4; subst e3; rfl) rfl ⟨rfl, rfl⟩ (Nat.le_of_ble_eq_true rfl) ?_
  refine mk_ws (w2 := [(h0, .inr (5, [.ref q1, .ref q2, .ref q3, .null, .null, .null, .null, .int 0, .int 0])), (q1, .inr (3, [.int 0, .int 0, .int 0, .int 0, .int 0, .int 0])), (q2, .inl (cI, 16, .inl (fun _ => 0))), (q3, .inl (cI, 20, .inl (fun _ => 0)))]) rfl ?_
  refine mk_aload_n (pc := 31) dX5_init_31 rfl ?_
  refine mk_iconst (v := nI 4) (pc := 32) dX5_init_32 (by decide) ?_
  refine mk_newI (n := 4) (pc := 33) dX5_init_33 acI (by decide) (by decide) (by decide) (fun q4 => ?_)
  refine mk_ws (w2 := [(h0, .inr (5, [.ref q1, .ref q2, .ref q3, .null, .null, .null, .null, .int 0, .int 0])), (q1, .inr (3, [.int 0, .int 0, .int 0, .int 0, .int 0, .int 0])), (q2, .inl (cI, 16, .inl (fun _ => 0))), (q3, .inl (cI, 20, .inl (fun _ => 0))), (q4, .inl (cI, 4, .inl (fun _ => 0)))]) rfl ?_
  refine mk_putF (q0 := 0) (pc := 35) dX5_init_35 fX5_25 (fun C T h => by have e := h.symm.trans (show vwCl[5]? = some (RX5, TX5, 9) from rfl); injection e with e; injection e with e1 e2; injection e2 with e3 e4; subst e3; rfl) rfl ⟨rfl, rfl⟩ (Nat.le_of_ble_eq_true rfl) ?_
  refine mk_ws (w2 := [(h0, .inr (5, [.ref q1, .ref q2, .ref q3, .ref q4, .null, .null, .null, .int 0, .int 0])), (q1, .inr (3, [.int 0, .int 0, .int 0, .int 0, .int 0, .int 0])), (q2, .inl (cI, 16, .inl (fun _ => 0))), (q3, .inl (cI, 20, .inl (fun _ => 0))), (q4, .inl (cI, 4, .inl (fun _ => 0)))]) rfl ?_
  refine mk_aload_n (pc := 38) dX5_init_38 rfl ?_
  refine mk_iconst (v := nI 5) (pc := 39) dX5_init_39 (by decide) ?_
  refine mk_newI (n := 5) (pc := 40) dX5_init_40 acI (by decide) (by decide) (by decide) (fun q5 => ?_)
  refine mk_ws (w2 := [(h0, .inr (5, [.ref q1, .ref q2, .ref q3, .ref q4, .null, .null, .null, .int 0, .int 0])), (q1, .inr (3, [.int 0, .int 0, .int 0, .int 0, .int 0, .int 0])), (q2, .inl (cI, 16, .inl (fun _ => 0))), (q3, .inl (cI, 20, .inl (fun _ => 0))), (q4, .inl (cI, 4, .inl (fun _ => 0))), (q5, .inl (cI, 5, .inl (fun _ => 0)))]) rfl ?_
  refine mk_putF (q0 := 0) (pc := 42) dX5_init_42 fX5_28 (fun C T h => by have e := h.symm.trans (show vwCl[5]? = some (RX5, TX5, 9) from rfl); injection e with e; injection e with e1 e2; injection e2 with e3 e4; subst e3; rfl) rfl ⟨rfl, rfl⟩ (Nat.le_of_ble_eq_true rfl) ?_
  refine mk_ws (w2 := [(h0, .inr (5, [.ref q1, .ref q2, .ref q3, .ref q4, .ref q5, .null, .null, .int 0, .int 0])), (q1, .inr (3, [.int 0, .int 0, .int 0, .int 0, .int 0, .int 0])), (q2, .inl (cI, 16, .inl (fun _ => 0))), (q3, .inl (cI, 20, .inl (fun _ => 0))), (q4, .inl (cI, 4, .inl (fun _ => 0))), (q5, .inl (cI, 5, .inl (fun _ => 0)))]) rfl ?_
  refine mk_aload_n (pc := 45) dX5_init_45 rfl ?_
  refine mk_iconst (v := nI 5) (pc := 46) dX5_init_46 (by decide) ?_
  refine mk_newI (n := 5) (pc := 47) dX5_init_47 acI (by decide) (by decide) (by decide) (fun q6 => ?_)
  refine mk_ws (w2 := [(h0, .inr (5, [.ref q1, .ref q2, .ref q3, .ref q4, .ref q5, .null, .null, .int 0, .int 0])), (q1, .inr (3, [.int 0, .int 0, .int 0, .int 0, .int 0, .int 0])), (q2, .inl (cI, 16, .inl (fun _ => 0))), (q3, .inl (cI, 20, .inl (fun _ => 0))), (q4, .inl (cI, 4, .inl (fun _ => 0))), (q5, .inl (cI, 5, .inl (fun _ => 0))), (q6, .inl (cI, 5, .inl (fun _ => 0)))]) rfl ?_
  refine mk_putF (q0 := 0) (pc := 49) dX5_init_49 fX5_31 (fun C T h => by have e := h.symm.trans (show vwCl[5]? = some (RX5, TX5, 9) from rfl); injection e with e; injection e with e1 e2; injection e2 with e3 e4; subst e3; rfl) rfl ⟨rfl, rfl⟩ (Nat.le_of_ble_eq_true rfl) ?_
  refine mk_ws (w2 := [(h0, .inr (5, [.ref q1, .ref q2, .ref q3, .ref q4, .ref q5, .ref q6, .null, .int 0, .int 0])), (q1, .inr (3, [.int 0, .int 0, .int 0, .int 0, .int 0, .int 0])), (q2, .inl (cI, 16, .inl (fun _ => 0))), (q3, .inl (cI, 20, .inl (fun _ => 0))), (q4, .inl (cI, 4, .inl (fun _ => 0))), (q5, .inl (cI, 5, .inl (fun _ => 0))), (q6, .inl (cI, 5, .inl (fun _ => 0)))]) rfl ?_
  refine mk_aload_n (pc := 52) dX5_init_52 rfl ?_
  refine mk_iconst (v := nI 5) (pc := 53) dX5_init_53 (by decide) ?_
  refine mk_newI (n := 5) (pc := 54) dX5_init_54 acI (by decide) (by decide) (by decide) (fun q7 => ?_)
  refine mk_ws (w2 := [(h0, .inr (5, [.ref q1, .ref q2, .ref q3, .ref q4, .ref q5, .ref q6, .null, .int 0, .int 0])), (q1, .inr (3, [.int 0, .int 0, .int 0, .int 0, .int 0, .int 0])), (q2, .inl (cI, 16, .inl (fun _ => 0))), (q3, .inl (cI, 20, .inl (fun _ => 0))), (q4, .inl (cI, 4, .inl (fun _ => 0))), (q5, .inl (cI, 5, .inl (fun _ => 0))), (q6, .inl (cI, 5, .inl (fun _ => 0))), (q7, .inl (cI, 5, .inl (fun _ => 0)))]) rfl ?_
  refine mk_putF (q0 := 0) (pc := 56) dX5_init_56 fX5_34 (fun C T h => by have e := h.symm.trans (show vwCl[5]? = some (RX5, TX5, 9) from rfl); injection e with e; injection e with e1 e2; injection e2 with e3 e4; subst e3; rfl) rfl ⟨rfl, rfl⟩ (Nat.le_of_ble_eq_true rfl) ?_
  refine mk_ws (w2 := [(h0, .inr (5, [.ref q1, .ref q2, .ref q3, .ref q4, .ref q5, .ref q6, .ref q7, .int 0, .int 0])), (q1, .inr (3, [.int 0, .int 0, .int 0, .int 0, .int 0, .int 0])), (q2, .inl (cI, 16, .inl (fun _ => 0))), (q3, .inl (cI, 20, .inl (fun _ => 0))), (q4, .inl (cI, 4, .inl (fun _ => 0))), (q5, .inl (cI, 5, .inl (fun _ => 0))), (q6, .inl (cI, 5, .inl (fun _ => 0))), (q7, .inl (cI, 5, .inl (fun _ => 0)))]) rfl ?_
  exact mk_ret (pc := 59) dX5_init_59 ⟨fun k => ([h0, q1, q2, q3, q4, q5, q6, q7] : List Nat).getD k 0, rfl⟩ rfl rfl
def pw_X4 (cI : ClassId) (h0 : Nat) (f : Nat → Nat) : va_W := [(h0, .inr (4, [.ref (f 1), .ref (f 2), .ref (f 3)])), ((f 1), .inl (cI, 320, .inl (fun _ => 0))), ((f 2), .inl (cI, 8, .inl (py_fl (-1) 8))), ((f 3), .inl (cI, 8, .inl (fun _ => 0)))]
set_option maxHeartbeats 4000000 in
set_option maxRecDepth 100000 in
theorem cn_X4 (D : va_G) (cI cZ : ClassId) : py_Cn 1 yX4_init cX4_init 2 3 336 D cI cZ (.inr (4, [.null, .null, .null])) (fun h0 w => ∃ f, w = pw_X4 cI h0 f) := by
  refine py_Cn.of (own := RX4) YX4_init.2.2.2.2 rfl rfl (by decide) (fun h0 => ?_)
  show py_Mk RX4 cX4_init 2 1 3 336 D cI cZ 0 [some (.ref h0), none] [] [(h0, .inr (4, [.null, .null, .null]))] 0 0 (fun w => ∃ f, w = pw_X4 cI h0 f)
  refine mk_aload_n (pc := 0) dX4_init_0 rfl ?_
  refine mk_obj (pc := 1) dX4_init_1 koX4 imO coO (by decide) ?_
  refine mk_aload_n (pc := 4) dX4_init_4 rfl ?_
  refine mk_sipush (v := nI 320) (pc := 5) dX4_init_5 (by decide) ?_
  refine mk_newI (n := 320) (pc := 8) dX4_init_8 acI (by decide) (by decide) (by decide) (fun q1 => ?_)
  refine mk_ws (w2 := [(h0, .inr (4, [.null, .null, .null])), (q1, .inl (cI, 320, .inl (fun _ => 0)))]) rfl ?_
  refine mk_putF (q0 := 0) (pc := 10) dX4_init_10 fX4_9 (fun C T h => by have e := h.symm.trans (show vwCl[4]? = some (RX4, TX4, 3) from rfl); injection e with e; injection e with e1 e2; injection e2 with e3 e4; subst e3; rfl) rfl ⟨rfl, rfl⟩ (Nat.le_of_ble_eq_true rfl) ?_
  refine mk_ws (w2 := [(h0, .inr (4, [.ref q1, .null, .null])), (q1, .inl (cI, 320, .inl (fun _ => 0)))]) rfl ?_
  refine mk_aload_n (pc := 13) dX4_init_13 rfl ?_
  refine mk_bipush (v := nI 8) (pc := 14) dX4_init_14 (by decide) ?_
  refine mk_newI (n := 8) (pc := 16) dX4_init_16 acI (by decide) (by decide) (by decide) (fun q2 => ?_)
  refine mk_ws (w2 := [(h0, .inr (4, [.ref q1, .null, .null])), (q1, .inl (cI, 320, .inl (fun _ => 0))), (q2, .inl (cI, 8, .inl (fun _ => 0)))]) rfl ?_
  refine mk_putF (q0 := 0) (pc := 18) dX4_init_18 fX4_13 (fun C T h => by have e := h.symm.trans (show vwCl[4]? = some (RX4, TX4, 3) from rfl); injection e with e; injection e with e1 e2; injection e2 with e3 e4; subst e3; rfl) rfl ⟨rfl, rfl⟩ (Nat.le_of_ble_eq_true rfl) ?_
  refine mk_ws (w2 := [(h0, .inr (4, [.ref q1, .ref q2, .null])), (q1, .inl (cI, 320, .inl (fun _ => 0))), (q2, .inl (cI, 8, .inl (fun _ => 0)))]) rfl ?_
  refine mk_aload_n (pc := 21) dX4_init_21 rfl ?_
  refine mk_bipush (v := nI 8) (pc := 22) dX4_init_22 (by decide) ?_
  refine mk_newI (n := 8) (pc := 24) dX4_init_24 acI (by decide) (by decide) (by decide) (fun q3 => ?_)
  refine mk_ws (w2 := [(h0, .inr (4, [.ref q1, .ref q2, .null])), (q1, .inl (cI, 320, .inl (fun _ => 0))), (q2, .inl (cI, 8, .inl (fun _ => 0))), (q3, .inl (cI, 8, .inl (fun _ => 0)))]) rfl ?_
  refine mk_putF (q0 := 0) (pc := 26) dX4_init_26 fX4_16 (fun C T h => by have e := h.symm.trans (show vwCl[4]? = some (RX4, TX4, 3) from rfl); injection e with e; injection e with e1 e2; injection e2 with e3 e4; subst e3; rfl) rfl ⟨rfl, rfl⟩ (Nat.le_of_ble_eq_true rfl) ?_
  refine mk_ws (w2 := [(h0, .inr (4, [.ref q1, .ref q2, .ref q3])), (q1, .inl (cI, 320, .inl (fun _ => 0))), (q2, .inl (cI, 8, .inl (fun _ => 0))), (q3, .inl (cI, 8, .inl (fun _ => 0)))]) rfl ?_
  refine mk_iconst (v := nI 0) (pc := 29) dX4_init_29 (by decide) ?_
  refine mk_istore_n (pc := 30) dX4_init_30 (by decide) rfl ?_
  have loop : ∀ i, i ≤ 8 → py_Mk RX4 cX4_init 2 1 3 336 D cI cZ 31 [some (.ref h0), some (.int (nI i))] [] [(h0, .inr (4, [.ref q1, .ref q2, .ref q3])), (q1, .inl (cI, 320, .inl (fun _ => 0))), (q2, .inl (cI, 8, .inl (py_fl (-1) i))), (q3, .inl (cI, 8, .inl (fun _ => 0)))] 3 336 (fun w => ∃ f, w = pw_X4 cI h0 f) := by
    refine py_loop _ 8 (fun i hi ih => ?_)
    refine mk_iload_n (pc := 31) dX4_init_31 rfl ?_
    refine mk_bipush (v := nI 8) (pc := 32) dX4_init_32 (by decide) ?_
    refine mk_icmp_ge (tgt := 50) (pc := 34) dX4_init_34 (by decide) (fun cc => ?_) (fun cc => ?_)
    · have hi8 : i = 8 := by have z := (Int32.le_iff_toInt_le.mp cc); rw [nI_toInt (by decide), nI_toInt (by omega)] at z; omega
      subst hi8
      exact mk_ret (pc := 50) dX4_init_50 ⟨fun k => ([h0, q1, q2, q3] : List Nat).getD k 0, rfl⟩ rfl rfl
    · have hi8 : i < 8 := Nat.lt_of_not_le (fun z => cc (Int32.le_iff_toInt_le.mpr (by rw [nI_toInt (by decide), nI_toInt (by omega)]; omega)))
      refine mk_aload_n (pc := 37) dX4_init_37 rfl ?_
      refine mk_getR (q0 := 0) (pc := 38) dX4_init_38 fX4_13 rfl rfl ?_
      refine mk_iload_n (pc := 41) dX4_init_41 rfl ?_
      refine mk_iconst (v := -1) (pc := 42) dX4_init_42 (by decide) ?_
      refine mk_iast (q0 := 2) (n := 8) (pc := 43) dX4_init_43 rfl hi8 (by decide) ?_
      rw [py_fl_s]
      refine mk_iinc (v := nI (i + 1)) (pc := 44) dX4_init_44 rfl (nI_1 i) (by decide) rfl ?_
      refine mk_goto (tgt := 31) (pc := 47) dX4_init_47 (by decide) ?_
      exact ih hi8
  have e8 := loop 0 (by decide)
  rw [py_fl_0] at e8
  exact e8
def pw_X8 (cI : ClassId) (cZ : ClassId) (h0 : Nat) (f : Nat → Nat) : va_W := [(h0, .inr (8, [.ref (f 1), .ref (f 2), .ref (f 3), .ref (f 4), .int 0, .ref (f 5), .int 0, .int 0, .int 0, .int 0, .int 0, .int 0, .int 0, .ref (f 6), .ref (f 7), .ref (f 8), .ref (f 9), .int 0, .ref (f 10), .ref (f 11), .ref (f 12), .ref (f 13), .ref (f 14), .int 0])), ((f 1), .inl (cI, 8, .inl (py_fl (-1000000) 8))), ((f 2), .inl (cI, 8, .inl (fun _ => 0))), ((f 3), .inl (cI, 320, .inl (fun _ => 0))), ((f 4), .inl (cI, 40, .inl (fun _ => 0))), ((f 5), .inl (cI, 100, .inl (fun _ => 0))), ((f 6), .inl (cI, 33, .inl (fun _ => 0))), ((f 7), .inl (cI, 33, .inl (fun _ => 0))), ((f 8), .inl (cI, 33, .inl (fun _ => 0))), ((f 9), .inl (cI, 792, .inl (fun _ => 0))), ((f 10), .inl (cI, 66, .inl (fun _ => 0))), ((f 11), .inl (cZ, 2, .inl (fun _ => 0))), ((f 12), .inl (cI, 5, .inl (fun _ => 0))), ((f 13), .inl (cI, 5, .inl (fun _ => 0))), ((f 14), .inl (cI, 16, .inl (fun _ => 0)))]
set_option maxHeartbeats 4000000 in
set_option maxRecDepth 100000 in
theorem cn_X8 (D : va_G) (cI cZ : ClassId) : py_Cn 1 yX8_init cX8_init 2 14 1461 D cI cZ (.inr (8, [.null, .null, .null, .null, .int 0, .null, .int 0, .int 0, .int 0, .int 0, .int 0, .int 0, .int 0, .null, .null, .null, .null, .int 0, .null, .null, .null, .null, .null, .int 0])) (fun h0 w => ∃ f, w = pw_X8 cI cZ h0 f) := by
  refine py_Cn.of (own := RX8) YX8_init.2.2.2.2 rfl rfl (by decide) (fun h0 => ?_)
  show py_Mk RX8 cX8_init 2 1 14 1461 D cI cZ 0 [some (.ref h0), none] [] [(h0, .inr (8, [.null, .null, .null, .null, .int 0, .null, .int 0, .int 0, .int 0, .int 0, .int 0, .int 0, .int 0, .null, .null, .null, .null, .int 0, .null, .null, .null, .null, .null, .int 0]))] 0 0 (fun w => ∃ f, w = pw_X8 cI cZ h0 f)
  refine mk_aload_n (pc := 0) dX8_init_0 rfl ?_
  refine mk_obj (pc := 1) dX8_init_1 koX8 imO coO (by decide) ?_
  refine mk_aload_n (pc := 4) dX8_init_4 rfl ?_
  refine mk_bipush (v := nI 8) (pc := 5) dX8_init_5 (by decide) ?_
  refine mk_newI (n := 8) (pc := 7) dX8_init_7 acI (by decide) (by decide) (by decide) (fun q1 => ?_)
  refine mk_ws (w2 := [(h0, .inr (8, [.null, .null, .null, .null, .int 0, .null, .int 0, .int 0, .int 0, .int 0, .int 0, .int 0, .int 0, .null, .null, .null, .null, .int 0, .null, .null, .null, .null, .null, .int 0])), (q1, .inl (cI, 8, .inl (fun _ => 0)))]) rfl ?_
  refine mk_putF (q0 := 0) (pc := 9) dX8_init_9 fX8_7 (fun C T h => by have e := h.symm.trans (show vwCl[8]? = some (RX8, TX8, 24) from rfl); injection e with e; injection e with e1 e2; injection e2 with e3 e4; subst e3; rfl) rfl ⟨rfl, rfl⟩ (Nat.le_of_ble_eq_true rfl) ?_
  refine mk_ws (w2 := [(h0, .inr (8, [.ref q1, .null, .null, .null, .int 0, .null, .int 0, .int 0, .int 0, .int 0, .int 0, .int 0, .int 0, .null, .null, .null, .null, .int 0, .null, .null, .null, .null, .null, .int 0])), (q1, .inl (cI, 8, .inl (fun _ => 0)))]) rfl ?_
  refine mk_aload_n (pc := 12) dX8_init_12 rfl ?_
  refine mk_bipush (v := nI 8) (pc := 13) dX8_init_13 (by decide) ?_
  refine mk_newI (n := 8) (pc := 15) dX8_init_15 acI (by decide) (by decide) (by decide) (fun q2 => ?_)
  refine mk_ws (w2 := [(h0, .inr (8, [.ref q1, .null, .null, .null, .int 0, .null, .int 0, .int 0, .int 0, .int 0, .int 0, .int 0, .int 0, .null, .null, .null, .null, .int 0, .null, .null, .null, .null, .null, .int 0])), (q1, .inl (cI, 8, .inl (fun _ => 0))), (q2, .inl (cI, 8, .inl (fun _ => 0)))]) rfl ?_
  refine mk_putF (q0 := 0) (pc := 17) dX8_init_17 fX8_13 (fun C T h => by have e := h.symm.trans (show vwCl[8]? = some (RX8, TX8, 24) from rfl); injection e with e; injection e with e1 e2; injection e2 with e3 e4; subst e3; rfl) rfl ⟨rfl, rfl⟩ (Nat.le_of_ble_eq_true rfl) ?_
  refine mk_ws (w2 := [(h0, .inr (8, [.ref q1, .ref q2, .null, .null, .int 0, .null, .int 0, .int 0, .int 0, .int 0, .int 0, .int 0, .int 0, .null, .null, .null, .null, .int 0, .null, .null, .null, .null, .null, .int 0])), (q1, .inl (cI, 8, .inl (fun _ => 0))), (q2, .inl (cI, 8, .inl (fun _ => 0)))]) rfl ?_
  refine mk_aload_n (pc := 20) dX8_init_20 rfl ?_
  refine mk_sipush (v := nI 320) (pc := 21) dX8_init_21 (by decide) ?_
  refine mk_newI (n := 320) (pc := 24) dX8_init_24 acI (by decide) (by decide) (by decide) (fun q3 => ?_)
  refine mk_ws (w2 := [(h0, .inr (8, [.ref q1, .ref q2, .null, .null, .int 0, .null, .int 0, .int 0, .int 0, .int 0, .int 0, .int 0, .int 0, .null, .null, .null, .null, .int 0, .null, .null, .null, .null, .null, .int 0])), (q1, .inl (cI, 8, .inl (fun _ => 0))), (q2, .inl (cI, 8, .inl (fun _ => 0))), (q3, .inl (cI, 320, .inl (fun _ => 0)))]) rfl ?_
  refine mk_putF (q0 := 0) (pc := 26) dX8_init_26 fX8_16 (fun C T h => by have e := h.symm.trans (show vwCl[8]? = some (RX8, TX8, 24) from rfl); injection e with e; injection e with e1 e2; injection e2 with e3 e4; subst e3; rfl) rfl ⟨rfl, rfl⟩ (Nat.le_of_ble_eq_true rfl) ?_
  refine mk_ws (w2 := [(h0, .inr (8, [.ref q1, .ref q2, .ref q3, .null, .int 0, .null, .int 0, .int 0, .int 0, .int 0, .int 0, .int 0, .int 0, .null, .null, .null, .null, .int 0, .null, .null, .null, .null, .null, .int 0])), (q1, .inl (cI, 8, .inl (fun _ => 0))), (q2, .inl (cI, 8, .inl (fun _ => 0))), (q3, .inl (cI, 320, .inl (fun _ => 0)))]) rfl ?_
  refine mk_aload_n (pc := 29) dX8_init_29 rfl ?_
  refine mk_bipush (v := nI 40) (pc := 30) dX8_init_30 (by decide) ?_
  refine mk_newI (n := 40) (pc := 32) dX8_init_32 acI (by decide) (by decide) (by decide) (fun q4 => ?_)
  refine mk_ws (w2 := [(h0, .inr (8, [.ref q1, .ref q2, .ref q3, .null, .int 0, .null, .int 0, .int 0, .int 0, .int 0, .int 0, .int 0, .int 0, .null, .null, .null, .null, .int 0, .null, .null, .null, .null, .null, .int 0])), (q1, .inl (cI, 8, .inl (fun _ => 0))), (q2, .inl (cI, 8, .inl (fun _ => 0))), (q3, .inl (cI, 320, .inl (fun _ => 0))), (q4, .inl (cI, 40, .inl (fun _ => 0)))]) rfl ?_
  refine mk_putF (q0 := 0) (pc := 34) dX8_init_34 fX8_19 (fun C T h => by have e := h.symm.trans (show vwCl[8]? = some (RX8, TX8, 24) from rfl); injection e with e; injection e with e1 e2; injection e2 with e3 e4; subst e3; rfl) rfl ⟨rfl, rfl⟩ (Nat.le_of_ble_eq_true rfl) ?_
  refine mk_ws (w2 := [(h0, .inr (8, [.ref q1, .ref q2, .ref q3, .ref q4, .int 0, .null, .int 0, .int 0, .int 0, .int 0, .int 0, .int 0, .int 0, .null, .null, .null, .null, .int 0, .null, .null, .null, .null, .null, .int 0])), (q1, .inl (cI, 8, .inl (fun _ => 0))), (q2, .inl (cI, 8, .inl (fun _ => 0))), (q3, .inl (cI, 320, .inl (fun _ => 0))), (q4, .inl (cI, 40, .inl (fun _ => 0)))]) rfl ?_
  refine mk_aload_n (pc := 37) dX8_init_37 rfl ?_
  refine mk_bipush (v := nI 100) (pc := 38) dX8_init_38 (by decide) ?_
  refine mk_newI (n := 100) (pc := 40) dX8_init_40 acI (by decide) (by decide) (by decide) (fun q5 => ?_)
  refine mk_ws (w2 := [(h0, .inr (8, [.ref q1, .ref q2, .ref q3, .ref q4, .int 0, .null, .int 0, .int 0, .int 0, .int 0, .int 0, .int 0, .int 0, .null, .null, .null, .null, .int 0, .null, .null, .null, .null, .null, .int 0])), (q1, .inl (cI, 8, .inl (fun _ => 0))), (q2, .inl (cI, 8, .inl (fun _ => 0))), (q3, .inl (cI, 320, .inl (fun _ => 0))), (q4, .inl (cI, 40, .inl (fun _ => 0))), (q5, .inl (cI, 100, .inl (fun _ => 0)))]) rfl ?_
  refine mk_putF (q0 := 0) (pc := 42) dX8_init_42 fX8_22 (fun C T h => by have e := h.symm.trans (show vwCl[8]? = some (RX8, TX8, 24) from rfl); injection e with e; injection e with e1 e2; injection e2 with e3 e4; subst e3; rfl) rfl ⟨rfl, rfl⟩ (Nat.le_of_ble_eq_true rfl) ?_
  refine mk_ws (w2 := [(h0, .inr (8, [.ref q1, .ref q2, .ref q3, .ref q4, .int 0, .ref q5, .int 0, .int 0, .int 0, .int 0, .int 0, .int 0, .int 0, .null, .null, .null, .null, .int 0, .null, .null, .null, .null, .null, .int 0])), (q1, .inl (cI, 8, .inl (fun _ => 0))), (q2, .inl (cI, 8, .inl (fun _ => 0))), (q3, .inl (cI, 320, .inl (fun _ => 0))), (q4, .inl (cI, 40, .inl (fun _ => 0))), (q5, .inl (cI, 100, .inl (fun _ => 0)))]) rfl ?_
  refine mk_aload_n (pc := 45) dX8_init_45 rfl ?_
  refine mk_bipush (v := nI 33) (pc := 46) dX8_init_46 (by decide) ?_
  refine mk_newI (n := 33) (pc := 48) dX8_init_48 acI (by decide) (by decide) (by decide) (fun q6 => ?_)
  refine mk_ws (w2 := [(h0, .inr (8, [.ref q1, .ref q2, .ref q3, .ref q4, .int 0, .ref q5, .int 0, .int 0, .int 0, .int 0, .int 0, .int 0, .int 0, .null, .null, .null, .null, .int 0, .null, .null, .null, .null, .null, .int 0])), (q1, .inl (cI, 8, .inl (fun _ => 0))), (q2, .inl (cI, 8, .inl (fun _ => 0))), (q3, .inl (cI, 320, .inl (fun _ => 0))), (q4, .inl (cI, 40, .inl (fun _ => 0))), (q5, .inl (cI, 100, .inl (fun _ => 0))), (q6, .inl (cI, 33, .inl (fun _ => 0)))]) rfl ?_
  refine mk_putF (q0 := 0) (pc := 50) dX8_init_50 fX8_25 (fun C T h => by have e := h.symm.trans (show vwCl[8]? = some (RX8, TX8, 24) from rfl); injection e with e; injection e with e1 e2; injection e2 with e3 e4; subst e3; rfl) rfl ⟨rfl, rfl⟩ (Nat.le_of_ble_eq_true rfl) ?_
  refine mk_ws (w2 := [(h0, .inr (8, [.ref q1, .ref q2, .ref q3, .ref q4, .int 0, .ref q5, .int 0, .int 0, .int 0, .int 0, .int 0, .int 0, .int 0, .ref q6, .null, .null, .null, .int 0, .null, .null, .null, .null, .null, .int 0])), (q1, .inl (cI, 8, .inl (fun _ => 0))), (q2, .inl (cI, 8, .inl (fun _ => 0))), (q3, .inl (cI, 320, .inl (fun _ => 0))), (q4, .inl (cI, 40, .inl (fun _ => 0))), (q5, .inl (cI, 100, .inl (fun _ => 0))), (q6, .inl (cI, 33, .inl (fun _ => 0)))]) rfl ?_
  refine mk_aload_n (pc := 53) dX8_init_53 rfl ?_
  refine mk_bipush (v := nI 33) (pc := 54) dX8_init_54 (by decide) ?_
  refine mk_newI (n := 33) (pc := 56) dX8_init_56 acI (by decide) (by decide) (by decide) (fun q7 => ?_)
  refine mk_ws (w2 := [(h0, .inr (8, [.ref q1, .ref q2, .ref q3, .ref q4, .int 0, .ref q5, .int 0, .int 0, .int 0, .int 0, .int 0, .int 0, .int 0, .ref q6, .null, .null, .null, .int 0, .null, .null, .null, .null, .null, .int 0])), (q1, .inl (cI, 8, .inl (fun _ => 0))), (q2, .inl (cI, 8, .inl (fun _ => 0))), (q3, .inl (cI, 320, .inl (fun _ => 0))), (q4, .inl (cI, 40, .inl (fun _ => 0))), (q5, .inl (cI, 100, .inl (fun _ => 0))), (q6, .inl (cI, 33, .inl (fun _ => 0))), (q7, .inl (cI, 33, .inl (fun _ => 0)))]) rfl ?_
  refine mk_putF (q0 := 0) (pc := 58) dX8_init_58 fX8_28 (fun C T h => by have e := h.symm.trans (show vwCl[8]? = some (RX8, TX8, 24) from rfl); injection e with e; injection e with e1 e2; injection e2 with e3 e4; subst e3; rfl) rfl ⟨rfl, rfl⟩ (Nat.le_of_ble_eq_true rfl) ?_
  refine mk_ws (w2 := [(h0, .inr (8, [.ref q1, .ref q2, .ref q3, .ref q4, .int 0, .ref q5, .int 0, .int 0, .int 0, .int 0, .int 0, .int 0, .int 0, .ref q6, .ref q7, .null, .null, .int 0, .null, .null, .null, .null, .null, .int 0])), (q1, .inl (cI, 8, .inl (fun _ => 0))), (q2, .inl (cI, 8, .inl (fun _ => 0))), (q3, .inl (cI, 320, .inl (fun _ => 0))), (q4, .inl (cI, 40, .inl (fun _ => 0))), (q5, .inl (cI, 100, .inl (fun _ => 0))), (q6, .inl (cI, 33, .inl (fun _ => 0))), (q7, .inl (cI, 33, .inl (fun _ => 0)))]) rfl ?_
  refine mk_aload_n (pc := 61) dX8_init_61 rfl ?_
  refine mk_bipush (v := nI 33) (pc := 62) dX8_init_62 (by decide) ?_
  refine mk_newI (n := 33) (pc := 64) dX8_init_64 acI (by decide) (by decide) (by decide) (fun q8 => ?_)
  refine mk_ws (w2 := [(h0, .inr (8, [.ref q1, .ref q2, .ref q3, .ref q4, .int 0, .ref q5, .int 0, .int 0, .int 0, .int 0, .int 0, .int 0, .int 0, .ref q6, .ref q7, .null, .null, .int 0, .null, .null, .null, .null, .null, .int 0])), (q1, .inl (cI, 8, .inl (fun _ => 0))), (q2, .inl (cI, 8, .inl (fun _ => 0))), (q3, .inl (cI, 320, .inl (fun _ => 0))), (q4, .inl (cI, 40, .inl (fun _ => 0))), (q5, .inl (cI, 100, .inl (fun _ => 0))), (q6, .inl (cI, 33, .inl (fun _ => 0))), (q7, .inl (cI, 33, .inl (fun _ => 0))), (q8, .inl (cI, 33, .inl (fun _ => 0)))]) rfl ?_
  refine mk_putF (q0 := 0) (pc := 66) dX8_init_66 fX8_31 (fun C T h => by have e := h.symm.trans (show vwCl[8]? = some (RX8, TX8, 24) from rfl); injection e with e; injection e with e1 e2; injection e2 with e3 e4; subst e3; rfl) rfl ⟨rfl, rfl⟩ (Nat.le_of_ble_eq_true rfl) ?_
  refine mk_ws (w2 := [(h0, .inr (8, [.ref q1, .ref q2, .ref q3, .ref q4, .int 0, .ref q5, .int 0, .int 0, .int 0, .int 0, .int 0, .int 0, .int 0, .ref q6, .ref q7, .ref q8, .null, .int 0, .null, .null, .null, .null, .null, .int 0])), (q1, .inl (cI, 8, .inl (fun _ => 0))), (q2, .inl (cI, 8, .inl (fun _ => 0))), (q3, .inl (cI, 320, .inl (fun _ => 0))), (q4, .inl (cI, 40, .inl (fun _ => 0))), (q5, .inl (cI, 100, .inl (fun _ => 0))), (q6, .inl (cI, 33, .inl (fun _ => 0))), (q7, .inl (cI, 33, .inl (fun _ => 0))), (q8, .inl (cI, 33, .inl (fun _ => 0)))]) rfl ?_
  refine mk_aload_n (pc := 69) dX8_init_69 rfl ?_
  refine mk_sipush (v := nI 792) (pc := 70) dX8_init_70 (by decide) ?_
  refine mk_newI (n := 792) (pc := 73) dX8_init_73 acI (by decide) (by decide) (by decide) (fun q9 => ?_)
  refine mk_ws (w2 := [(h0, .inr (8, [.ref q1, .ref q2, .ref q3, .ref q4, .int 0, .ref q5, .int 0, .int 0, .int 0, .int 0, .int 0, .int 0, .int 0, .ref q6, .ref q7, .ref q8, .null, .int 0, .null, .null, .null, .null, .null, .int 0])), (q1, .inl (cI, 8, .inl (fun _ => 0))), (q2, .inl (cI, 8, .inl (fun _ => 0))), (q3, .inl (cI, 320, .inl (fun _ => 0))), (q4, .inl (cI, 40, .inl (fun _ => 0))), (q5, .inl (cI, 100, .inl (fun _ => 0))), (q6, .inl (cI, 33, .inl (fun _ => 0))), (q7, .inl (cI, 33, .inl (fun _ => 0))), (q8, .inl (cI, 33, .inl (fun _ => 0))), (q9, .inl (cI, 792, .inl (fun _ => 0)))]) rfl ?_
  refine mk_putF (q0 := 0) (pc := 75) dX8_init_75 fX8_34 (fun C T h => by have e := h.symm.trans (show vwCl[8]? = some (RX8, TX8, 24) from rfl); injection e with e; injection e with e1 e2; injection e2 with e3 e4; subst e3; rfl) rfl ⟨rfl, rfl⟩ (Nat.le_of_ble_eq_true rfl) ?_
  refine mk_ws (w2 := [(h0, .inr (8, [.ref q1, .ref q2, .ref q3, .ref q4, .int 0, .ref q5, .int 0, .int 0, .int 0, .int 0, .int 0, .int 0, .int 0, .ref q6, .ref q7, .ref q8, .ref q9, .int 0, .null, .null, .null, .null, .null, .int 0])), (q1, .inl (cI, 8, .inl (fun _ => 0))), (q2, .inl (cI, 8, .inl (fun _ => 0))), (q3, .inl (cI, 320, .inl (fun _ => 0))), (q4, .inl (cI, 40, .inl (fun _ => 0))), (q5, .inl (cI, 100, .inl (fun _ => 0))), (q6, .inl (cI, 33, .inl (fun _ => 0))), (q7, .inl (cI, 33, .inl (fun _ => 0))), (q8, .inl (cI, 33, .inl (fun _ => 0))), (q9, .inl (cI, 792, .inl (fun _ => 0)))]) rfl ?_
  refine mk_aload_n (pc := 78) dX8_init_78 rfl ?_
  refine mk_bipush (v := nI 66) (pc := 79) dX8_init_79 (by decide) ?_
  refine mk_newI (n := 66) (pc := 81) dX8_init_81 acI (by decide) (by decide) (by decide) (fun q10 => ?_)
  refine mk_ws (w2 := [(h0, .inr (8, [.ref q1, .ref q2, .ref q3, .ref q4, .int 0, .ref q5, .int 0, .int 0, .int 0, .int 0, .int 0, .int 0, .int 0, .ref q6, .ref q7, .ref q8, .ref q9, .int 0, .null, .null, .null, .null, .null, .int 0])), (q1, .inl (cI, 8, .inl (fun _ => 0))), (q2, .inl (cI, 8, .inl (fun _ => 0))), (q3, .inl (cI, 320, .inl (fun _ => 0))), (q4, .inl (cI, 40, .inl (fun _ => 0))), (q5, .inl (cI, 100, .inl (fun _ => 0))), (q6, .inl (cI, 33, .inl (fun _ => 0))), (q7, .inl (cI, 33, .inl (fun _ => 0))), (q8, .inl (cI, 33, .inl (fun _ => 0))), (q9, .inl (cI, 792, .inl (fun _ => 0))), (q10, .inl (cI, 66, .inl (fun _ => 0)))]) rfl ?_
  refine mk_putF (q0 := 0) (pc := 83) dX8_init_83 fX8_37 (fun C T h => by have e := h.symm.trans (show vwCl[8]? = some (RX8, TX8, 24) from rfl); injection e with e; injection e with e1 e2; injection e2 with e3 e4; subst e3; rfl) rfl ⟨rfl, rfl⟩ (Nat.le_of_ble_eq_true rfl) ?_
  refine mk_ws (w2 := [(h0, .inr (8, [.ref q1, .ref q2, .ref q3, .ref q4, .int 0, .ref q5, .int 0, .int 0, .int 0, .int 0, .int 0, .int 0, .int 0, .ref q6, .ref q7, .ref q8, .ref q9, .int 0, .ref q10, .null, .null, .null, .null, .int 0])), (q1, .inl (cI, 8, .inl (fun _ => 0))), (q2, .inl (cI, 8, .inl (fun _ => 0))), (q3, .inl (cI, 320, .inl (fun _ => 0))), (q4, .inl (cI, 40, .inl (fun _ => 0))), (q5, .inl (cI, 100, .inl (fun _ => 0))), (q6, .inl (cI, 33, .inl (fun _ => 0))), (q7, .inl (cI, 33, .inl (fun _ => 0))), (q8, .inl (cI, 33, .inl (fun _ => 0))), (q9, .inl (cI, 792, .inl (fun _ => 0))), (q10, .inl (cI, 66, .inl (fun _ => 0)))]) rfl ?_
  refine mk_aload_n (pc := 86) dX8_init_86 rfl ?_
  refine mk_iconst (v := nI 2) (pc := 87) dX8_init_87 (by decide) ?_
  refine mk_newZ (n := 2) (pc := 88) dX8_init_88 acZ (by decide) (by decide) (by decide) (fun q11 => ?_)
  refine mk_ws (w2 := [(h0, .inr (8, [.ref q1, .ref q2, .ref q3, .ref q4, .int 0, .ref q5, .int 0, .int 0, .int 0, .int 0, .int 0, .int 0, .int 0, .ref q6, .ref q7, .ref q8, .ref q9, .int 0, .ref q10, .null, .null, .null, .null, .int 0])), (q1, .inl (cI, 8, .inl (fun _ => 0))), (q2, .inl (cI, 8, .inl (fun _ => 0))), (q3, .inl (cI, 320, .inl (fun _ => 0))), (q4, .inl (cI, 40, .inl (fun _ => 0))), (q5, .inl (cI, 100, .inl (fun _ => 0))), (q6, .inl (cI, 33, .inl (fun _ => 0))), (q7, .inl (cI, 33, .inl (fun _ => 0))), (q8, .inl (cI, 33, .inl (fun _ => 0))), (q9, .inl (cI, 792, .inl (fun _ => 0))), (q10, .inl (cI, 66, .inl (fun _ => 0))), (q11, .inl (cZ, 2, .inl (fun _ => 0)))]) rfl ?_
  refine mk_putF (q0 := 0) (pc := 90) dX8_init_90 fX8_40 (fun C T h => by have e := h.symm.trans (show vwCl[8]? = some (RX8, TX8, 24) from rfl); injection e with e; injection e with e1 e2; injection e2 with e3 e4; subst e3; rfl) rfl ⟨rfl, rfl⟩ (Nat.le_of_ble_eq_true rfl) ?_
  refine mk_ws (w2 := [(h0, .inr (8, [.ref q1, .ref q2, .ref q3, .ref q4, .int 0, .ref q5, .int 0, .int 0, .int 0, .int 0, .int 0, .int 0, .int 0, .ref q6, .ref q7, .ref q8, .ref q9, .int 0, .ref q10, .ref q11, .null, .null, .null, .int 0])), (q1, .inl (cI, 8, .inl (fun _ => 0))), (q2, .inl (cI, 8, .inl (fun _ => 0))), (q3, .inl (cI, 320, .inl (fun _ => 0))), (q4, .inl (cI, 40, .inl (fun _ => 0))), (q5, .inl (cI, 100, .inl (fun _ => 0))), (q6, .inl (cI, 33, .inl (fun _ => 0))), (q7, .inl (cI, 33, .inl (fun _ => 0))), (q8, .inl (cI, 33, .inl (fun _ => 0))), (q9, .inl (cI, 792, .inl (fun _ => 0))), (q10, .inl (cI, 66, .inl (fun _ => 0))), (q11, .inl (cZ, 2, .inl (fun _ => 0)))]) rfl ?_
  refine mk_aload_n (pc := 93) dX8_init_93 rfl ?_
  refine mk_iconst (v := nI 5) (pc := 94) dX8_init_94 (by decide) ?_
  refine mk_newI (n := 5) (pc := 95) dX8_init_95 acI (by decide) (by decide) (by decide) (fun q12 => ?_)
  refine mk_ws (w2 := [(h0, .inr (8, [.ref q1, .ref q2, .ref q3, .ref q4, .int 0, .ref q5, .int 0, .int 0, .int 0, .int 0, .int 0, .int 0, .int 0, .ref q6, .ref q7, .ref q8, .ref q9, .int 0, .ref q10, .ref q11, .null, .null, .null, .int 0])), (q1, .inl (cI, 8, .inl (fun _ => 0))), (q2, .inl (cI, 8, .inl (fun _ => 0))), (q3, .inl (cI, 320, .inl (fun _ => 0))), (q4, .inl (cI, 40, .inl (fun _ => 0))), (q5, .inl (cI, 100, .inl (fun _ => 0))), (q6, .inl (cI, 33, .inl (fun _ => 0))), (q7, .inl (cI, 33, .inl (fun _ => 0))), (q8, .inl (cI, 33, .inl (fun _ => 0))), (q9, .inl (cI, 792, .inl (fun _ => 0))), (q10, .inl (cI, 66, .inl (fun _ => 0))), (q11, .inl (cZ, 2, .inl (fun _ => 0))), (q12, .inl (cI, 5, .inl (fun _ => 0)))]) rfl ?_
  refine mk_putF (q0 := 0) (pc := 97) dX8_init_97 fX8_44 (fun C T h => by have e := h.symm.trans (show vwCl[8]? = some (RX8, TX8, 24) from rfl); injection e with e; injection e with e1 e2; injection e2 with e3 e4; subst e3; rfl) rfl ⟨rfl, rfl⟩ (Nat.le_of_ble_eq_true rfl) ?_
  refine mk_ws (w2 := [(h0, .inr (8, [.ref q1, .ref q2, .ref q3, .ref q4, .int 0, .ref q5, .int 0, .int 0, .int 0, .int 0, .int 0, .int 0, .int 0, .ref q6, .ref q7, .ref q8, .ref q9, .int 0, .ref q10, .ref q11, .ref q12, .null, .null, .int 0])), (q1, .inl (cI, 8, .inl (fun _ => 0))), (q2, .inl (cI, 8, .inl (fun _ => 0))), (q3, .inl (cI, 320, .inl (fun _ => 0))), (q4, .inl (cI, 40, .inl (fun _ => 0))), (q5, .inl (cI, 100, .inl (fun _ => 0))), (q6, .inl (cI, 33, .inl (fun _ => 0))), (q7, .inl (cI, 33, .inl (fun _ => 0))), (q8, .inl (cI, 33, .inl (fun _ => 0))), (q9, .inl (cI, 792, .inl (fun _ => 0))), (q10, .inl (cI, 66, .inl (fun _ => 0))), (q11, .inl (cZ, 2, .inl (fun _ => 0))), (q12, .inl (cI, 5, .inl (fun _ => 0)))]) rfl ?_
  refine mk_aload_n (pc := 100) dX8_init_100 rfl ?_
  refine mk_iconst (v := nI 5) (pc := 101) dX8_init_101 (by decide) ?_
  refine mk_newI (n := 5) (pc := 102) dX8_init_102 acI (by decide) (by decide) (by decide) (fun q13 => ?_)
  refine mk_ws (w2 := [(h0, .inr (8, [.ref q1, .ref q2, .ref q3, .ref q4, .int 0, .ref q5, .int 0, .int 0, .int 0, .int 0, .int 0, .int 0, .int 0, .ref q6, .ref q7, .ref q8, .ref q9, .int 0, .ref q10, .ref q11, .ref q12, .null, .null, .int 0])), (q1, .inl (cI, 8, .inl (fun _ => 0))), (q2, .inl (cI, 8, .inl (fun _ => 0))), (q3, .inl (cI, 320, .inl (fun _ => 0))), (q4, .inl (cI, 40, .inl (fun _ => 0))), (q5, .inl (cI, 100, .inl (fun _ => 0))), (q6, .inl (cI, 33, .inl (fun _ => 0))), (q7, .inl (cI, 33, .inl (fun _ => 0))), (q8, .inl (cI, 33, .inl (fun _ => 0))), (q9, .inl (cI, 792, .inl (fun _ => 0))), (q10, .inl (cI, 66, .inl (fun _ => 0))), (q11, .inl (cZ, 2, .inl (fun _ => 0))), (q12, .inl (cI, 5, .inl (fun _ => 0))), (q13, .inl (cI, 5, .inl (fun _ => 0)))]) rfl ?_
  refine mk_putF (q0 := 0) (pc := 104) dX8_init_104 fX8_47 (fun C T h => by have e := h.symm.trans (show vwCl[8]? = some (RX8, TX8, 24) from rfl); injection e with e; injection e with e1 e2; injection e2 with e3 e4; subst e3; rfl) rfl ⟨rfl, rfl⟩ (Nat.le_of_ble_eq_true rfl) ?_
  refine mk_ws (w2 := [(h0, .inr (8, [.ref q1, .ref q2, .ref q3, .ref q4, .int 0, .ref q5, .int 0, .int 0, .int 0, .int 0, .int 0, .int 0, .int 0, .ref q6, .ref q7, .ref q8, .ref q9, .int 0, .ref q10, .ref q11, .ref q12, .ref q13, .null, .int 0])), (q1, .inl (cI, 8, .inl (fun _ => 0))), (q2, .inl (cI, 8, .inl (fun _ => 0))), (q3, .inl (cI, 320, .inl (fun _ => 0))), (q4, .inl (cI, 40, .inl (fun _ => 0))), (q5, .inl (cI, 100, .inl (fun _ => 0))), (q6, .inl (cI, 33, .inl (fun _ => 0))), (q7, .inl (cI, 33, .inl (fun _ => 0))), (q8, .inl (cI, 33, .inl (fun _ => 0))), (q9, .inl (cI, 792, .inl (fun _ => 0))), (q10, .inl (cI, 66, .inl (fun _ => 0))), (q11, .inl (cZ, 2, .inl (fun _ => 0))), (q12, .inl (cI, 5, .inl (fun _ => 0))), (q13, .inl (cI, 5, .inl (fun _ => 0)))]) rfl ?_
  refine mk_aload_n (pc := 107) dX8_init_107 rfl ?_
  refine mk_bipush (v := nI 16) (pc := 108) dX8_init_108 (by decide) ?_
  refine mk_newI (n := 16) (pc := 110) dX8_init_110 acI (by decide) (by decide) (by decide) (fun q14 => ?_)
  refine mk_ws (w2 := [(h0, .inr (8, [.ref q1, .ref q2, .ref q3, .ref q4, .int 0, .ref q5, .int 0, .int 0, .int 0, .int 0, .int 0, .int 0, .int 0, .ref q6, .ref q7, .ref q8, .ref q9, .int 0, .ref q10, .ref q11, .ref q12, .ref q13, .null, .int 0])), (q1, .inl (cI, 8, .inl (fun _ => 0))), (q2, .inl (cI, 8, .inl (fun _ => 0))), (q3, .inl (cI, 320, .inl (fun _ => 0))), (q4, .inl (cI, 40, .inl (fun _ => 0))), (q5, .inl (cI, 100, .inl (fun _ => 0))), (q6, .inl (cI, 33, .inl (fun _ => 0))), (q7, .inl (cI, 33, .inl (fun _ => 0))), (q8, .inl (cI, 33, .inl (fun _ => 0))), (q9, .inl (cI, 792, .inl (fun _ => 0))), (q10, .inl (cI, 66, .inl (fun _ => 0))), (q11, .inl (cZ, 2, .inl (fun _ => 0))), (q12, .inl (cI, 5, .inl (fun _ => 0))), (q13, .inl (cI, 5, .inl (fun _ => 0))), (q14, .inl (cI, 16, .inl (fun _ => 0)))]) rfl ?_
  refine mk_putF (q0 := 0) (pc := 112) dX8_init_112 fX8_50 (fun C T h => by have e := h.symm.trans (show vwCl[8]? = some (RX8, TX8, 24) from rfl); injection e with e; injection e with e1 e2; injection e2 with e3 e4; subst e3; rfl) rfl ⟨rfl, rfl⟩ (Nat.le_of_ble_eq_true rfl) ?_
  refine mk_ws (w2 := [(h0, .inr (8, [.ref q1, .ref q2, .ref q3, .ref q4, .int 0, .ref q5, .int 0, .int 0, .int 0, .int 0, .int 0, .int 0, .int 0, .ref q6, .ref q7, .ref q8, .ref q9, .int 0, .ref q10, .ref q11, .ref q12, .ref q13, .ref q14, .int 0])), (q1, .inl (cI, 8, .inl (fun _ => 0))), (q2, .inl (cI, 8, .inl (fun _ => 0))), (q3, .inl (cI, 320, .inl (fun _ => 0))), (q4, .inl (cI, 40, .inl (fun _ => 0))), (q5, .inl (cI, 100, .inl (fun _ => 0))), (q6, .inl (cI, 33, .inl (fun _ => 0))), (q7, .inl (cI, 33, .inl (fun _ => 0))), (q8, .inl (cI, 33, .inl (fun _ => 0))), (q9, .inl (cI, 792, .inl (fun _ => 0))), (q10, .inl (cI, 66, .inl (fun _ => 0))), (q11, .inl (cZ, 2, .inl (fun _ => 0))), (q12, .inl (cI, 5, .inl (fun _ => 0))), (q13, .inl (cI, 5, .inl (fun _ => 0))), (q14, .inl (cI, 16, .inl (fun _ => 0)))]) rfl ?_
  refine mk_iconst (v := nI 0) (pc := 115) dX8_init_115 (by decide) ?_
  refine mk_istore_n (pc := 116) dX8_init_116 (by decide) rfl ?_
  have loop : ∀ i, i ≤ 8 → py_Mk RX8 cX8_init 2 1 14 1461 D cI cZ 117 [some (.ref h0), some (.int (nI i))] [] [(h0, .inr (8, [.ref q1, .ref q2, .ref q3, .ref q4, .int 0, .ref q5, .int 0, .int 0, .int 0, .int 0, .int 0, .int 0, .int 0, .ref q6, .ref q7, .ref q8, .ref q9, .int 0, .ref q10, .ref q11, .ref q12, .ref q13, .ref q14, .int 0])), (q1, .inl (cI, 8, .inl (py_fl (-1000000) i))), (q2, .inl (cI, 8, .inl (fun _ => 0))), (q3, .inl (cI, 320, .inl (fun _ => 0))), (q4, .inl (cI, 40, .inl (fun _ => 0))), (q5, .inl (cI, 100, .inl (fun _ => 0))), (q6, .inl (cI, 33, .inl (fun _ => 0))), (q7, .inl (cI, 33, .inl (fun _ => 0))), (q8, .inl (cI, 33, .inl (fun _ => 0))), (q9, .inl (cI, 792, .inl (fun _ => 0))), (q10, .inl (cI, 66, .inl (fun _ => 0))), (q11, .inl (cZ, 2, .inl (fun _ => 0))), (q12, .inl (cI, 5, .inl (fun _ => 0))), (q13, .inl (cI, 5, .inl (fun _ => 0))), (q14, .inl (cI, 16, .inl (fun _ => 0)))] 14 1461 (fun w => ∃ f, w = pw_X8 cI cZ h0 f) := by
    refine py_loop _ 8 (fun i hi ih => ?_)
    refine mk_iload_n (pc := 117) dX8_init_117 rfl ?_
    refine mk_bipush (v := nI 8) (pc := 118) dX8_init_118 (by decide) ?_
    refine mk_icmp_ge (tgt := 137) (pc := 120) dX8_init_120 (by decide) (fun cc => ?_) (fun cc => ?_)
    · have hi8 : i = 8 := by have z := (Int32.le_iff_toInt_le.mp cc); rw [nI_toInt (by decide), nI_toInt (by omega)] at z; omega
      subst hi8
      exact mk_ret (pc := 137) dX8_init_137 ⟨fun k => ([h0, q1, q2, q3, q4, q5, q6, q7, q8, q9, q10, q11, q12, q13, q14] : List Nat).getD k 0, rfl⟩ rfl rfl
    · have hi8 : i < 8 := Nat.lt_of_not_le (fun z => cc (Int32.le_iff_toInt_le.mpr (by rw [nI_toInt (by decide), nI_toInt (by omega)]; omega)))
      refine mk_aload_n (pc := 123) dX8_init_123 rfl ?_
      refine mk_getR (q0 := 0) (pc := 124) dX8_init_124 fX8_7 rfl rfl ?_
      refine mk_iload_n (pc := 127) dX8_init_127 rfl ?_
      refine mk_ldc (pc := 128) dX8_init_128 kX8_53 ?_
      refine mk_iast (q0 := 1) (n := 8) (pc := 130) dX8_init_130 rfl hi8 (by decide) ?_
      rw [py_fl_s]
      refine mk_iinc (v := nI (i + 1)) (pc := 131) dX8_init_131 rfl (nI_1 i) (by decide) rfl ?_
      refine mk_goto (tgt := 117) (pc := 134) dX8_init_134 (by decide) ?_
      exact ih hi8
  have e8 := loop 0 (by decide)
  rw [py_fl_0] at e8
  exact e8
def pw_X7 (cI : ClassId) (h0 : Nat) (q : Nat → Nat) (f : Nat → Nat → Nat) : va_W := (h0, .inr (7, [.ref (q 1), .ref (q 2), .ref (q 3), .ref (q 4), .ref (q 5), .ref (q 6), .ref (q 7), .ref (q 8), .ref (q 9), .int 0, .int 0])) :: (pw_X4 cI (q 1) (f 1) ++ pw_X6 cI (q 2) (f 2) ++ pw_X2 cI (q 3) (f 3) ++ pw_X2 cI (q 4) (f 4) ++ pw_X2 cI (q 5) (f 5) ++ pw_X2 cI (q 6) (f 6) ++ pw_X0 cI (q 7) (f 7) ++ pw_X5 cI (q 8) (f 8) ++ pw_X1 cI (q 9) (f 9))
set_option maxHeartbeats 4000000 in
set_option maxRecDepth 100000 in
theorem cn_X7 (D : va_G) (cI cZ : ClassId) : py_Cn 3 yX7_init cX7_init 1 46 983 D cI cZ (.inr (7, [.null, .null, .null, .null, .null, .null, .null, .null, .null, .int 0, .int 0])) (fun h0 w => ∃ q f, w = pw_X7 cI h0 q f) := by
  refine py_Cn.of (own := RX7) YX7_init.2.2.2.2 rfl rfl (by decide) (fun h0 => ?_)
  show py_Mk RX7 cX7_init 1 3 46 983 D cI cZ 0 [some (.ref h0)] [] [(h0, .inr (7, [.null, .null, .null, .null, .null, .null, .null, .null, .null, .int 0, .int 0]))] 0 0 (fun w => ∃ q f, w = pw_X7 cI h0 q f)
  refine mk_aload_n (pc := 0) dX7_init_0 rfl ?_
  refine mk_obj (pc := 1) dX7_init_1 koX7 imO coO (by decide) ?_
  refine mk_aload_n (pc := 4) dX7_init_4 rfl ?_
  refine mk_new (pc := 5) (fs := [.null, .null, .null]) dX7_init_5 clX4 klX7_7 kiX4 YX4_init.2.1 (fun j hj => by rcases (show j = 0 ∨ j = 1 ∨ j = 2 by omega) with rfl | rfl | rfl <;> rfl) (by decide) (by decide) (fun q1 => ?_)
  refine mk_dup (pc := 8) dX7_init_8 rfl ?_
  refine mk_iI (ws := [(h0, .inr (7, [.null, .null, .null, .null, .null, .null, .null, .null, .null, .int 0, .int 0]))]) (pc := 9) dX7_init_9 (cn_X4 D cI cZ) lX7_9 YX4_init imX4 rfl (by decide) (Nat.le_of_ble_eq_true rfl) (py_nd_rg _) (by decide) (by decide) (fun w2 hw => ?_)
  obtain ⟨f1, rfl⟩ := hw
  refine mk_ws (w2 := ((h0, .inr (7, [.null, .null, .null, .null, .null, .null, .null, .null, .null, .int 0, .int 0])) :: (pw_X4 cI q1 f1))) rfl ?_
  refine mk_putF (q0 := 0) (pc := 12) dX7_init_12 fX7_10 (fun C T h => by have e := h.symm.trans (show vwCl[7]? = some (RX7, TX7, 11) from rfl); injection e with e; injection e with e1 e2; injection e2 with e3 e4; subst e3; rfl) rfl ⟨rfl, rfl⟩ (Nat.le_of_ble_eq_true rfl) ?_
  refine mk_ws (w2 := ((h0, .inr (7, [.ref q1, .null, .null, .null, .null, .null, .null, .null, .null, .int 0, .int 0])) :: (pw_X4 cI q1 f1))) rfl ?_
  refine mk_aload_n (pc := 15) dX7_init_15 rfl ?_
  refine mk_new (pc := 16) (fs := [.null, .int 0, .int 0, .int 0, .int 0]) dX7_init_16 clX6 klX7_16 kiX6 YX6_init.2.1 (fun j hj => by rcases (show j = 0 ∨ j = 1 ∨ j = 2 ∨ j = 3 ∨ j = 4 by omega) with rfl | rfl | rfl | rfl | rfl <;> rfl) (by decide) (by decide) (fun q2 => ?_)
  refine mk_dup (pc := 19) dX7_init_19 rfl ?_
  refine mk_iN (ws := ((h0, .inr (7, [.ref q1, .null, .null, .null, .null, .null, .null, .null, .null, .int 0, .int 0])) :: (pw_X4 cI q1 f1))) (pc := 20) dX7_init_20 (cn_X6 D cI cZ) nX7_18 YX6_init imX6 rfl (by decide) (Nat.le_of_ble_eq_true rfl) (py_nd_rg _) (by decide) (by decide) (fun w2 hw => ?_)
  obtain ⟨f2, rfl⟩ := hw
  refine mk_ws (w2 := ((h0, .inr (7, [.ref q1, .null, .null, .null, .null, .null, .null, .null, .null, .int 0, .int 0])) :: (pw_X4 cI q1 f1 ++ pw_X6 cI q2 f2))) rfl ?_
  refine mk_putF (q0 := 0) (pc := 23) dX7_init_23 fX7_19 (fun C T h => by have e := h.symm.trans (show vwCl[7]? = some (RX7, TX7, 11) from rfl); injection e with e; injection e with e1 e2; injection e2 with e3 e4; subst e3; rfl) rfl ⟨rfl, rfl⟩ (Nat.le_of_ble_eq_true rfl) ?_
  refine mk_ws (w2 := ((h0, .inr (7, [.ref q1, .ref q2, .null, .null, .null, .null, .null, .null, .null, .int 0, .int 0])) :: (pw_X4 cI q1 f1 ++ pw_X6 cI q2 f2))) rfl ?_
  refine mk_aload_n (pc := 26) dX7_init_26 rfl ?_
  refine mk_new (pc := 27) (fs := [.int 0, .int 0, .int 0, .int 0, .int 0, .int 0, .null, .null, .null, .null, .null, .null]) dX7_init_27 clX2 klX7_23 kiX2 YX2_init.2.1 (fun j hj => by rcases (show j = 0 ∨ j = 1 ∨ j = 2 ∨ j = 3 ∨ j = 4 ∨ j = 5 ∨ j = 6 ∨ j = 7 ∨ j = 8 ∨ j = 9 ∨ j = 10 ∨ j = 11 by omega) with rfl | rfl | rfl | rfl | rfl | rfl | rfl | rfl | rfl | rfl | rfl | rfl <;> rfl) (by decide) (by decide) (fun q3 => ?_)
  refine mk_dup (pc := 30) dX7_init_30 rfl ?_
  refine mk_iN (ws := ((h0, .inr (7, [.ref q1, .ref q2, .null, .null, .null, .null, .null, .null, .null, .int 0, .int 0])) :: (pw_X4 cI q1 f1 ++ pw_X6 cI q2 f2))) (pc := 31) dX7_init_31 (cn_X2 D cI cZ) nX7_25 YX2_init imX2 rfl (by decide) (Nat.le_of_ble_eq_true rfl) (py_nd_rg _) (by decide) (by decide) (fun w2 hw => ?_)
  obtain ⟨f3, rfl⟩ := hw
  refine mk_ws (w2 := ((h0, .inr (7, [.ref q1, .ref q2, .null, .null, .null, .null, .null, .null, .null, .int 0, .int 0])) :: (pw_X4 cI q1 f1 ++ pw_X6 cI q2 f2 ++ pw_X2 cI q3 f3))) rfl ?_
  refine mk_putF (q0 := 0) (pc := 34) dX7_init_34 fX7_26 (fun C T h => by have e := h.symm.trans (show vwCl[7]? = some (RX7, TX7, 11) from rfl); injection e with e; injection e with e1 e2; injection e2 with e3 e4; subst e3; rfl) rfl ⟨rfl, rfl⟩ (Nat.le_of_ble_eq_true rfl) ?_
  refine mk_ws (w2 := ((h0, .inr (7, [.ref q1, .ref q2, .ref q3, .null, .null, .null, .null, .null, .null, .int 0, .int 0])) :: (pw_X4 cI q1 f1 ++ pw_X6 cI q2 f2 ++ pw_X2 cI q3 f3))) rfl ?_
  refine mk_aload_n (pc := 37) dX7_init_37 rfl ?_
  refine mk_new (pc := 38) (fs := [.int 0, .int 0, .int 0, .int 0, .int 0, .int 0, .null, .null, .null, .null, .null, .null]) dX7_init_38 clX2 klX7_23 kiX2 YX2_init.2.1 (fun j hj => by rcases (show j = 0 ∨ j = 1 ∨ j = 2 ∨ j = 3 ∨ j = 4 ∨ j = 5 ∨ j = 6 ∨ j = 7 ∨ j = 8 ∨ j = 9 ∨ j = 10 ∨ j = 11 by omega) with rfl | rfl | rfl | rfl | rfl | rfl | rfl | rfl | rfl | rfl | rfl | rfl <;> rfl) (by decide) (by decide) (fun q4 => ?_)
  refine mk_dup (pc := 41) dX7_init_41 rfl ?_
  refine mk_iN (ws := ((h0, .inr (7, [.ref q1, .ref q2, .ref q3, .null, .null, .null, .null, .null, .null, .int 0, .int 0])) :: (pw_X4 cI q1 f1 ++ pw_X6 cI q2 f2 ++ pw_X2 cI q3 f3))) (pc := 42) dX7_init_42 (cn_X2 D cI cZ) nX7_25 YX2_init imX2 rfl (by decide) (Nat.le_of_ble_eq_true rfl) (py_nd_rg _) (by decide) (by decide) (fun w2 hw => ?_)
  obtain ⟨f4, rfl⟩ := hw
  refine mk_ws (w2 := ((h0, .inr (7, [.ref q1, .ref q2, .ref q3, .null, .null, .null, .null, .null, .null, .int 0, .int 0])) :: (pw_X4 cI q1 f1 ++ pw_X6 cI q2 f2 ++ pw_X2 cI q3 f3 ++ pw_X2 cI q4 f4))) rfl ?_
  refine mk_putF (q0 := 0) (pc := 45) dX7_init_45 fX7_30 (fun C T h => by have e := h.symm.trans (show vwCl[7]? = some (RX7, TX7, 11) from rfl); injection e with e; injection e with e1 e2; injection e2 with e3 e4; subst e3; rfl) rfl ⟨rfl, rfl⟩ (Nat.le_of_ble_eq_true rfl) ?_
  refine mk_ws (w2 := ((h0, .inr (7, [.ref q1, .ref q2, .ref q3, .ref q4, .null, .null, .null, .null, .null, .int 0, .int 0])) :: (pw_X4 cI q1 f1 ++ pw_X6 cI q2 f2 ++ pw_X2 cI q3 f3 ++ pw_X2 cI q4 f4))) rfl ?_
  refine mk_aload_n (pc := 48) dX7_init_48 rfl ?_
  refine mk_new (pc := 49) (fs := [.int 0, .int 0, .int 0, .int 0, .int 0, .int 0, .null, .null, .null, .null, .null, .null]) dX7_init_49 clX2 klX7_23 kiX2 YX2_init.2.1 (fun j hj => by rcases (show j = 0 ∨ j = 1 ∨ j = 2 ∨ j = 3 ∨ j = 4 ∨ j = 5 ∨ j = 6 ∨ j = 7 ∨ j = 8 ∨ j = 9 ∨ j = 10 ∨ j = 11 by omega) with rfl | rfl | rfl | rfl | rfl | rfl | rfl | rfl | rfl | rfl | rfl | rfl <;> rfl) (by decide) (by decide) (fun q5 => ?_)
  refine mk_dup (pc := 52) dX7_init_52 rfl ?_
  refine mk_iN (ws := ((h0, .inr (7, [.ref q1, .ref q2, .ref q3, .ref q4, .null, .null, .null, .null, .null, .int 0, .int 0])) :: (pw_X4 cI q1 f1 ++ pw_X6 cI q2 f2 ++ pw_X2 cI q3 f3 ++ pw_X2 cI q4 f4))) (pc := 53) dX7_init_53 (cn_X2 D cI cZ) nX7_25 YX2_init imX2 rfl (by decide) (Nat.le_of_ble_eq_true rfl) (py_nd_rg _) (by decide) (by decide) (fun w2 hw => ?_)
  obtain ⟨f5, rfl⟩ := hw
  refine mk_ws (w2 := ((h0, .inr (7, [.ref q1, .ref q2, .ref q3, .ref q4, .null, .null, .null, .null, .null, .int 0, .int 0])) :: (pw_X4 cI q1 f1 ++ pw_X6 cI q2 f2 ++ pw_X2 cI q3 f3 ++ pw_X2 cI q4 f4 ++ pw_X2 cI q5 f5))) rfl ?_
  refine mk_putF (q0 := 0) (pc := 56) dX7_init_56 fX7_33 (fun C T h => by have e := h.symm.trans (show vwCl[7]? = some (RX7, TX7, 11) from rfl); injection e with e; injection e with e1 e2; injection e2 with e3 e4; subst e3; rfl) rfl ⟨rfl, rfl⟩ (Nat.le_of_ble_eq_true rfl) ?_
  refine mk_ws (w2 := ((h0, .inr (7, [.ref q1, .ref q2, .ref q3, .ref q4, .ref q5, .null, .null, .null, .null, .int 0, .int 0])) :: (pw_X4 cI q1 f1 ++ pw_X6 cI q2 f2 ++ pw_X2 cI q3 f3 ++ pw_X2 cI q4 f4 ++ pw_X2 cI q5 f5))) rfl ?_
  refine mk_aload_n (pc := 59) dX7_init_59 rfl ?_
  refine mk_new (pc := 60) (fs := [.int 0, .int 0, .int 0, .int 0, .int 0, .int 0, .null, .null, .null, .null, .null, .null]) dX7_init_60 clX2 klX7_23 kiX2 YX2_init.2.1 (fun j hj => by rcases (show j = 0 ∨ j = 1 ∨ j = 2 ∨ j = 3 ∨ j = 4 ∨ j = 5 ∨ j = 6 ∨ j = 7 ∨ j = 8 ∨ j = 9 ∨ j = 10 ∨ j = 11 by omega) with rfl | rfl | rfl | rfl | rfl | rfl | rfl | rfl | rfl | rfl | rfl | rfl <;> rfl) (by decide) (by decide) (fun q6 => ?_)
  refine mk_dup (pc := 63) dX7_init_63 rfl ?_
  refine mk_iN (ws := ((h0, .inr (7, [.ref q1, .ref q2, .ref q3, .ref q4, .ref q5, .null, .null, .null, .null, .int 0, .int 0])) :: (pw_X4 cI q1 f1 ++ pw_X6 cI q2 f2 ++ pw_X2 cI q3 f3 ++ pw_X2 cI q4 f4 ++ pw_X2 cI q5 f5))) (pc := 64) dX7_init_64 (cn_X2 D cI cZ) nX7_25 YX2_init imX2 rfl (by decide) (Nat.le_of_ble_eq_true rfl) (py_nd_rg _) (by decide) (by decide) (fun w2 hw => ?_)
  obtain ⟨f6, rfl⟩ := hw
  refine mk_ws (w2 := ((h0, .inr (7, [.ref q1, .ref q2, .ref q3, .ref q4, .ref q5, .null, .null, .null, .null, .int 0, .int 0])) :: (pw_X4 cI q1 f1 ++ pw_X6 cI q2 f2 ++ pw_X2 cI q3 f3 ++ pw_X2 cI q4 f4 ++ pw_X2 cI q5 f5 ++ pw_X2 cI q6 f6))) rfl ?_
  refine mk_putF (q0 := 0) (pc := 67) dX7_init_67 fX7_36 (fun C T h => by have e := h.symm.trans (show vwCl[7]? = some (RX7, TX7, 11) from rfl); injection e with e; injection e with e1 e2; injection e2 with e3 e4; subst e3; rfl) rfl ⟨rfl, rfl⟩ (Nat.le_of_ble_eq_true rfl) ?_
  refine mk_ws (w2 := ((h0, .inr (7, [.ref q1, .ref q2, .ref q3, .ref q4, .ref q5, .ref q6, .null, .null, .null, .int 0, .int 0])) :: (pw_X4 cI q1 f1 ++ pw_X6 cI q2 f2 ++ pw_X2 cI q3 f3 ++ pw_X2 cI q4 f4 ++ pw_X2 cI q5 f5 ++ pw_X2 cI q6 f6))) rfl ?_
  refine mk_aload_n (pc := 70) dX7_init_70 rfl ?_
  refine mk_new (pc := 71) (fs := [.null, .int 0, .int 0]) dX7_init_71 clX0 klX7_39 kiX0 YX0_init.2.1 (fun j hj => by rcases (show j = 0 ∨ j = 1 ∨ j = 2 by omega) with rfl | rfl | rfl <;> rfl) (by decide) (by decide) (fun q7 => ?_)
  refine mk_dup (pc := 74) dX7_init_74 rfl ?_
  refine mk_iN (ws := ((h0, .inr (7, [.ref q1, .ref q2, .ref q3, .ref q4, .ref q5, .ref q6, .null, .null, .null, .int 0, .int 0])) :: (pw_X4 cI q1 f1 ++ pw_X6 cI q2 f2 ++ pw_X2 cI q3 f3 ++ pw_X2 cI q4 f4 ++ pw_X2 cI q5 f5 ++ pw_X2 cI q6 f6))) (pc := 75) dX7_init_75 (cn_X0 D cI cZ) nX7_41 YX0_init imX0 rfl (by decide) (Nat.le_of_ble_eq_true rfl) (py_nd_rg _) (by decide) (by decide) (fun w2 hw => ?_)
  obtain ⟨f7, rfl⟩ := hw
  refine mk_ws (w2 := ((h0, .inr (7, [.ref q1, .ref q2, .ref q3, .ref q4, .ref q5, .ref q6, .null, .null, .null, .int 0, .int 0])) :: (pw_X4 cI q1 f1 ++ pw_X6 cI q2 f2 ++ pw_X2 cI q3 f3 ++ pw_X2 cI q4 f4 ++ pw_X2 cI q5 f5 ++ pw_X2 cI q6 f6 ++ pw_X0 cI q7 f7))) rfl ?_
  refine mk_putF (q0 := 0) (pc := 78) dX7_init_78 fX7_42 (fun C T h => by have e := h.symm.trans (show vwCl[7]? = some (RX7, TX7, 11) from rfl); injection e with e; injection e with e1 e2; injection e2 with e3 e4; subst e3; rfl) rfl ⟨rfl, rfl⟩ (Nat.le_of_ble_eq_true rfl) ?_
  refine mk_ws (w2 := ((h0, .inr (7, [.ref q1, .ref q2, .ref q3, .ref q4, .ref q5, .ref q6, .ref q7, .null, .null, .int 0, .int 0])) :: (pw_X4 cI q1 f1 ++ pw_X6 cI q2 f2 ++ pw_X2 cI q3 f3 ++ pw_X2 cI q4 f4 ++ pw_X2 cI q5 f5 ++ pw_X2 cI q6 f6 ++ pw_X0 cI q7 f7))) rfl ?_
  refine mk_aload_n (pc := 81) dX7_init_81 rfl ?_
  refine mk_new (pc := 82) (fs := [.null, .null, .null, .null, .null, .null, .null, .int 0, .int 0]) dX7_init_82 clX5 klX7_46 kiX5 YX5_init.2.1 (fun j hj => by rcases (show j = 0 ∨ j = 1 ∨ j = 2 ∨ j = 3 ∨ j = 4 ∨ j = 5 ∨ j = 6 ∨ j = 7 ∨ j = 8 by omega) with rfl | rfl | rfl | rfl | rfl | rfl | rfl | rfl | rfl <;> rfl) (by decide) (by decide) (fun q8 => ?_)
  refine mk_dup (pc := 85) dX7_init_85 rfl ?_
  refine mk_iN (ws := ((h0, .inr (7, [.ref q1, .ref q2, .ref q3, .ref q4, .ref q5, .ref q6, .ref q7, .null, .null, .int 0, .int 0])) :: (pw_X4 cI q1 f1 ++ pw_X6 cI q2 f2 ++ pw_X2 cI q3 f3 ++ pw_X2 cI q4 f4 ++ pw_X2 cI q5 f5 ++ pw_X2 cI q6 f6 ++ pw_X0 cI q7 f7))) (pc := 86) dX7_init_86 (cn_X5 D cI cZ) nX7_48 YX5_init imX5 rfl (by decide) (Nat.le_of_ble_eq_true rfl) (py_nd_rg _) (by decide) (by decide) (fun w2 hw => ?_)
  obtain ⟨f8, rfl⟩ := hw
  refine mk_ws (w2 := ((h0, .inr (7, [.ref q1, .ref q2, .ref q3, .ref q4, .ref q5, .ref q6, .ref q7, .null, .null, .int 0, .int 0])) :: (pw_X4 cI q1 f1 ++ pw_X6 cI q2 f2 ++ pw_X2 cI q3 f3 ++ pw_X2 cI q4 f4 ++ pw_X2 cI q5 f5 ++ pw_X2 cI q6 f6 ++ pw_X0 cI q7 f7 ++ pw_X5 cI q8 f8))) rfl ?_
  refine mk_putF (q0 := 0) (pc := 89) dX7_init_89 fX7_49 (fun C T h => by have e := h.symm.trans (show vwCl[7]? = some (RX7, TX7, 11) from rfl); injection e with e; injection e with e1 e2; injection e2 with e3 e4; subst e3; rfl) rfl ⟨rfl, rfl⟩ (Nat.le_of_ble_eq_true rfl) ?_
  refine mk_ws (w2 := ((h0, .inr (7, [.ref q1, .ref q2, .ref q3, .ref q4, .ref q5, .ref q6, .ref q7, .ref q8, .null, .int 0, .int 0])) :: (pw_X4 cI q1 f1 ++ pw_X6 cI q2 f2 ++ pw_X2 cI q3 f3 ++ pw_X2 cI q4 f4 ++ pw_X2 cI q5 f5 ++ pw_X2 cI q6 f6 ++ pw_X0 cI q7 f7 ++ pw_X5 cI q8 f8))) rfl ?_
  refine mk_aload_n (pc := 92) dX7_init_92 rfl ?_
  refine mk_new (pc := 93) (fs := [.null, .int 0]) dX7_init_93 clX1 klX7_53 kiX1 YX1_init.2.1 (fun j hj => by rcases (show j = 0 ∨ j = 1 by omega) with rfl | rfl <;> rfl) (by decide) (by decide) (fun q9 => ?_)
  refine mk_dup (pc := 96) dX7_init_96 rfl ?_
  refine mk_iN (ws := ((h0, .inr (7, [.ref q1, .ref q2, .ref q3, .ref q4, .ref q5, .ref q6, .ref q7, .ref q8, .null, .int 0, .int 0])) :: (pw_X4 cI q1 f1 ++ pw_X6 cI q2 f2 ++ pw_X2 cI q3 f3 ++ pw_X2 cI q4 f4 ++ pw_X2 cI q5 f5 ++ pw_X2 cI q6 f6 ++ pw_X0 cI q7 f7 ++ pw_X5 cI q8 f8))) (pc := 97) dX7_init_97 (cn_X1 D cI cZ) nX7_55 YX1_init imX1 rfl (by decide) (Nat.le_of_ble_eq_true rfl) (py_nd_rg _) (by decide) (by decide) (fun w2 hw => ?_)
  obtain ⟨f9, rfl⟩ := hw
  refine mk_ws (w2 := ((h0, .inr (7, [.ref q1, .ref q2, .ref q3, .ref q4, .ref q5, .ref q6, .ref q7, .ref q8, .null, .int 0, .int 0])) :: (pw_X4 cI q1 f1 ++ pw_X6 cI q2 f2 ++ pw_X2 cI q3 f3 ++ pw_X2 cI q4 f4 ++ pw_X2 cI q5 f5 ++ pw_X2 cI q6 f6 ++ pw_X0 cI q7 f7 ++ pw_X5 cI q8 f8 ++ pw_X1 cI q9 f9))) rfl ?_
  refine mk_putF (q0 := 0) (pc := 100) dX7_init_100 fX7_56 (fun C T h => by have e := h.symm.trans (show vwCl[7]? = some (RX7, TX7, 11) from rfl); injection e with e; injection e with e1 e2; injection e2 with e3 e4; subst e3; rfl) rfl ⟨rfl, rfl⟩ (Nat.le_of_ble_eq_true rfl) ?_
  refine mk_ws (w2 := ((h0, .inr (7, [.ref q1, .ref q2, .ref q3, .ref q4, .ref q5, .ref q6, .ref q7, .ref q8, .ref q9, .int 0, .int 0])) :: (pw_X4 cI q1 f1 ++ pw_X6 cI q2 f2 ++ pw_X2 cI q3 f3 ++ pw_X2 cI q4 f4 ++ pw_X2 cI q5 f5 ++ pw_X2 cI q6 f6 ++ pw_X0 cI q7 f7 ++ pw_X5 cI q8 f8 ++ pw_X1 cI q9 f9))) rfl ?_
  exact mk_ret (pc := 103) dX7_init_103 ⟨fun k => ([h0, q1, q2, q3, q4, q5, q6, q7, q8, q9] : List Nat).getD k 0, fun k => ([(fun _ => 0), f1, f2, f3, f4, f5, f6, f7, f8, f9] : List (Nat → Nat)).getD k (fun _ => 0), rfl⟩ rfl rfl
