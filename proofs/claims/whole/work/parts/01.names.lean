-- ===== PART A: goes FIRST, ahead of the names: the tables' words, and 'selects' of the private methods out of them =====
/-- a private method of a class that the tables say can be made, by its rows of tables_1 -/
def lw_okq (q : MethodName × Nat) : Prop := (q.1.cls ≠ "java/lang/invoke/MethodHandle" ∧ q.1.cls ≠ "java/lang/invoke/VarHandle") ∧ Cond.instantiable q.1.cls q.2 ∈ tables_1 ∧ Cond.privateMethod q.1 ∈ tables_1 ∧ Cond.instanceMethod q.1 ∈ tables_1
theorem lw_p0 : lw_okq (⟨"PortraitYears", "found", "(I)I"⟩, 11) := ⟨⟨by decide +kernel, by decide +kernel⟩, List.mem_of_getElem? (i := 14) (by decide +kernel), List.mem_of_getElem? (i := 294) (by decide +kernel), List.mem_of_getElem? (i := 295) (by decide +kernel)⟩
theorem lw_p1 : lw_okq (⟨"PortraitYears", "foundNothing", "(I)I"⟩, 11) := ⟨⟨by decide +kernel, by decide +kernel⟩, List.mem_of_getElem? (i := 14) (by decide +kernel), List.mem_of_getElem? (i := 303) (by decide +kernel), List.mem_of_getElem? (i := 304) (by decide +kernel)⟩
theorem lw_p2 : lw_okq (⟨"PortraitYears$Seer", "hangFrom", "(LPortraitYears$House;III)V"⟩, 9) := ⟨⟨by decide +kernel, by decide +kernel⟩, List.mem_of_getElem? (i := 161) (by decide +kernel), List.mem_of_getElem? (i := 604) (by decide +kernel), List.mem_of_getElem? (i := 605) (by decide +kernel)⟩
theorem lw_p3 : lw_okq (⟨"PortraitYears", "imageOf", "(I)LPortraitYears$House;"⟩, 11) := ⟨⟨by decide +kernel, by decide +kernel⟩, List.mem_of_getElem? (i := 14) (by decide +kernel), List.mem_of_getElem? (i := 710) (by decide +kernel), List.mem_of_getElem? (i := 711) (by decide +kernel)⟩
theorem lw_p4 : lw_okq (⟨"PortraitYears$Asker", "give", "(ILPortraitYears$House;II)I"⟩, 2) := ⟨⟨by decide +kernel, by decide +kernel⟩, List.mem_of_getElem? (i := 229) (by decide +kernel), List.mem_of_getElem? (i := 747) (by decide +kernel), List.mem_of_getElem? (i := 748) (by decide +kernel)⟩
theorem lw_p5 : lw_okq (⟨"PortraitYearsModel", "found", "(I)I"⟩, 24) := ⟨⟨by decide +kernel, by decide +kernel⟩, List.mem_of_getElem? (i := 778) (by decide +kernel), List.mem_of_getElem? (i := 870) (by decide +kernel), List.mem_of_getElem? (i := 871) (by decide +kernel)⟩
theorem lw_p6 : lw_okq (⟨"PortraitYearsModel", "well", "(I)I"⟩, 24) := ⟨⟨by decide +kernel, by decide +kernel⟩, List.mem_of_getElem? (i := 778) (by decide +kernel), List.mem_of_getElem? (i := 875) (by decide +kernel), List.mem_of_getElem? (i := 876) (by decide +kernel)⟩
theorem lw_p7 : lw_okq (⟨"PortraitYearsModel", "isMissing", "(I)Z"⟩, 24) := ⟨⟨by decide +kernel, by decide +kernel⟩, List.mem_of_getElem? (i := 778) (by decide +kernel), List.mem_of_getElem? (i := 883) (by decide +kernel), List.mem_of_getElem? (i := 884) (by decide +kernel)⟩
theorem lw_p8 : lw_okq (⟨"PortraitYearsModel", "isPart", "(III)Z"⟩, 24) := ⟨⟨by decide +kernel, by decide +kernel⟩, List.mem_of_getElem? (i := 778) (by decide +kernel), List.mem_of_getElem? (i := 894) (by decide +kernel), List.mem_of_getElem? (i := 895) (by decide +kernel)⟩
theorem lw_p9 : lw_okq (⟨"PortraitYearsModel", "advances", "()V"⟩, 24) := ⟨⟨by decide +kernel, by decide +kernel⟩, List.mem_of_getElem? (i := 778) (by decide +kernel), List.mem_of_getElem? (i := 911) (by decide +kernel), List.mem_of_getElem? (i := 912) (by decide +kernel)⟩
theorem lw_p10 : lw_okq (⟨"PortraitYearsModel", "byteAt", "(I)I"⟩, 24) := ⟨⟨by decide +kernel, by decide +kernel⟩, List.mem_of_getElem? (i := 778) (by decide +kernel), List.mem_of_getElem? (i := 915) (by decide +kernel), List.mem_of_getElem? (i := 916) (by decide +kernel)⟩
theorem lw_p11 : lw_okq (⟨"PortraitYearsModel", "takes", "(ZI)I"⟩, 24) := ⟨⟨by decide +kernel, by decide +kernel⟩, List.mem_of_getElem? (i := 778) (by decide +kernel), List.mem_of_getElem? (i := 919) (by decide +kernel), List.mem_of_getElem? (i := 920) (by decide +kernel)⟩
theorem lw_p12 : lw_okq (⟨"PortraitYearsModel", "isWell", "()Z"⟩, 24) := ⟨⟨by decide +kernel, by decide +kernel⟩, List.mem_of_getElem? (i := 778) (by decide +kernel), List.mem_of_getElem? (i := 923) (by decide +kernel), List.mem_of_getElem? (i := 924) (by decide +kernel)⟩
theorem lw_p13 : lw_okq (⟨"PortraitYearsModel", "figure", "(II)I"⟩, 24) := ⟨⟨by decide +kernel, by decide +kernel⟩, List.mem_of_getElem? (i := 778) (by decide +kernel), List.mem_of_getElem? (i := 927) (by decide +kernel), List.mem_of_getElem? (i := 928) (by decide +kernel)⟩
theorem lw_p14 : lw_okq (⟨"PortraitYearsModel", "next", "(II)I"⟩, 24) := ⟨⟨by decide +kernel, by decide +kernel⟩, List.mem_of_getElem? (i := 778) (by decide +kernel), List.mem_of_getElem? (i := 931) (by decide +kernel), List.mem_of_getElem? (i := 932) (by decide +kernel)⟩
theorem lw_p15 : lw_okq (⟨"PortraitYearsModel", "readsWall", "()V"⟩, 24) := ⟨⟨by decide +kernel, by decide +kernel⟩, List.mem_of_getElem? (i := 778) (by decide +kernel), List.mem_of_getElem? (i := 935) (by decide +kernel), List.mem_of_getElem? (i := 936) (by decide +kernel)⟩
def lw_privs_1 : List (MethodName × Nat) := [(⟨"PortraitYears", "found", "(I)I"⟩, 11), (⟨"PortraitYears", "foundNothing", "(I)I"⟩, 11), (⟨"PortraitYears$Seer", "hangFrom", "(LPortraitYears$House;III)V"⟩, 9), (⟨"PortraitYears", "imageOf", "(I)LPortraitYears$House;"⟩, 11), (⟨"PortraitYears$Asker", "give", "(ILPortraitYears$House;II)I"⟩, 2), (⟨"PortraitYearsModel", "found", "(I)I"⟩, 24), (⟨"PortraitYearsModel", "well", "(I)I"⟩, 24), (⟨"PortraitYearsModel", "isMissing", "(I)Z"⟩, 24), (⟨"PortraitYearsModel", "isPart", "(III)Z"⟩, 24), (⟨"PortraitYearsModel", "advances", "()V"⟩, 24), (⟨"PortraitYearsModel", "byteAt", "(I)I"⟩, 24), (⟨"PortraitYearsModel", "takes", "(ZI)I"⟩, 24), (⟨"PortraitYearsModel", "isWell", "()Z"⟩, 24), (⟨"PortraitYearsModel", "figure", "(II)I"⟩, 24), (⟨"PortraitYearsModel", "next", "(II)I"⟩, 24), (⟨"PortraitYearsModel", "readsWall", "()V"⟩, 24)]
theorem lw_r1 : ∀ q ∈ lw_privs_1, lw_okq q := List.forall_mem_cons.mpr ⟨lw_p0, List.forall_mem_cons.mpr ⟨lw_p1, List.forall_mem_cons.mpr ⟨lw_p2, List.forall_mem_cons.mpr ⟨lw_p3, List.forall_mem_cons.mpr ⟨lw_p4, List.forall_mem_cons.mpr ⟨lw_p5, List.forall_mem_cons.mpr ⟨lw_p6, List.forall_mem_cons.mpr ⟨lw_p7, List.forall_mem_cons.mpr ⟨lw_p8, List.forall_mem_cons.mpr ⟨lw_p9, List.forall_mem_cons.mpr ⟨lw_p10, List.forall_mem_cons.mpr ⟨lw_p11, List.forall_mem_cons.mpr ⟨lw_p12, List.forall_mem_cons.mpr ⟨lw_p13, List.forall_mem_cons.mpr ⟨lw_p14, List.forall_mem_cons.mpr ⟨lw_p15, fun _ h => absurd h List.not_mem_nil⟩⟩⟩⟩⟩⟩⟩⟩⟩⟩⟩⟩⟩⟩⟩⟩
theorem lw_p16 : lw_okq (⟨"PortraitYearsModel", "readsPicture", "()V"⟩, 24) := ⟨⟨by decide +kernel, by decide +kernel⟩, List.mem_of_getElem? (i := 778) (by decide +kernel), List.mem_of_getElem? (i := 942) (by decide +kernel), List.mem_of_getElem? (i := 943) (by decide +kernel)⟩
theorem lw_p17 : lw_okq (⟨"PortraitYearsModel", "wallFigure", "()I"⟩, 24) := ⟨⟨by decide +kernel, by decide +kernel⟩, List.mem_of_getElem? (i := 778) (by decide +kernel), List.mem_of_getElem? (i := 946) (by decide +kernel), List.mem_of_getElem? (i := 947) (by decide +kernel)⟩
theorem lw_p18 : lw_okq (⟨"PortraitYearsModel", "isHouse", "()Z"⟩, 24) := ⟨⟨by decide +kernel, by decide +kernel⟩, List.mem_of_getElem? (i := 778) (by decide +kernel), List.mem_of_getElem? (i := 968) (by decide +kernel), List.mem_of_getElem? (i := 969) (by decide +kernel)⟩
theorem lw_p19 : lw_okq (⟨"PortraitYearsModel", "notes", "()V"⟩, 24) := ⟨⟨by decide +kernel, by decide +kernel⟩, List.mem_of_getElem? (i := 778) (by decide +kernel), List.mem_of_getElem? (i := 973) (by decide +kernel), List.mem_of_getElem? (i := 974) (by decide +kernel)⟩
theorem lw_p20 : lw_okq (⟨"PortraitYearsModel", "isPicture", "(I)Z"⟩, 24) := ⟨⟨by decide +kernel, by decide +kernel⟩, List.mem_of_getElem? (i := 778) (by decide +kernel), List.mem_of_getElem? (i := 993) (by decide +kernel), List.mem_of_getElem? (i := 994) (by decide +kernel)⟩
theorem lw_p21 : lw_okq (⟨"PortraitYearsModel", "isWall", "(I)Z"⟩, 24) := ⟨⟨by decide +kernel, by decide +kernel⟩, List.mem_of_getElem? (i := 778) (by decide +kernel), List.mem_of_getElem? (i := 1005) (by decide +kernel), List.mem_of_getElem? (i := 1006) (by decide +kernel)⟩
theorem lw_p22 : lw_okq (⟨"PortraitYearsModel", "tries", "()V"⟩, 24) := ⟨⟨by decide +kernel, by decide +kernel⟩, List.mem_of_getElem? (i := 778) (by decide +kernel), List.mem_of_getElem? (i := 1028) (by decide +kernel), List.mem_of_getElem? (i := 1029) (by decide +kernel)⟩
theorem lw_p23 : lw_okq (⟨"PortraitYearsModel", "goes", "(I)V"⟩, 24) := ⟨⟨by decide +kernel, by decide +kernel⟩, List.mem_of_getElem? (i := 778) (by decide +kernel), List.mem_of_getElem? (i := 1032) (by decide +kernel), List.mem_of_getElem? (i := 1033) (by decide +kernel)⟩
theorem lw_p24 : lw_okq (⟨"PortraitYearsModel", "isRoom", "()Z"⟩, 24) := ⟨⟨by decide +kernel, by decide +kernel⟩, List.mem_of_getElem? (i := 778) (by decide +kernel), List.mem_of_getElem? (i := 1055) (by decide +kernel), List.mem_of_getElem? (i := 1056) (by decide +kernel)⟩
theorem lw_p25 : lw_okq (⟨"PortraitYearsModel", "nextHanging", "()Z"⟩, 24) := ⟨⟨by decide +kernel, by decide +kernel⟩, List.mem_of_getElem? (i := 778) (by decide +kernel), List.mem_of_getElem? (i := 1062) (by decide +kernel), List.mem_of_getElem? (i := 1063) (by decide +kernel)⟩
theorem lw_p26 : lw_okq (⟨"PortraitYearsModel", "goesSo", "(III)Z"⟩, 24) := ⟨⟨by decide +kernel, by decide +kernel⟩, List.mem_of_getElem? (i := 778) (by decide +kernel), List.mem_of_getElem? (i := 1078) (by decide +kernel), List.mem_of_getElem? (i := 1079) (by decide +kernel)⟩
theorem lw_p27 : lw_okq (⟨"PortraitYearsModel", "kindIn", "(I)I"⟩, 24) := ⟨⟨by decide +kernel, by decide +kernel⟩, List.mem_of_getElem? (i := 778) (by decide +kernel), List.mem_of_getElem? (i := 1106) (by decide +kernel), List.mem_of_getElem? (i := 1107) (by decide +kernel)⟩
theorem lw_p28 : lw_okq (⟨"PortraitYearsModel", "pencilSize", "(I)I"⟩, 24) := ⟨⟨by decide +kernel, by decide +kernel⟩, List.mem_of_getElem? (i := 778) (by decide +kernel), List.mem_of_getElem? (i := 1118) (by decide +kernel), List.mem_of_getElem? (i := 1119) (by decide +kernel)⟩
theorem lw_p29 : lw_okq (⟨"PortraitYearsModel", "begins", "(I)V"⟩, 24) := ⟨⟨by decide +kernel, by decide +kernel⟩, List.mem_of_getElem? (i := 778) (by decide +kernel), List.mem_of_getElem? (i := 1122) (by decide +kernel), List.mem_of_getElem? (i := 1123) (by decide +kernel)⟩
theorem lw_p30 : lw_okq (⟨"PortraitYearsModel", "oilSize", "(I)I"⟩, 24) := ⟨⟨by decide +kernel, by decide +kernel⟩, List.mem_of_getElem? (i := 778) (by decide +kernel), List.mem_of_getElem? (i := 1126) (by decide +kernel), List.mem_of_getElem? (i := 1127) (by decide +kernel)⟩
theorem lw_p31 : lw_okq (⟨"PortraitYearsModel", "oilMark", "(I)I"⟩, 24) := ⟨⟨by decide +kernel, by decide +kernel⟩, List.mem_of_getElem? (i := 778) (by decide +kernel), List.mem_of_getElem? (i := 1130) (by decide +kernel), List.mem_of_getElem? (i := 1131) (by decide +kernel)⟩
def lw_privs_2 : List (MethodName × Nat) := [(⟨"PortraitYearsModel", "readsPicture", "()V"⟩, 24), (⟨"PortraitYearsModel", "wallFigure", "()I"⟩, 24), (⟨"PortraitYearsModel", "isHouse", "()Z"⟩, 24), (⟨"PortraitYearsModel", "notes", "()V"⟩, 24), (⟨"PortraitYearsModel", "isPicture", "(I)Z"⟩, 24), (⟨"PortraitYearsModel", "isWall", "(I)Z"⟩, 24), (⟨"PortraitYearsModel", "tries", "()V"⟩, 24), (⟨"PortraitYearsModel", "goes", "(I)V"⟩, 24), (⟨"PortraitYearsModel", "isRoom", "()Z"⟩, 24), (⟨"PortraitYearsModel", "nextHanging", "()Z"⟩, 24), (⟨"PortraitYearsModel", "goesSo", "(III)Z"⟩, 24), (⟨"PortraitYearsModel", "kindIn", "(I)I"⟩, 24), (⟨"PortraitYearsModel", "pencilSize", "(I)I"⟩, 24), (⟨"PortraitYearsModel", "begins", "(I)V"⟩, 24), (⟨"PortraitYearsModel", "oilSize", "(I)I"⟩, 24), (⟨"PortraitYearsModel", "oilMark", "(I)I"⟩, 24)]
theorem lw_r2 : ∀ q ∈ lw_privs_2, lw_okq q := List.forall_mem_cons.mpr ⟨lw_p16, List.forall_mem_cons.mpr ⟨lw_p17, List.forall_mem_cons.mpr ⟨lw_p18, List.forall_mem_cons.mpr ⟨lw_p19, List.forall_mem_cons.mpr ⟨lw_p20, List.forall_mem_cons.mpr ⟨lw_p21, List.forall_mem_cons.mpr ⟨lw_p22, List.forall_mem_cons.mpr ⟨lw_p23, List.forall_mem_cons.mpr ⟨lw_p24, List.forall_mem_cons.mpr ⟨lw_p25, List.forall_mem_cons.mpr ⟨lw_p26, List.forall_mem_cons.mpr ⟨lw_p27, List.forall_mem_cons.mpr ⟨lw_p28, List.forall_mem_cons.mpr ⟨lw_p29, List.forall_mem_cons.mpr ⟨lw_p30, List.forall_mem_cons.mpr ⟨lw_p31, fun _ h => absurd h List.not_mem_nil⟩⟩⟩⟩⟩⟩⟩⟩⟩⟩⟩⟩⟩⟩⟩⟩
theorem lw_p32 : lw_okq (⟨"PortraitYearsModel", "pencilMark", "(I)I"⟩, 24) := ⟨⟨by decide +kernel, by decide +kernel⟩, List.mem_of_getElem? (i := 778) (by decide +kernel), List.mem_of_getElem? (i := 1134) (by decide +kernel), List.mem_of_getElem? (i := 1135) (by decide +kernel)⟩
def lw_privs_3 : List (MethodName × Nat) := [(⟨"PortraitYearsModel", "pencilMark", "(I)I"⟩, 24)]
theorem lw_r3 : ∀ q ∈ lw_privs_3, lw_okq q := List.forall_mem_cons.mpr ⟨lw_p32, fun _ h => absurd h List.not_mem_nil⟩
def lw_privs : List (MethodName × Nat) := lw_privs_1 ++ (lw_privs_2 ++ (lw_privs_3))
def lw_tbl : List Cond := k2_sels lw_privs ++ tables_1
theorem lw_privs_ok : ∀ q ∈ lw_privs, lw_okq q := by
  show ∀ q ∈ lw_privs_1 ++ (lw_privs_2 ++ (lw_privs_3)), lw_okq q
  exact List.forall_mem_append.mpr ⟨lw_r1, List.forall_mem_append.mpr ⟨lw_r2, lw_r3⟩⟩
-- ===== end of PART A; then your names; then what follows =====
/-! ===== BEGIN words of one list among another's, by their places ===== -/
theorem goodIn_r {big : List Cond} (ws : List Cond) (ps : List Nat) (hp : ws = ps.filterMap (fun i => big[i]?)) (h : ws.all goodWord = true) : GoodIn big ws := by
  intro w hw
  have h1 := List.all_eq_true.mp h w hw
  rw [hp] at hw
  obtain ⟨i, -, hi⟩ := List.mem_filterMap.mp hw
  have hm : w ∈ big := by first | exact List.mem_of_getElem? hi | exact List.getElem?_mem hi
  exact ⟨hm, good_of_word h1⟩
theorem goodIn_app {big a b : List Cond} (ha : GoodIn big a) (hb : GoodIn big b) : GoodIn big (a ++ b) := fun w h => (List.mem_append.mp h).elim (ha w) (hb w)
theorem goodIn_ca {big a b : List Cond} {c : Cond} (ha : GoodIn big (c :: a)) (hb : GoodIn big b) : GoodIn big (c :: (a ++ b)) := fun w h => (List.mem_cons.mp h).elim (fun e => ha w (List.mem_cons.mpr (Or.inl e))) (fun h => (List.mem_append.mp h).elim (fun h => ha w (List.mem_cons.mpr (Or.inr h))) (hb w))
theorem goodIn_sub {big ws : List Cond} (hm : ∀ w ∈ ws, w ∈ big) (h : ws.all goodWord = true) : GoodIn big ws := fun w hw => ⟨hm w hw, good_of_word (List.all_eq_true.mp h w hw)⟩
/-! ===== END ===== -/

/-! ===== BEGIN printed: names, fields, word lists, decode rows ===== -/
def RX0 : String := "PortraitYears$Acts"
def TX0 : u_T := fun k => match k with
  | 0 => ("PortraitYears$Acts", "past", "[I", true)
  | 1 => ("PortraitYears$Acts", "kept", "I", false)
  | _ => ("PortraitYears$Acts", "free", "I", false)
def tyX0 : Nat → FieldType := fun k => match k with
  | 0 => .array .int
  | 1 => .int
  | _ => .int
abbrev wsX00 : List Cond := u_ws RX0 TX0 3
theorem nmX0 : ∀ a, a < 3 → ∀ b, b < 3 → a ≠ b → (TX0 a).2.1 ≠ (TX0 b).2.1 := by decide +kernel
theorem tyX0_ok : ∀ k, k < 3 → parseFieldDescriptor (TX0 k).2.2.1 = some (tyX0 k) := by decide +kernel
abbrev cX0_init : ByteArray := prog_2_method_1_code
def yX0_init : MethodName := ⟨RX0, "<init>", "()V"⟩
abbrev cX0_forget : ByteArray := prog_2_method_2_code
def yX0_forget : MethodName := ⟨RX0, "forget", "()V"⟩
abbrev cX0_keep : ByteArray := prog_2_method_3_code
def yX0_keep : MethodName := ⟨RX0, "keep", "(LPortraitYears$House;)V"⟩
abbrev cX0_takeBack : ByteArray := prog_2_method_4_code
def yX0_takeBack : MethodName := ⟨RX0, "takeBack", "(LPortraitYears$House;)Z"⟩
def RX1 : String := "PortraitYears$Asker"
def TX1 : u_T := fun k => match k with
  | 0 => ("PortraitYears$Asker", "bodies", "[I", true)
  | _ => ("PortraitYears$Asker", "begun", "I", false)
def tyX1 : Nat → FieldType := fun k => match k with
  | 0 => .array .int
  | _ => .int
abbrev wsX10 : List Cond := u_ws RX1 TX1 2
theorem nmX1 : ∀ a, a < 2 → ∀ b, b < 2 → a ≠ b → (TX1 a).2.1 ≠ (TX1 b).2.1 := by decide +kernel
theorem tyX1_ok : ∀ k, k < 2 → parseFieldDescriptor (TX1 k).2.2.1 = some (tyX1 k) := by decide +kernel
abbrev cX1_init : ByteArray := prog_3_method_1_code
def yX1_init : MethodName := ⟨RX1, "<init>", "()V"⟩
abbrev cX1_isA : ByteArray := prog_3_method_2_code
def yX1_isA : MethodName := ⟨RX1, "isA", "(II)Z"⟩
abbrev cX1_sizeOf : ByteArray := prog_3_method_3_code
def yX1_sizeOf : MethodName := ⟨RX1, "sizeOf", "(LPortraitYears$House;I)I"⟩
abbrev cX1_markOf : ByteArray := prog_3_method_4_code
def yX1_markOf : MethodName := ⟨RX1, "markOf", "(LPortraitYears$House;I)I"⟩
abbrev cX1_bodyFor : ByteArray := prog_3_method_5_code
def yX1_bodyFor : MethodName := ⟨RX1, "bodyFor", "(I[I)I"⟩
abbrev cX1_give : ByteArray := prog_3_method_6_code
def yX1_give : MethodName := ⟨RX1, "give", "(ILPortraitYears$House;II)I"⟩
abbrev cX1_begin : ByteArray := prog_3_method_7_code
def yX1_begin : MethodName := ⟨RX1, "begin", "(I)V"⟩
def RX2 : String := "PortraitYears$House"
def TX2 : u_T := fun k => match k with
  | 0 => ("PortraitYears$House", "stands", "Z", false)
  | 1 => ("PortraitYears$House", "room", "I", false)
  | 2 => ("PortraitYears$House", "purse", "I", false)
  | 3 => ("PortraitYears$House", "year", "I", false)
  | 4 => ("PortraitYears$House", "walls", "I", false)
  | 5 => ("PortraitYears$House", "pictures", "I", false)
  | 6 => ("PortraitYears$House", "lights", "[I", true)
  | 7 => ("PortraitYears$House", "damps", "[I", true)
  | 8 => ("PortraitYears$House", "kinds", "[I", true)
  | 9 => ("PortraitYears$House", "skills", "[I", true)
  | 10 => ("PortraitYears$House", "cells", "[I", true)
  | _ => ("PortraitYears$House", "hung", "[I", true)
def tyX2 : Nat → FieldType := fun k => match k with
  | 0 => .boolean
  | 1 => .int
  | 2 => .int
  | 3 => .int
  | 4 => .int
  | 5 => .int
  | 6 => .array .int
  | 7 => .array .int
  | 8 => .array .int
  | 9 => .array .int
  | 10 => .array .int
  | _ => .array .int
abbrev wsX20 : List Cond := u_ws RX2 TX2 12
theorem nmX2 : ∀ a, a < 12 → ∀ b, b < 12 → a ≠ b → (TX2 a).2.1 ≠ (TX2 b).2.1 := by decide +kernel
theorem tyX2_ok : ∀ k, k < 12 → parseFieldDescriptor (TX2 k).2.2.1 = some (tyX2 k) := by decide +kernel
abbrev cX2_init : ByteArray := prog_4_method_1_code
def yX2_init : MethodName := ⟨RX2, "<init>", "()V"⟩
abbrev cX2_clear : ByteArray := prog_4_method_2_code
def yX2_clear : MethodName := ⟨RX2, "clear", "()V"⟩
abbrev cX2_become : ByteArray := prog_4_method_3_code
def yX2_become : MethodName := ⟨RX2, "become", "(LPortraitYears$House;)V"⟩
abbrev cX2_hasPicture : ByteArray := prog_4_method_4_code
def yX2_hasPicture : MethodName := ⟨RX2, "hasPicture", "(I)Z"⟩
abbrev cX2_hasWall : ByteArray := prog_4_method_5_code
def yX2_hasWall : MethodName := ⟨RX2, "hasWall", "(I)Z"⟩
abbrev cX2_hasRoomOn : ByteArray := prog_4_method_6_code
def yX2_hasRoomOn : MethodName := ⟨RX2, "hasRoomOn", "(I)Z"⟩
abbrev cX2_hungOn : ByteArray := prog_4_method_7_code
def yX2_hungOn : MethodName := ⟨RX2, "hungOn", "(I)I"⟩
abbrev cX2_living : ByteArray := prog_4_method_8_code
def yX2_living : MethodName := ⟨RX2, "living", "()I"⟩
abbrev cX2_addWall : ByteArray := prog_4_method_9_code
def yX2_addWall : MethodName := ⟨RX2, "addWall", "(II)V"⟩
abbrev cX2_addPicture : ByteArray := prog_4_method_10_code
def yX2_addPicture : MethodName := ⟨RX2, "addPicture", "(IIII)V"⟩
def RX3 : String := "PortraitYears$Outlook"
def TX3 : u_T := fun k => match k with
  | 0 => ("PortraitYears$Outlook", "kind", "I", false)
  | 1 => ("PortraitYears$Outlook", "skill", "I", false)
  | 2 => ("PortraitYears$Outlook", "cells", "I", false)
  | 3 => ("PortraitYears$Outlook", "light", "I", false)
  | 4 => ("PortraitYears$Outlook", "damp", "I", false)
  | _ => ("PortraitYears$Outlook", "year", "I", false)
def tyX3 : Nat → FieldType := fun k => match k with
  | 0 => .int
  | 1 => .int
  | 2 => .int
  | 3 => .int
  | 4 => .int
  | _ => .int
abbrev wsX30 : List Cond := u_ws RX3 TX3 6
theorem nmX3 : ∀ a, a < 6 → ∀ b, b < 6 → a ≠ b → (TX3 a).2.1 ≠ (TX3 b).2.1 := by decide +kernel
theorem tyX3_ok : ∀ k, k < 6 → parseFieldDescriptor (TX3 k).2.2.1 = some (tyX3 k) := by decide +kernel
abbrev cX3_init : ByteArray := prog_5_method_1_code
def yX3_init : MethodName := ⟨RX3, "<init>", "()V"⟩
abbrev cX3_takeFrom : ByteArray := prog_5_method_2_code
def yX3_takeFrom : MethodName := ⟨RX3, "takeFrom", "(LPortraitYears$House;I)V"⟩
abbrev cX3_takeWall : ByteArray := prog_5_method_3_code
def yX3_takeWall : MethodName := ⟨RX3, "takeWall", "(LPortraitYears$House;I)V"⟩
abbrev cX3_cellsBehind : ByteArray := prog_5_method_4_code
def yX3_cellsBehind : MethodName := ⟨RX3, "cellsBehind", "(I)I"⟩
abbrev cX3_fadesIn : ByteArray := prog_5_method_5_code
def yX3_fadesIn : MethodName := ⟨RX3, "fadesIn", "(I)I"⟩
abbrev cX3_fadesAsOil : ByteArray := prog_5_method_6_code
def yX3_fadesAsOil : MethodName := ⟨RX3, "fadesAsOil", "()I"⟩
abbrev cX3_yearsThatSkillDivides : ByteArray := prog_5_method_7_code
def yX3_yearsThatSkillDivides : MethodName := ⟨RX3, "yearsThatSkillDivides", "(I)I"⟩
def RX4 : String := "PortraitYears$Rows"
def TX4 : u_T := fun k => match k with
  | 0 => ("PortraitYears$Rows", "items", "[I", true)
  | 1 => ("PortraitYears$Rows", "lanes", "[I", true)
  | _ => ("PortraitYears$Rows", "lengths", "[I", true)
def tyX4 : Nat → FieldType := fun k => match k with
  | 0 => .array .int
  | 1 => .array .int
  | _ => .array .int
abbrev wsX40 : List Cond := u_ws RX4 TX4 3
theorem nmX4 : ∀ a, a < 3 → ∀ b, b < 3 → a ≠ b → (TX4 a).2.1 ≠ (TX4 b).2.1 := by decide +kernel
theorem tyX4_ok : ∀ k, k < 3 → parseFieldDescriptor (TX4 k).2.2.1 = some (tyX4 k) := by decide +kernel
abbrev cX4_init : ByteArray := prog_6_method_1_code
def yX4_init : MethodName := ⟨RX4, "<init>", "()V"⟩
abbrev cX4_isRow : ByteArray := prog_6_method_2_code
def yX4_isRow : MethodName := ⟨RX4, "isRow", "(I)Z"⟩
abbrev cX4_isLane : ByteArray := prog_6_method_3_code
def yX4_isLane : MethodName := ⟨RX4, "isLane", "(I)Z"⟩
abbrev cX4_isMissing : ByteArray := prog_6_method_4_code
def yX4_isMissing : MethodName := ⟨RX4, "isMissing", "(I)Z"⟩
abbrev cX4_areOfOneLane : ByteArray := prog_6_method_5_code
def yX4_areOfOneLane : MethodName := ⟨RX4, "areOfOneLane", "(II)Z"⟩
abbrev cX4_hasPlaces : ByteArray := prog_6_method_6_code
def yX4_hasPlaces : MethodName := ⟨RX4, "hasPlaces", "(III)Z"⟩
abbrev cX4_make : ByteArray := prog_6_method_7_code
def yX4_make : MethodName := ⟨RX4, "make", "(III)V"⟩
abbrev cX4_put : ByteArray := prog_6_method_8_code
def yX4_put : MethodName := ⟨RX4, "put", "(III)I"⟩
abbrev cX4_move : ByteArray := prog_6_method_9_code
def yX4_move : MethodName := ⟨RX4, "move", "(IIIII)V"⟩
abbrev cX4_tell : ByteArray := prog_6_method_10_code
def yX4_tell : MethodName := ⟨RX4, "tell", "(III[I)V"⟩
abbrev cX4_lose : ByteArray := prog_6_method_11_code
def yX4_lose : MethodName := ⟨RX4, "lose", "(I)I"⟩
abbrev cX4_present : ByteArray := prog_6_method_12_code
def yX4_present : MethodName := ⟨RX4, "present", "()I"⟩
def RX5 : String := "PortraitYears$Seer"
def TX5 : u_T := fun k => match k with
  | 0 => ("PortraitYears$Seer", "outlook", "LPortraitYears$Outlook;", true)
  | 1 => ("PortraitYears$Seer", "told", "[I", true)
  | 2 => ("PortraitYears$Seer", "behind", "[I", true)
  | 3 => ("PortraitYears$Seer", "crowd", "[I", true)
  | 4 => ("PortraitYears$Seer", "triedWalls", "[I", true)
  | 5 => ("PortraitYears$Seer", "bestWalls", "[I", true)
  | 6 => ("PortraitYears$Seer", "aged", "[I", true)
  | 7 => ("PortraitYears$Seer", "bestLiving", "I", false)
  | _ => ("PortraitYears$Seer", "bestCells", "I", false)
def tyX5 : Nat → FieldType := fun k => match k with
  | 0 => .object "PortraitYears$Outlook"
  | 1 => .array .int
  | 2 => .array .int
  | 3 => .array .int
  | 4 => .array .int
  | 5 => .array .int
  | 6 => .array .int
  | 7 => .int
  | _ => .int
abbrev wsX50 : List Cond := u_ws RX5 TX5 9
theorem nmX5 : ∀ a, a < 9 → ∀ b, b < 9 → a ≠ b → (TX5 a).2.1 ≠ (TX5 b).2.1 := by decide +kernel
theorem tyX5_ok : ∀ k, k < 9 → parseFieldDescriptor (TX5 k).2.2.1 = some (tyX5 k) := by decide +kernel
abbrev cX5_init : ByteArray := prog_7_method_1_code
def yX5_init : MethodName := ⟨RX5, "<init>", "()V"⟩
abbrev cX5_pass : ByteArray := prog_7_method_2_code
def yX5_pass : MethodName := ⟨RX5, "pass", "(LPortraitYears$House;)V"⟩
abbrev cX5_fadesNow : ByteArray := prog_7_method_3_code
def yX5_fadesNow : MethodName := ⟨RX5, "fadesNow", "(LPortraitYears$House;I)I"⟩
abbrev cX5_cellsBehind : ByteArray := prog_7_method_4_code
def yX5_cellsBehind : MethodName := ⟨RX5, "cellsBehind", "(LPortraitYears$House;II)I"⟩
abbrev cX5_livingBehind : ByteArray := prog_7_method_5_code
def yX5_livingBehind : MethodName := ⟨RX5, "livingBehind", "(LPortraitYears$House;I)I"⟩
abbrev cX5_death : ByteArray := prog_7_method_6_code
def yX5_death : MethodName := ⟨RX5, "death", "(LPortraitYears$House;I)I"⟩
abbrev cX5_firstToDie : ByteArray := prog_7_method_7_code
def yX5_firstToDie : MethodName := ⟨RX5, "firstToDie", "(LPortraitYears$House;)I"⟩
abbrev cX5_seekHanging : ByteArray := prog_7_method_8_code
def yX5_seekHanging : MethodName := ⟨RX5, "seekHanging", "(LPortraitYears$House;I)V"⟩
abbrev cX5_foretellAllWalls : ByteArray := prog_7_method_9_code
def yX5_foretellAllWalls : MethodName := ⟨RX5, "foretellAllWalls", "(LPortraitYears$House;I)V"⟩
abbrev cX5_hangFrom : ByteArray := prog_7_method_10_code
def yX5_hangFrom : MethodName := ⟨RX5, "hangFrom", "(LPortraitYears$House;III)V"⟩
abbrev cX5_weigh : ByteArray := prog_7_method_11_code
def yX5_weigh : MethodName := ⟨RX5, "weigh", "(II)V"⟩
abbrev cX5_cellsToSave : ByteArray := prog_7_method_12_code
def yX5_cellsToSave : MethodName := ⟨RX5, "cellsToSave", "(LPortraitYears$House;II)I"⟩
abbrev cX5_wallToDarken : ByteArray := prog_7_method_13_code
def yX5_wallToDarken : MethodName := ⟨RX5, "wallToDarken", "(LPortraitYears$House;I)I"⟩
abbrev cX5_livingInDark : ByteArray := prog_7_method_14_code
def yX5_livingInDark : MethodName := ⟨RX5, "livingInDark", "(LPortraitYears$House;II)I"⟩
abbrev cX5_kindsThatFit : ByteArray := prog_7_method_15_code
def yX5_kindsThatFit : MethodName := ⟨RX5, "kindsThatFit", "(LPortraitYears$House;II)I"⟩
abbrev cX5_skillsThatFit : ByteArray := prog_7_method_16_code
def yX5_skillsThatFit : MethodName := ⟨RX5, "skillsThatFit", "(LPortraitYears$House;II)I"⟩
abbrev cX5_wallsThatFit : ByteArray := prog_7_method_17_code
def yX5_wallsThatFit : MethodName := ⟨RX5, "wallsThatFit", "(LPortraitYears$House;II)I"⟩
abbrev cX5_deedsThatFit : ByteArray := prog_7_method_18_code
def yX5_deedsThatFit : MethodName := ⟨RX5, "deedsThatFit", "(LPortraitYears$House;II)I"⟩
abbrev cX5_isAsTold : ByteArray := prog_7_method_19_code
def yX5_isAsTold : MethodName := ⟨RX5, "isAsTold", "(I)Z"⟩
abbrev cX5_waysToKeep : ByteArray := prog_7_method_20_code
def yX5_waysToKeep : MethodName := ⟨RX5, "waysToKeep", "(III)I"⟩
abbrev cX5_power : ByteArray := prog_7_method_21_code
def yX5_power : MethodName := ⟨RX5, "power", "(II)I"⟩
abbrev cX5_commonDivisor : ByteArray := prog_7_method_22_code
def yX5_commonDivisor : MethodName := ⟨RX5, "commonDivisor", "(II)I"⟩
abbrev cX5_draw : ByteArray := prog_7_method_23_code
def yX5_draw : MethodName := ⟨RX5, "draw", "(LPortraitYears$House;II)V"⟩
abbrev cX5_passDrawn : ByteArray := prog_7_method_24_code
def yX5_passDrawn : MethodName := ⟨RX5, "passDrawn", "(LPortraitYears$House;I)V"⟩
abbrev cX5_agedLiving : ByteArray := prog_7_method_25_code
def yX5_agedLiving : MethodName := ⟨RX5, "agedLiving", "(LPortraitYears$House;)I"⟩
abbrev cX5_agedCells : ByteArray := prog_7_method_26_code
def yX5_agedCells : MethodName := ⟨RX5, "agedCells", "(LPortraitYears$House;)I"⟩
def RX6 : String := "PortraitYears$Tape"
def TX6 : u_T := fun k => match k with
  | 0 => ("PortraitYears$Tape", "bytes", "[I", true)
  | 1 => ("PortraitYears$Tape", "length", "I", false)
  | 2 => ("PortraitYears$Tape", "at", "I", false)
  | 3 => ("PortraitYears$Tape", "faultNumber", "I", false)
  | _ => ("PortraitYears$Tape", "faultPlace", "I", false)
def tyX6 : Nat → FieldType := fun k => match k with
  | 0 => .array .int
  | 1 => .int
  | 2 => .int
  | 3 => .int
  | _ => .int
abbrev wsX60 : List Cond := u_ws RX6 TX6 5
theorem nmX6 : ∀ a, a < 5 → ∀ b, b < 5 → a ≠ b → (TX6 a).2.1 ≠ (TX6 b).2.1 := by decide +kernel
theorem tyX6_ok : ∀ k, k < 5 → parseFieldDescriptor (TX6 k).2.2.1 = some (tyX6 k) := by decide +kernel
abbrev cX6_init : ByteArray := prog_8_method_1_code
def yX6_init : MethodName := ⟨RX6, "<init>", "()V"⟩
abbrev cX6_add : ByteArray := prog_8_method_2_code
def yX6_add : MethodName := ⟨RX6, "add", "(I)Z"⟩
abbrev cX6_clear : ByteArray := prog_8_method_3_code
def yX6_clear : MethodName := ⟨RX6, "clear", "()V"⟩
abbrev cX6_readInto : ByteArray := prog_8_method_4_code
def yX6_readInto : MethodName := ⟨RX6, "readInto", "(LPortraitYears$House;)Z"⟩
abbrev cX6_readLaw : ByteArray := prog_8_method_5_code
def yX6_readLaw : MethodName := ⟨RX6, "readLaw", "(LPortraitYears$House;)Z"⟩
abbrev cX6_readWalls : ByteArray := prog_8_method_6_code
def yX6_readWalls : MethodName := ⟨RX6, "readWalls", "(LPortraitYears$House;)Z"⟩
abbrev cX6_readWall : ByteArray := prog_8_method_7_code
def yX6_readWall : MethodName := ⟨RX6, "readWall", "(LPortraitYears$House;)Z"⟩
abbrev cX6_readPictures : ByteArray := prog_8_method_8_code
def yX6_readPictures : MethodName := ⟨RX6, "readPictures", "(LPortraitYears$House;)Z"⟩
abbrev cX6_readPicture : ByteArray := prog_8_method_9_code
def yX6_readPicture : MethodName := ⟨RX6, "readPicture", "(LPortraitYears$House;)Z"⟩
abbrev cX6_kindOfSort : ByteArray := prog_8_method_10_code
def yX6_kindOfSort : MethodName := ⟨RX6, "kindOfSort", "(I)I"⟩
abbrev cX6_takeWall : ByteArray := prog_8_method_11_code
def yX6_takeWall : MethodName := ⟨RX6, "takeWall", "(LPortraitYears$House;)I"⟩
abbrev cX6_takeNumber : ByteArray := prog_8_method_12_code
def yX6_takeNumber : MethodName := ⟨RX6, "takeNumber", "(II)I"⟩
abbrev cX6_take : ByteArray := prog_8_method_13_code
def yX6_take : MethodName := ⟨RX6, "take", "(I)Z"⟩
abbrev cX6_next : ByteArray := prog_8_method_14_code
def yX6_next : MethodName := ⟨RX6, "next", "()I"⟩
abbrev cX6_isFigure : ByteArray := prog_8_method_15_code
def yX6_isFigure : MethodName := ⟨RX6, "isFigure", "(I)Z"⟩
abbrev cX6_failAt : ByteArray := prog_8_method_16_code
def yX6_failAt : MethodName := ⟨RX6, "failAt", "(II)Z"⟩
def RX7 : String := "PortraitYears"
def TX7 : u_T := fun k => match k with
  | 0 => ("PortraitYears", "rows", "LPortraitYears$Rows;", true)
  | 1 => ("PortraitYears", "tape", "LPortraitYears$Tape;", true)
  | 2 => ("PortraitYears", "current", "LPortraitYears$House;", true)
  | 3 => ("PortraitYears", "draft", "LPortraitYears$House;", true)
  | 4 => ("PortraitYears", "imageZero", "LPortraitYears$House;", true)
  | 5 => ("PortraitYears", "imageOne", "LPortraitYears$House;", true)
  | 6 => ("PortraitYears", "acts", "LPortraitYears$Acts;", true)
  | 7 => ("PortraitYears", "seer", "LPortraitYears$Seer;", true)
  | 8 => ("PortraitYears", "asker", "LPortraitYears$Asker;", true)
  | 9 => ("PortraitYears", "latestFault", "I", false)
  | _ => ("PortraitYears", "latestFinding", "I", false)
def tyX7 : Nat → FieldType := fun k => match k with
  | 0 => .object "PortraitYears$Rows"
  | 1 => .object "PortraitYears$Tape"
  | 2 => .object "PortraitYears$House"
  | 3 => .object "PortraitYears$House"
  | 4 => .object "PortraitYears$House"
  | 5 => .object "PortraitYears$House"
  | 6 => .object "PortraitYears$Acts"
  | 7 => .object "PortraitYears$Seer"
  | 8 => .object "PortraitYears$Asker"
  | 9 => .int
  | _ => .int
abbrev wsX70 : List Cond := u_ws RX7 TX7 11
theorem nmX7 : ∀ a, a < 11 → ∀ b, b < 11 → a ≠ b → (TX7 a).2.1 ≠ (TX7 b).2.1 := by decide +kernel
theorem tyX7_ok : ∀ k, k < 11 → parseFieldDescriptor (TX7 k).2.2.1 = some (tyX7 k) := by decide +kernel
abbrev cX7_init : ByteArray := prog_1_method_1_code
def yX7_init : MethodName := ⟨RX7, "<init>", "()V"⟩
abbrev cX7_row : ByteArray := prog_1_method_2_code
def yX7_row : MethodName := ⟨RX7, "row", "(III)I"⟩
abbrev cX7_set : ByteArray := prog_1_method_3_code
def yX7_set : MethodName := ⟨RX7, "set", "(III)I"⟩
abbrev cX7_copy : ByteArray := prog_1_method_4_code
def yX7_copy : MethodName := ⟨RX7, "copy", "(IIIII)I"⟩
abbrev cX7_drop : ByteArray := prog_1_method_5_code
def yX7_drop : MethodName := ⟨RX7, "drop", "(I)I"⟩
abbrev cX7_feed : ByteArray := prog_1_method_6_code
def yX7_feed : MethodName := ⟨RX7, "feed", "(I)I"⟩
abbrev cX7_house : ByteArray := prog_1_method_7_code
def yX7_house : MethodName := ⟨RX7, "house", "()I"⟩
abbrev cX7_fault : ByteArray := prog_1_method_8_code
def yX7_fault : MethodName := ⟨RX7, "fault", "()I"⟩
abbrev cX7_years : ByteArray := prog_1_method_9_code
def yX7_years : MethodName := ⟨RX7, "years", "(I)I"⟩
abbrev cX7_deed : ByteArray := prog_1_method_10_code
def yX7_deed : MethodName := ⟨RX7, "deed", "(II)I"⟩
abbrev cX7_restore : ByteArray := prog_1_method_11_code
def yX7_restore : MethodName := ⟨RX7, "restore", "(II)I"⟩
abbrev cX7_hang : ByteArray := prog_1_method_12_code
def yX7_hang : MethodName := ⟨RX7, "hang", "(II)I"⟩
abbrev cX7_undo : ByteArray := prog_1_method_13_code
def yX7_undo : MethodName := ⟨RX7, "undo", "()I"⟩
abbrev cX7_picture : ByteArray := prog_1_method_14_code
def yX7_picture : MethodName := ⟨RX7, "picture", "(II)I"⟩
abbrev cX7_wall : ByteArray := prog_1_method_15_code
def yX7_wall : MethodName := ⟨RX7, "wall", "(II)I"⟩
abbrev cX7_remains : ByteArray := prog_1_method_16_code
def yX7_remains : MethodName := ⟨RX7, "remains", "(II)I"⟩
abbrev cX7_lives : ByteArray := prog_1_method_17_code
def yX7_lives : MethodName := ⟨RX7, "lives", "(I)I"⟩
abbrev cX7_dies : ByteArray := prog_1_method_18_code
def yX7_dies : MethodName := ⟨RX7, "dies", "(I)I"⟩
abbrev cX7_first : ByteArray := prog_1_method_19_code
def yX7_first : MethodName := ⟨RX7, "first", "(I)I"⟩
abbrev cX7_hanging : ByteArray := prog_1_method_20_code
def yX7_hanging : MethodName := ⟨RX7, "hanging", "(II)I"⟩
abbrev cX7_save : ByteArray := prog_1_method_21_code
def yX7_save : MethodName := ⟨RX7, "save", "(II)I"⟩
abbrev cX7_dark : ByteArray := prog_1_method_22_code
def yX7_dark : MethodName := ⟨RX7, "dark", "(II)I"⟩
abbrev cX7_fits : ByteArray := prog_1_method_23_code
def yX7_fits : MethodName := ⟨RX7, "fits", "(IIIII)I"⟩
abbrev cX7_thieves : ByteArray := prog_1_method_24_code
def yX7_thieves : MethodName := ⟨RX7, "thieves", "(IIII)I"⟩
abbrev cX7_drawn : ByteArray := prog_1_method_25_code
def yX7_drawn : MethodName := ⟨RX7, "drawn", "(III)I"⟩
abbrev cX7_image : ByteArray := prog_1_method_26_code
def yX7_image : MethodName := ⟨RX7, "image", "(I)I"⟩
abbrev cX7_recall : ByteArray := prog_1_method_27_code
def yX7_recall : MethodName := ⟨RX7, "recall", "(I)I"⟩
abbrev cX7_kind : ByteArray := prog_1_method_28_code
def yX7_kind : MethodName := ⟨RX7, "kind", "(I)I"⟩
abbrev cX7_as : ByteArray := prog_1_method_29_code
def yX7_as : MethodName := ⟨RX7, "as", "(II)I"⟩
abbrev cX7_ask : ByteArray := prog_1_method_30_code
def yX7_ask : MethodName := ⟨RX7, "ask", "(II)I"⟩
abbrev cX7_trace : ByteArray := prog_1_method_31_code
def yX7_trace : MethodName := ⟨RX7, "trace", "(I)I"⟩
abbrev cX7_count : ByteArray := prog_1_method_32_code
def yX7_count : MethodName := ⟨RX7, "count", "(I)I"⟩
abbrev cX7_status : ByteArray := prog_1_method_33_code
def yX7_status : MethodName := ⟨RX7, "status", "()I"⟩
abbrev cX7_found : ByteArray := prog_1_method_34_code
def yX7_found : MethodName := ⟨RX7, "found", "(I)I"⟩
abbrev cX7_foundNothing : ByteArray := prog_1_method_35_code
def yX7_foundNothing : MethodName := ⟨RX7, "foundNothing", "(I)I"⟩
abbrev cX7_imageOf : ByteArray := prog_1_method_36_code
def yX7_imageOf : MethodName := ⟨RX7, "imageOf", "(I)LPortraitYears$House;"⟩
abbrev cX7_isAhead : ByteArray := prog_1_method_37_code
def yX7_isAhead : MethodName := ⟨RX7, "isAhead", "(I)Z"⟩
abbrev cX7_isWithin : ByteArray := prog_1_method_38_code
def yX7_isWithin : MethodName := ⟨RX7, "isWithin", "(III)Z"⟩
def RX8 : String := "PortraitYearsModel"
def TX8 : u_T := fun k => match k with
  | 0 => ("PortraitYearsModel", "lane", "[I", true)
  | 1 => ("PortraitYearsModel", "many", "[I", true)
  | 2 => ("PortraitYearsModel", "items", "[I", true)
  | 3 => ("PortraitYearsModel", "spare", "[I", true)
  | 4 => ("PortraitYearsModel", "status", "I", false)
  | 5 => ("PortraitYearsModel", "tape", "[I", true)
  | 6 => ("PortraitYearsModel", "taped", "I", false)
  | 7 => ("PortraitYearsModel", "faultKind", "I", false)
  | 8 => ("PortraitYearsModel", "faultPlace", "I", false)
  | 9 => ("PortraitYearsModel", "at", "I", false)
  | 10 => ("PortraitYearsModel", "start", "I", false)
  | 11 => ("PortraitYearsModel", "token", "I", false)
  | 12 => ("PortraitYearsModel", "value", "I", false)
  | 13 => ("PortraitYearsModel", "now", "[I", true)
  | 14 => ("PortraitYearsModel", "draft", "[I", true)
  | 15 => ("PortraitYearsModel", "tried", "[I", true)
  | 16 => ("PortraitYearsModel", "past", "[I", true)
  | 17 => ("PortraitYearsModel", "acts", "I", false)
  | 18 => ("PortraitYearsModel", "images", "[I", true)
  | 19 => ("PortraitYearsModel", "kept", "[Z", true)
  | 20 => ("PortraitYearsModel", "hung", "[I", true)
  | 21 => ("PortraitYearsModel", "best", "[I", true)
  | 22 => ("PortraitYearsModel", "trace", "[I", true)
  | _ => ("PortraitYearsModel", "traced", "I", false)
def tyX8 : Nat → FieldType := fun k => match k with
  | 0 => .array .int
  | 1 => .array .int
  | 2 => .array .int
  | 3 => .array .int
  | 4 => .int
  | 5 => .array .int
  | 6 => .int
  | 7 => .int
  | 8 => .int
  | 9 => .int
  | 10 => .int
  | 11 => .int
  | 12 => .int
  | 13 => .array .int
  | 14 => .array .int
  | 15 => .array .int
  | 16 => .array .int
  | 17 => .int
  | 18 => .array .int
  | 19 => .array .boolean
  | 20 => .array .int
  | 21 => .array .int
  | 22 => .array .int
  | _ => .int
abbrev wsX80 : List Cond := u_ws RX8 TX8 24
theorem nmX8 : ∀ a, a < 24 → ∀ b, b < 24 → a ≠ b → (TX8 a).2.1 ≠ (TX8 b).2.1 := by decide +kernel
theorem tyX8_ok : ∀ k, k < 24 → parseFieldDescriptor (TX8 k).2.2.1 = some (tyX8 k) := by decide +kernel
abbrev cX8_init : ByteArray := prog_10_method_1_code
def yX8_init : MethodName := ⟨RX8, "<init>", "()V"⟩
abbrev cX8_in : ByteArray := prog_10_method_3_code
def yX8_in : MethodName := ⟨RX8, "in", "(III)Z"⟩
abbrev cX8_has : ByteArray := prog_10_method_4_code
def yX8_has : MethodName := ⟨RX8, "has", "(II)Z"⟩
abbrev cX8_ones : ByteArray := prog_10_method_5_code
def yX8_ones : MethodName := ⟨RX8, "ones", "(I)I"⟩
abbrev cX8_found : ByteArray := prog_10_method_6_code
def yX8_found : MethodName := ⟨RX8, "found", "(I)I"⟩
abbrev cX8_well : ByteArray := prog_10_method_7_code
def yX8_well : MethodName := ⟨RX8, "well", "(I)I"⟩
abbrev cX8_copies : ByteArray := prog_10_method_8_code
def yX8_copies : MethodName := ⟨RX8, "copies", "([II[II)V"⟩
abbrev cX8_isRow : ByteArray := prog_10_method_9_code
def yX8_isRow : MethodName := ⟨RX8, "isRow", "(I)Z"⟩
abbrev cX8_isMissing : ByteArray := prog_10_method_10_code
def yX8_isMissing : MethodName := ⟨RX8, "isMissing", "(I)Z"⟩
abbrev cX8_cut : ByteArray := prog_10_method_11_code
def yX8_cut : MethodName := ⟨RX8, "cut", "(II)I"⟩
abbrev cX8_row : ByteArray := prog_10_method_12_code
def yX8_row : MethodName := ⟨RX8, "row", "(III)I"⟩
abbrev cX8_set : ByteArray := prog_10_method_13_code
def yX8_set : MethodName := ⟨RX8, "set", "(III)I"⟩
abbrev cX8_isPart : ByteArray := prog_10_method_14_code
def yX8_isPart : MethodName := ⟨RX8, "isPart", "(III)Z"⟩
abbrev cX8_copy : ByteArray := prog_10_method_15_code
def yX8_copy : MethodName := ⟨RX8, "copy", "(IIIII)I"⟩
abbrev cX8_drop : ByteArray := prog_10_method_16_code
def yX8_drop : MethodName := ⟨RX8, "drop", "(I)I"⟩
abbrev cX8_feed : ByteArray := prog_10_method_17_code
def yX8_feed : MethodName := ⟨RX8, "feed", "(I)I"⟩
abbrev cX8_byteAt : ByteArray := prog_10_method_18_code
def yX8_byteAt : MethodName := ⟨RX8, "byteAt", "(I)I"⟩
abbrev cX8_advances : ByteArray := prog_10_method_19_code
def yX8_advances : MethodName := ⟨RX8, "advances", "()V"⟩
abbrev cX8_isWell : ByteArray := prog_10_method_20_code
def yX8_isWell : MethodName := ⟨RX8, "isWell", "()Z"⟩
abbrev cX8_takes : ByteArray := prog_10_method_21_code
def yX8_takes : MethodName := ⟨RX8, "takes", "(ZI)I"⟩
abbrev cX8_figure : ByteArray := prog_10_method_22_code
def yX8_figure : MethodName := ⟨RX8, "figure", "(II)I"⟩
abbrev cX8_kindOf : ByteArray := prog_10_method_23_code
def yX8_kindOf : MethodName := ⟨RX8, "kindOf", "(I)I"⟩
abbrev cX8_next : ByteArray := prog_10_method_24_code
def yX8_next : MethodName := ⟨RX8, "next", "(II)I"⟩
abbrev cX8_hangOn : ByteArray := prog_10_method_25_code
def yX8_hangOn : MethodName := ⟨RX8, "hangOn", "([II)I"⟩
abbrev cX8_readsWall : ByteArray := prog_10_method_26_code
def yX8_readsWall : MethodName := ⟨RX8, "readsWall", "()V"⟩
abbrev cX8_wallFigure : ByteArray := prog_10_method_27_code
def yX8_wallFigure : MethodName := ⟨RX8, "wallFigure", "()I"⟩
abbrev cX8_readsPicture : ByteArray := prog_10_method_28_code
def yX8_readsPicture : MethodName := ⟨RX8, "readsPicture", "()V"⟩
abbrev cX8_house : ByteArray := prog_10_method_29_code
def yX8_house : MethodName := ⟨RX8, "house", "()I"⟩
abbrev cX8_fault : ByteArray := prog_10_method_30_code
def yX8_fault : MethodName := ⟨RX8, "fault", "()I"⟩
abbrev cX8_isHouse : ByteArray := prog_10_method_31_code
def yX8_isHouse : MethodName := ⟨RX8, "isHouse", "()Z"⟩
abbrev cX8_isPicture : ByteArray := prog_10_method_32_code
def yX8_isPicture : MethodName := ⟨RX8, "isPicture", "(I)Z"⟩
abbrev cX8_isWall : ByteArray := prog_10_method_33_code
def yX8_isWall : MethodName := ⟨RX8, "isWall", "(I)Z"⟩
abbrev cX8_isFar : ByteArray := prog_10_method_34_code
def yX8_isFar : MethodName := ⟨RX8, "isFar", "(I)Z"⟩
abbrev cX8_fades : ByteArray := prog_10_method_35_code
def yX8_fades : MethodName := ⟨RX8, "fades", "([II)I"⟩
abbrev cX8_takesOff : ByteArray := prog_10_method_36_code
def yX8_takesOff : MethodName := ⟨RX8, "takesOff", "([III)V"⟩
abbrev cX8_passes : ByteArray := prog_10_method_37_code
def yX8_passes : MethodName := ⟨RX8, "passes", "([I)V"⟩
abbrev cX8_living : ByteArray := prog_10_method_38_code
def yX8_living : MethodName := ⟨RX8, "living", "([I)I"⟩
abbrev cX8_together : ByteArray := prog_10_method_39_code
def yX8_together : MethodName := ⟨RX8, "together", "([I)I"⟩
abbrev cX8_tries : ByteArray := prog_10_method_40_code
def yX8_tries : MethodName := ⟨RX8, "tries", "()V"⟩
abbrev cX8_goes : ByteArray := prog_10_method_41_code
def yX8_goes : MethodName := ⟨RX8, "goes", "(I)V"⟩
abbrev cX8_notes : ByteArray := prog_10_method_42_code
def yX8_notes : MethodName := ⟨RX8, "notes", "()V"⟩
abbrev cX8_years : ByteArray := prog_10_method_43_code
def yX8_years : MethodName := ⟨RX8, "years", "(I)I"⟩
abbrev cX8_deed : ByteArray := prog_10_method_44_code
def yX8_deed : MethodName := ⟨RX8, "deed", "(II)I"⟩
abbrev cX8_restore : ByteArray := prog_10_method_45_code
def yX8_restore : MethodName := ⟨RX8, "restore", "(II)I"⟩
abbrev cX8_hang : ByteArray := prog_10_method_46_code
def yX8_hang : MethodName := ⟨RX8, "hang", "(II)I"⟩
abbrev cX8_undo : ByteArray := prog_10_method_47_code
def yX8_undo : MethodName := ⟨RX8, "undo", "()I"⟩
abbrev cX8_picture : ByteArray := prog_10_method_48_code
def yX8_picture : MethodName := ⟨RX8, "picture", "(II)I"⟩
abbrev cX8_wall : ByteArray := prog_10_method_49_code
def yX8_wall : MethodName := ⟨RX8, "wall", "(II)I"⟩
abbrev cX8_remains : ByteArray := prog_10_method_50_code
def yX8_remains : MethodName := ⟨RX8, "remains", "(II)I"⟩
abbrev cX8_lives : ByteArray := prog_10_method_51_code
def yX8_lives : MethodName := ⟨RX8, "lives", "(I)I"⟩
abbrev cX8_dies : ByteArray := prog_10_method_52_code
def yX8_dies : MethodName := ⟨RX8, "dies", "(I)I"⟩
abbrev cX8_first : ByteArray := prog_10_method_53_code
def yX8_first : MethodName := ⟨RX8, "first", "(I)I"⟩
abbrev cX8_nextHanging : ByteArray := prog_10_method_54_code
def yX8_nextHanging : MethodName := ⟨RX8, "nextHanging", "()Z"⟩
abbrev cX8_isRoom : ByteArray := prog_10_method_55_code
def yX8_isRoom : MethodName := ⟨RX8, "isRoom", "()Z"⟩
abbrev cX8_hanging : ByteArray := prog_10_method_56_code
def yX8_hanging : MethodName := ⟨RX8, "hanging", "(II)I"⟩
abbrev cX8_save : ByteArray := prog_10_method_57_code
def yX8_save : MethodName := ⟨RX8, "save", "(II)I"⟩
abbrev cX8_dark : ByteArray := prog_10_method_58_code
def yX8_dark : MethodName := ⟨RX8, "dark", "(II)I"⟩
abbrev cX8_goesSo : ByteArray := prog_10_method_59_code
def yX8_goesSo : MethodName := ⟨RX8, "goesSo", "(III)Z"⟩
abbrev cX8_fits : ByteArray := prog_10_method_60_code
def yX8_fits : MethodName := ⟨RX8, "fits", "(IIIII)I"⟩
abbrev cX8_thieves : ByteArray := prog_10_method_61_code
def yX8_thieves : MethodName := ⟨RX8, "thieves", "(IIII)I"⟩
abbrev cX8_drawn : ByteArray := prog_10_method_62_code
def yX8_drawn : MethodName := ⟨RX8, "drawn", "(III)I"⟩
abbrev cX8_image : ByteArray := prog_10_method_63_code
def yX8_image : MethodName := ⟨RX8, "image", "(I)I"⟩
abbrev cX8_recall : ByteArray := prog_10_method_64_code
def yX8_recall : MethodName := ⟨RX8, "recall", "(I)I"⟩
abbrev cX8_kindIn : ByteArray := prog_10_method_65_code
def yX8_kindIn : MethodName := ⟨RX8, "kindIn", "(I)I"⟩
abbrev cX8_kind : ByteArray := prog_10_method_66_code
def yX8_kind : MethodName := ⟨RX8, "kind", "(I)I"⟩
abbrev cX8_as : ByteArray := prog_10_method_67_code
def yX8_as : MethodName := ⟨RX8, "as", "(II)I"⟩
abbrev cX8_begins : ByteArray := prog_10_method_68_code
def yX8_begins : MethodName := ⟨RX8, "begins", "(I)V"⟩
abbrev cX8_oilMark : ByteArray := prog_10_method_69_code
def yX8_oilMark : MethodName := ⟨RX8, "oilMark", "(I)I"⟩
abbrev cX8_pencilSize : ByteArray := prog_10_method_70_code
def yX8_pencilSize : MethodName := ⟨RX8, "pencilSize", "(I)I"⟩
abbrev cX8_oilSize : ByteArray := prog_10_method_71_code
def yX8_oilSize : MethodName := ⟨RX8, "oilSize", "(I)I"⟩
abbrev cX8_pencilMark : ByteArray := prog_10_method_72_code
def yX8_pencilMark : MethodName := ⟨RX8, "pencilMark", "(I)I"⟩
abbrev cX8_ask : ByteArray := prog_10_method_73_code
def yX8_ask : MethodName := ⟨RX8, "ask", "(II)I"⟩
abbrev cX8_trace : ByteArray := prog_10_method_74_code
def yX8_trace : MethodName := ⟨RX8, "trace", "(I)I"⟩
abbrev cX8_count : ByteArray := prog_10_method_75_code
def yX8_count : MethodName := ⟨RX8, "count", "(I)I"⟩
abbrev cX8_status : ByteArray := prog_10_method_76_code
def yX8_status : MethodName := ⟨RX8, "status", "()I"⟩
def RJ6 : String := "java/lang/Integer"
def TJ6 : u_T := fun k => match k with
  | _ => ("", "", "", false)
def tyJ6 : Nat → FieldType := fun k => match k with
  | _ => .int
abbrev wsJ60 : List Cond := u_ws RJ6 TJ6 0
theorem nmJ6 : ∀ a, a < 0 → ∀ b, b < 0 → a ≠ b → (TJ6 a).2.1 ≠ (TJ6 b).2.1 := by decide +kernel
theorem tyJ6_ok : ∀ k, k < 0 → parseFieldDescriptor (TJ6 k).2.2.1 = some (tyJ6 k) := by decide +kernel
abbrev cJ6_bitCount_0f7a4 : ByteArray := prog_11_method_49_code
def yJ6_bitCount_0f7a4 : MethodName := ⟨RJ6, "bitCount", "(I)I"⟩
def RJ9 : String := "java/lang/Math"
def TJ9 : u_T := fun k => match k with
  | _ => ("", "", "", false)
def tyJ9 : Nat → FieldType := fun k => match k with
  | _ => .int
abbrev wsJ90 : List Cond := u_ws RJ9 TJ9 0
theorem nmJ9 : ∀ a, a < 0 → ∀ b, b < 0 → a ≠ b → (TJ9 a).2.1 ≠ (TJ9 b).2.1 := by decide +kernel
theorem tyJ9_ok : ∀ k, k < 0 → parseFieldDescriptor (TJ9 k).2.2.1 = some (tyJ9 k) := by decide +kernel
abbrev cJ9_max_7cf53 : ByteArray := prog_12_method_65_code
def yJ9_max_7cf53 : MethodName := ⟨RJ9, "max", "(II)I"⟩
abbrev cJ9_min_7cf53 : ByteArray := prog_12_method_69_code
def yJ9_min_7cf53 : MethodName := ⟨RJ9, "min", "(II)I"⟩
def RJ10 : String := "java/lang/System"
def TJ10 : u_T := fun k => match k with
  | _ => ("", "", "", false)
def tyJ10 : Nat → FieldType := fun k => match k with
  | _ => .int
abbrev wsJ100 : List Cond := u_ws RJ10 TJ10 0
theorem nmJ10 : ∀ a, a < 0 → ∀ b, b < 0 → a ≠ b → (TJ10 a).2.1 ≠ (TJ10 b).2.1 := by decide +kernel
theorem tyJ10_ok : ∀ k, k < 0 → parseFieldDescriptor (TJ10 k).2.2.1 = some (tyJ10 k) := by decide +kernel
def RL : String := "PortraitYearsLaw"
abbrev cL_law : ByteArray := code
def yL_law : MethodName := ⟨RL, "law", "([I)Z"⟩
abbrev vwCl : List vw_C := [(RX0, TX0, 3), (RX1, TX1, 2), (RX2, TX2, 12), (RX3, TX3, 6), (RX4, TX4, 3), (RX5, TX5, 9), (RX6, TX6, 5), (RX7, TX7, 11), (RX8, TX8, 24)]
