section
-- ===== PART A: goes FIRST, ahead of the names: the tables' words, and 'selects' of the private methods out of them =====
/-- a private method of a class that the tables say can be made, by its rows of tables_1 -/
def lw_okq (q : MethodName × Nat) : Prop := (q.1.cls ≠ "java/lang/invoke/MethodHandle" ∧ q.1.cls ≠ "java/lang/invoke/VarHandle") ∧ Cond.instantiable q.1.cls q.2 ∈ tables_1 ∧ Cond.privateMethod q.1 ∈ tables_1 ∧ Cond.instanceMethod q.1 ∈ tables_1
theorem lw_p0 : lw_okq (⟨"MinorSteps", "startLoading", "()V"⟩, 14) := ⟨⟨by decide +kernel, by decide +kernel⟩, List.mem_of_getElem? (i := 9) (by decide +kernel), List.mem_of_getElem? (i := 71) (by decide +kernel), List.mem_of_getElem? (i := 72) (by decide +kernel)⟩
theorem lw_p1 : lw_okq (⟨"MinorSteps", "isPlace", "(II)Z"⟩, 14) := ⟨⟨by decide +kernel, by decide +kernel⟩, List.mem_of_getElem? (i := 9) (by decide +kernel), List.mem_of_getElem? (i := 133) (by decide +kernel), List.mem_of_getElem? (i := 134) (by decide +kernel)⟩
theorem lw_p2 : lw_okq (⟨"MinorSteps", "slotAt", "(II)I"⟩, 14) := ⟨⟨by decide +kernel, by decide +kernel⟩, List.mem_of_getElem? (i := 9) (by decide +kernel), List.mem_of_getElem? (i := 137) (by decide +kernel), List.mem_of_getElem? (i := 138) (by decide +kernel)⟩
theorem lw_p3 : lw_okq (⟨"MinorSteps", "isEnded", "()Z"⟩, 14) := ⟨⟨by decide +kernel, by decide +kernel⟩, List.mem_of_getElem? (i := 9) (by decide +kernel), List.mem_of_getElem? (i := 157) (by decide +kernel), List.mem_of_getElem? (i := 158) (by decide +kernel)⟩
theorem lw_p4 : lw_okq (⟨"MinorSteps", "endLoading", "()V"⟩, 14) := ⟨⟨by decide +kernel, by decide +kernel⟩, List.mem_of_getElem? (i := 9) (by decide +kernel), List.mem_of_getElem? (i := 161) (by decide +kernel), List.mem_of_getElem? (i := 162) (by decide +kernel)⟩
theorem lw_p5 : lw_okq (⟨"MinorSteps", "eliminateColumn", "(I)I"⟩, 14) := ⟨⟨by decide +kernel, by decide +kernel⟩, List.mem_of_getElem? (i := 9) (by decide +kernel), List.mem_of_getElem? (i := 172) (by decide +kernel), List.mem_of_getElem? (i := 173) (by decide +kernel)⟩
theorem lw_p6 : lw_okq (⟨"MinorSteps", "findPivotRow", "(I)I"⟩, 14) := ⟨⟨by decide +kernel, by decide +kernel⟩, List.mem_of_getElem? (i := 9) (by decide +kernel), List.mem_of_getElem? (i := 176) (by decide +kernel), List.mem_of_getElem? (i := 177) (by decide +kernel)⟩
theorem lw_p7 : lw_okq (⟨"MinorSteps", "swapRows", "(II)V"⟩, 14) := ⟨⟨by decide +kernel, by decide +kernel⟩, List.mem_of_getElem? (i := 9) (by decide +kernel), List.mem_of_getElem? (i := 184) (by decide +kernel), List.mem_of_getElem? (i := 185) (by decide +kernel)⟩
theorem lw_p8 : lw_okq (⟨"MinorSteps", "makeMinor", "(III)Z"⟩, 14) := ⟨⟨by decide +kernel, by decide +kernel⟩, List.mem_of_getElem? (i := 9) (by decide +kernel), List.mem_of_getElem? (i := 188) (by decide +kernel), List.mem_of_getElem? (i := 189) (by decide +kernel)⟩
theorem lw_p9 : lw_okq (⟨"MinorSteps$Sum", "compareSides", "()I"⟩, 6) := ⟨⟨by decide +kernel, by decide +kernel⟩, List.mem_of_getElem? (i := 46) (by decide +kernel), List.mem_of_getElem? (i := 218) (by decide +kernel), List.mem_of_getElem? (i := 219) (by decide +kernel)⟩
theorem lw_p10 : lw_okq (⟨"MinorSteps$Sum", "countZeroLimbs", "(I)I"⟩, 6) := ⟨⟨by decide +kernel, by decide +kernel⟩, List.mem_of_getElem? (i := 46) (by decide +kernel), List.mem_of_getElem? (i := 229) (by decide +kernel), List.mem_of_getElem? (i := 230) (by decide +kernel)⟩
theorem lw_p11 : lw_okq (⟨"MinorSteps$Sum", "divideByOdd", "(II)V"⟩, 6) := ⟨⟨by decide +kernel, by decide +kernel⟩, List.mem_of_getElem? (i := 46) (by decide +kernel), List.mem_of_getElem? (i := 239) (by decide +kernel), List.mem_of_getElem? (i := 240) (by decide +kernel)⟩
theorem lw_p12 : lw_okq (⟨"MinorSteps$Sum", "takeMultiple", "(IIIJ)V"⟩, 6) := ⟨⟨by decide +kernel, by decide +kernel⟩, List.mem_of_getElem? (i := 46) (by decide +kernel), List.mem_of_getElem? (i := 248) (by decide +kernel), List.mem_of_getElem? (i := 249) (by decide +kernel)⟩
theorem lw_p13 : lw_okq (⟨"MinorSteps", "solveRow", "(I)I"⟩, 14) := ⟨⟨by decide +kernel, by decide +kernel⟩, List.mem_of_getElem? (i := 9) (by decide +kernel), List.mem_of_getElem? (i := 260) (by decide +kernel), List.mem_of_getElem? (i := 261) (by decide +kernel)⟩
theorem lw_p14 : lw_okq (⟨"MinorSteps", "finishOutcome", "()V"⟩, 14) := ⟨⟨by decide +kernel, by decide +kernel⟩, List.mem_of_getElem? (i := 9) (by decide +kernel), List.mem_of_getElem? (i := 264) (by decide +kernel), List.mem_of_getElem? (i := 265) (by decide +kernel)⟩
theorem lw_p15 : lw_okq (⟨"MinorSteps", "equationHolds", "(I)Z"⟩, 14) := ⟨⟨by decide +kernel, by decide +kernel⟩, List.mem_of_getElem? (i := 9) (by decide +kernel), List.mem_of_getElem? (i := 309) (by decide +kernel), List.mem_of_getElem? (i := 310) (by decide +kernel)⟩
def lw_privs_1 : List (MethodName × Nat) := [(⟨"MinorSteps", "startLoading", "()V"⟩, 14), (⟨"MinorSteps", "isPlace", "(II)Z"⟩, 14), (⟨"MinorSteps", "slotAt", "(II)I"⟩, 14), (⟨"MinorSteps", "isEnded", "()Z"⟩, 14), (⟨"MinorSteps", "endLoading", "()V"⟩, 14), (⟨"MinorSteps", "eliminateColumn", "(I)I"⟩, 14), (⟨"MinorSteps", "findPivotRow", "(I)I"⟩, 14), (⟨"MinorSteps", "swapRows", "(II)V"⟩, 14), (⟨"MinorSteps", "makeMinor", "(III)Z"⟩, 14), (⟨"MinorSteps$Sum", "compareSides", "()I"⟩, 6), (⟨"MinorSteps$Sum", "countZeroLimbs", "(I)I"⟩, 6), (⟨"MinorSteps$Sum", "divideByOdd", "(II)V"⟩, 6), (⟨"MinorSteps$Sum", "takeMultiple", "(IIIJ)V"⟩, 6), (⟨"MinorSteps", "solveRow", "(I)I"⟩, 14), (⟨"MinorSteps", "finishOutcome", "()V"⟩, 14), (⟨"MinorSteps", "equationHolds", "(I)Z"⟩, 14)]
theorem lw_r1 : ∀ q ∈ lw_privs_1, lw_okq q := List.forall_mem_cons.mpr ⟨lw_p0, List.forall_mem_cons.mpr ⟨lw_p1, List.forall_mem_cons.mpr ⟨lw_p2, List.forall_mem_cons.mpr ⟨lw_p3, List.forall_mem_cons.mpr ⟨lw_p4, List.forall_mem_cons.mpr ⟨lw_p5, List.forall_mem_cons.mpr ⟨lw_p6, List.forall_mem_cons.mpr ⟨lw_p7, List.forall_mem_cons.mpr ⟨lw_p8, List.forall_mem_cons.mpr ⟨lw_p9, List.forall_mem_cons.mpr ⟨lw_p10, List.forall_mem_cons.mpr ⟨lw_p11, List.forall_mem_cons.mpr ⟨lw_p12, List.forall_mem_cons.mpr ⟨lw_p13, List.forall_mem_cons.mpr ⟨lw_p14, List.forall_mem_cons.mpr ⟨lw_p15, fun _ h => absurd h List.not_mem_nil⟩⟩⟩⟩⟩⟩⟩⟩⟩⟩⟩⟩⟩⟩⟩⟩
theorem lw_p16 : lw_okq (⟨"MinorStepsModel", "isPlace", "(II)Z"⟩, 12) := ⟨⟨by decide +kernel, by decide +kernel⟩, List.mem_of_getElem? (i := 320) (by decide +kernel), List.mem_of_getElem? (i := 372) (by decide +kernel), List.mem_of_getElem? (i := 373) (by decide +kernel)⟩
theorem lw_p17 : lw_okq (⟨"MinorStepsModel", "place", "(II)I"⟩, 12) := ⟨⟨by decide +kernel, by decide +kernel⟩, List.mem_of_getElem? (i := 320) (by decide +kernel), List.mem_of_getElem? (i := 376) (by decide +kernel), List.mem_of_getElem? (i := 377) (by decide +kernel)⟩
theorem lw_p18 : lw_okq (⟨"MinorStepsModel", "clear", "(I)V"⟩, 12) := ⟨⟨by decide +kernel, by decide +kernel⟩, List.mem_of_getElem? (i := 320) (by decide +kernel), List.mem_of_getElem? (i := 380) (by decide +kernel), List.mem_of_getElem? (i := 381) (by decide +kernel)⟩
theorem lw_p19 : lw_okq (⟨"MinorStepsModel", "eliminate", "(I)I"⟩, 12) := ⟨⟨by decide +kernel, by decide +kernel⟩, List.mem_of_getElem? (i := 320) (by decide +kernel), List.mem_of_getElem? (i := 392) (by decide +kernel), List.mem_of_getElem? (i := 393) (by decide +kernel)⟩
theorem lw_p20 : lw_okq (⟨"MinorStepsModel", "swap", "(II)V"⟩, 12) := ⟨⟨by decide +kernel, by decide +kernel⟩, List.mem_of_getElem? (i := 320) (by decide +kernel), List.mem_of_getElem? (i := 396) (by decide +kernel), List.mem_of_getElem? (i := 397) (by decide +kernel)⟩
theorem lw_p21 : lw_okq (⟨"MinorStepsModel", "copy", "(II)V"⟩, 12) := ⟨⟨by decide +kernel, by decide +kernel⟩, List.mem_of_getElem? (i := 320) (by decide +kernel), List.mem_of_getElem? (i := 400) (by decide +kernel), List.mem_of_getElem? (i := 401) (by decide +kernel)⟩
theorem lw_p22 : lw_okq (⟨"MinorStepsModel", "multiply", "(II)V"⟩, 12) := ⟨⟨by decide +kernel, by decide +kernel⟩, List.mem_of_getElem? (i := 320) (by decide +kernel), List.mem_of_getElem? (i := 404) (by decide +kernel), List.mem_of_getElem? (i := 405) (by decide +kernel)⟩
theorem lw_p23 : lw_okq (⟨"MinorStepsModel", "count", "(I)I"⟩, 12) := ⟨⟨by decide +kernel, by decide +kernel⟩, List.mem_of_getElem? (i := 320) (by decide +kernel), List.mem_of_getElem? (i := 408) (by decide +kernel), List.mem_of_getElem? (i := 409) (by decide +kernel)⟩
theorem lw_p24 : lw_okq (⟨"MinorStepsModel", "less", "()V"⟩, 12) := ⟨⟨by decide +kernel, by decide +kernel⟩, List.mem_of_getElem? (i := 320) (by decide +kernel), List.mem_of_getElem? (i := 413) (by decide +kernel), List.mem_of_getElem? (i := 414) (by decide +kernel)⟩
theorem lw_p25 : lw_okq (⟨"MinorStepsModel", "join", "(IIZI)V"⟩, 12) := ⟨⟨by decide +kernel, by decide +kernel⟩, List.mem_of_getElem? (i := 320) (by decide +kernel), List.mem_of_getElem? (i := 417) (by decide +kernel), List.mem_of_getElem? (i := 418) (by decide +kernel)⟩
theorem lw_p26 : lw_okq (⟨"MinorStepsModel", "compare", "(II)I"⟩, 12) := ⟨⟨by decide +kernel, by decide +kernel⟩, List.mem_of_getElem? (i := 320) (by decide +kernel), List.mem_of_getElem? (i := 421) (by decide +kernel), List.mem_of_getElem? (i := 422) (by decide +kernel)⟩
theorem lw_p27 : lw_okq (⟨"MinorStepsModel", "divide", "(I)V"⟩, 12) := ⟨⟨by decide +kernel, by decide +kernel⟩, List.mem_of_getElem? (i := 320) (by decide +kernel), List.mem_of_getElem? (i := 425) (by decide +kernel), List.mem_of_getElem? (i := 426) (by decide +kernel)⟩
theorem lw_p28 : lw_okq (⟨"MinorStepsModel", "zeros", "(I)I"⟩, 12) := ⟨⟨by decide +kernel, by decide +kernel⟩, List.mem_of_getElem? (i := 320) (by decide +kernel), List.mem_of_getElem? (i := 429) (by decide +kernel), List.mem_of_getElem? (i := 430) (by decide +kernel)⟩
theorem lw_p29 : lw_okq (⟨"MinorStepsModel", "shift", "(III)V"⟩, 12) := ⟨⟨by decide +kernel, by decide +kernel⟩, List.mem_of_getElem? (i := 320) (by decide +kernel), List.mem_of_getElem? (i := 433) (by decide +kernel), List.mem_of_getElem? (i := 434) (by decide +kernel)⟩
theorem lw_p30 : lw_okq (⟨"MinorStepsModel", "insert", "(I)I"⟩, 12) := ⟨⟨by decide +kernel, by decide +kernel⟩, List.mem_of_getElem? (i := 320) (by decide +kernel), List.mem_of_getElem? (i := 438) (by decide +kernel), List.mem_of_getElem? (i := 439) (by decide +kernel)⟩
theorem lw_p31 : lw_okq (⟨"MinorStepsModel", "told", "(III)I"⟩, 12) := ⟨⟨by decide +kernel, by decide +kernel⟩, List.mem_of_getElem? (i := 320) (by decide +kernel), List.mem_of_getElem? (i := 454) (by decide +kernel), List.mem_of_getElem? (i := 455) (by decide +kernel)⟩
def lw_privs_2 : List (MethodName × Nat) := [(⟨"MinorStepsModel", "isPlace", "(II)Z"⟩, 12), (⟨"MinorStepsModel", "place", "(II)I"⟩, 12), (⟨"MinorStepsModel", "clear", "(I)V"⟩, 12), (⟨"MinorStepsModel", "eliminate", "(I)I"⟩, 12), (⟨"MinorStepsModel", "swap", "(II)V"⟩, 12), (⟨"MinorStepsModel", "copy", "(II)V"⟩, 12), (⟨"MinorStepsModel", "multiply", "(II)V"⟩, 12), (⟨"MinorStepsModel", "count", "(I)I"⟩, 12), (⟨"MinorStepsModel", "less", "()V"⟩, 12), (⟨"MinorStepsModel", "join", "(IIZI)V"⟩, 12), (⟨"MinorStepsModel", "compare", "(II)I"⟩, 12), (⟨"MinorStepsModel", "divide", "(I)V"⟩, 12), (⟨"MinorStepsModel", "zeros", "(I)I"⟩, 12), (⟨"MinorStepsModel", "shift", "(III)V"⟩, 12), (⟨"MinorStepsModel", "insert", "(I)I"⟩, 12), (⟨"MinorStepsModel", "told", "(III)I"⟩, 12)]
theorem lw_r2 : ∀ q ∈ lw_privs_2, lw_okq q := List.forall_mem_cons.mpr ⟨lw_p16, List.forall_mem_cons.mpr ⟨lw_p17, List.forall_mem_cons.mpr ⟨lw_p18, List.forall_mem_cons.mpr ⟨lw_p19, List.forall_mem_cons.mpr ⟨lw_p20, List.forall_mem_cons.mpr ⟨lw_p21, List.forall_mem_cons.mpr ⟨lw_p22, List.forall_mem_cons.mpr ⟨lw_p23, List.forall_mem_cons.mpr ⟨lw_p24, List.forall_mem_cons.mpr ⟨lw_p25, List.forall_mem_cons.mpr ⟨lw_p26, List.forall_mem_cons.mpr ⟨lw_p27, List.forall_mem_cons.mpr ⟨lw_p28, List.forall_mem_cons.mpr ⟨lw_p29, List.forall_mem_cons.mpr ⟨lw_p30, List.forall_mem_cons.mpr ⟨lw_p31, fun _ h => absurd h List.not_mem_nil⟩⟩⟩⟩⟩⟩⟩⟩⟩⟩⟩⟩⟩⟩⟩⟩
def lw_privs : List (MethodName × Nat) := lw_privs_1 ++ (lw_privs_2)
def lw_tbl : List Cond := k2_sels lw_privs ++ tables_1
theorem lw_privs_ok : ∀ q ∈ lw_privs, lw_okq q := by
  show ∀ q ∈ lw_privs_1 ++ (lw_privs_2), lw_okq q
  exact List.forall_mem_append.mpr ⟨lw_r1, lw_r2⟩
/-! ===== BEGIN words of one list among another's, by their places ===== -/
theorem goodIn_r {big : List Cond} (ws : List Cond) (ps : List Nat) (hp : ws = ps.filterMap (fun i => big[i]?)) (h : ws.all goodWord = true) : GoodIn big ws := by
  intro w hw
  have h1 := List.all_eq_true.mp h w hw
  rw [hp] at hw
  obtain ⟨i, -, hi⟩ := List.mem_filterMap.mp hw
  have hm : w ∈ big := by first | exact List.mem_of_getElem? hi | exact List.getElem?_mem hi
  exact ⟨hm, good_of_word h1⟩
theorem goodIn_app {big a b : List Cond} (ha : GoodIn big a) (hb : GoodIn big b) : GoodIn big (a ++ b) := fun w h => (List.mem_append.mp h).elim (ha w) (hb w)
theorem goodIn_ca {big a b : List Cond} {c : Cond} (ha : GoodIn big (c :: a)) (hb : GoodIn big b) : GoodIn big (c :: (a ++ b)) := fun w h => (List.mem_cons.mp h).elim (fun e => ha w (List.mem_cons.mpr (Or.inl e))) (fun h => (List.mem_append.mp h).elim (fun h => ha w (List.mem_cons.mpr (Or.inr h))) (hb w))
theorem goodIn_sub {big ws : List Cond} (hm : ∀ w ∈ ws, w ∈ big) (h : ws.all goodWord = true) : GoodIn big ws := fun w hw => ⟨hm w hw, good_of_word (List.all_eq_true.mp h w hw)⟩
/-! ===== END ===== -/

/-! ===== BEGIN printed: names, fields, word lists, decode rows ===== -/
def RX0 : String := "MinorSteps$Numbers"
def TX0 : u_T := fun k => match k with
  | 0 => ("MinorSteps$Numbers", "room", "I", true)
  | 1 => ("MinorSteps$Numbers", "signs", "[I", true)
  | 2 => ("MinorSteps$Numbers", "lengths", "[I", true)
  | _ => ("MinorSteps$Numbers", "limbs", "[I", true)
def tyX0 : Nat → FieldType := fun k => match k with
  | 0 => .int
  | 1 => .array .int
  | 2 => .array .int
  | _ => .array .int
abbrev wsX00 : List Cond := u_ws RX0 TX0 4
theorem nmX0 : ∀ a, a < 4 → ∀ b, b < 4 → a ≠ b → (TX0 a).2.1 ≠ (TX0 b).2.1 := by decide +kernel
theorem tyX0_ok : ∀ k, k < 4 → parseFieldDescriptor (TX0 k).2.2.1 = some (tyX0 k) := by decide +kernel
abbrev cX0_init : ByteArray := prog_2_method_1_code
def yX0_init : MethodName := ⟨RX0, "<init>", "(II)V"⟩
abbrev cX0_clearAll : ByteArray := prog_2_method_2_code
def yX0_clearAll : MethodName := ⟨RX0, "clearAll", "()V"⟩
abbrev cX0_clear : ByteArray := prog_2_method_3_code
def yX0_clear : MethodName := ⟨RX0, "clear", "(I)V"⟩
abbrev cX0_signOf : ByteArray := prog_2_method_4_code
def yX0_signOf : MethodName := ⟨RX0, "signOf", "(I)I"⟩
abbrev cX0_lengthOf : ByteArray := prog_2_method_5_code
def yX0_lengthOf : MethodName := ⟨RX0, "lengthOf", "(I)I"⟩
abbrev cX0_limbOf : ByteArray := prog_2_method_6_code
def yX0_limbOf : MethodName := ⟨RX0, "limbOf", "(II)I"⟩
abbrev cX0_putLimb : ByteArray := prog_2_method_7_code
def yX0_putLimb : MethodName := ⟨RX0, "putLimb", "(IIII)V"⟩
abbrev cX0_put : ByteArray := prog_2_method_8_code
def yX0_put : MethodName := ⟨RX0, "put", "(I[III)V"⟩
abbrev cX0_copy : ByteArray := prog_2_method_9_code
def yX0_copy : MethodName := ⟨RX0, "copy", "(ILMinorSteps$Numbers;I)V"⟩
abbrev cX0_negate : ByteArray := prog_2_method_10_code
def yX0_negate : MethodName := ⟨RX0, "negate", "(I)V"⟩
abbrev cX0_tell : ByteArray := prog_2_method_11_code
def yX0_tell : MethodName := ⟨RX0, "tell", "(II)I"⟩
def RX1 : String := "MinorSteps$Sum"
def TX1 : u_T := fun k => match k with
  | 0 => ("MinorSteps$Sum", "room", "I", true)
  | 1 => ("MinorSteps$Sum", "plus", "[I", true)
  | 2 => ("MinorSteps$Sum", "minus", "[I", true)
  | 3 => ("MinorSteps$Sum", "divisor", "[I", true)
  | 4 => ("MinorSteps$Sum", "sign", "I", false)
  | _ => ("MinorSteps$Sum", "length", "I", false)
def tyX1 : Nat → FieldType := fun k => match k with
  | 0 => .int
  | 1 => .array .int
  | 2 => .array .int
  | 3 => .array .int
  | 4 => .int
  | _ => .int
abbrev wsX10 : List Cond := u_ws RX1 TX1 6
theorem nmX1 : ∀ a, a < 6 → ∀ b, b < 6 → a ≠ b → (TX1 a).2.1 ≠ (TX1 b).2.1 := by decide +kernel
theorem tyX1_ok : ∀ k, k < 6 → parseFieldDescriptor (TX1 k).2.2.1 = some (tyX1 k) := by decide +kernel
abbrev cX1_init : ByteArray := prog_3_method_1_code
def yX1_init : MethodName := ⟨RX1, "<init>", "(I)V"⟩
abbrev cX1_clear : ByteArray := prog_3_method_2_code
def yX1_clear : MethodName := ⟨RX1, "clear", "()V"⟩
abbrev cX1_addProduct : ByteArray := prog_3_method_3_code
def yX1_addProduct : MethodName := ⟨RX1, "addProduct", "(LMinorSteps$Numbers;ILMinorSteps$Numbers;II)V"⟩
abbrev cX1_addMultiple : ByteArray := prog_3_method_4_code
def yX1_addMultiple : MethodName := ⟨RX1, "addMultiple", "([IILMinorSteps$Numbers;IJ)V"⟩
abbrev cX1_isZero : ByteArray := prog_3_method_5_code
def yX1_isZero : MethodName := ⟨RX1, "isZero", "()Z"⟩
abbrev cX1_settle : ByteArray := prog_3_method_6_code
def yX1_settle : MethodName := ⟨RX1, "settle", "()V"⟩
abbrev cX1_compareSides : ByteArray := prog_3_method_7_code
def yX1_compareSides : MethodName := ⟨RX1, "compareSides", "()I"⟩
abbrev cX1_divideBy : ByteArray := prog_3_method_8_code
def yX1_divideBy : MethodName := ⟨RX1, "divideBy", "(LMinorSteps$Numbers;I)V"⟩
abbrev cX1_divideByOdd : ByteArray := prog_3_method_9_code
def yX1_divideByOdd : MethodName := ⟨RX1, "divideByOdd", "(II)V"⟩
abbrev cX1_takeMultiple : ByteArray := prog_3_method_10_code
def yX1_takeMultiple : MethodName := ⟨RX1, "takeMultiple", "(IIIJ)V"⟩
abbrev cX1_countZeroLimbs : ByteArray := prog_3_method_11_code
def yX1_countZeroLimbs : MethodName := ⟨RX1, "countZeroLimbs", "(I)I"⟩
abbrev cX1_countZeroBits : ByteArray := prog_3_method_12_code
def yX1_countZeroBits : MethodName := ⟨RX1, "countZeroBits", "(I)I"⟩
abbrev cX1_shiftDown : ByteArray := prog_3_method_13_code
def yX1_shiftDown : MethodName := ⟨RX1, "shiftDown", "([IIII)V"⟩
abbrev cX1_inverseOf : ByteArray := prog_3_method_14_code
def yX1_inverseOf : MethodName := ⟨RX1, "inverseOf", "(I)I"⟩
abbrev cX1_trimmed : ByteArray := prog_3_method_15_code
def yX1_trimmed : MethodName := ⟨RX1, "trimmed", "([II)I"⟩
abbrev cX1_storeIn : ByteArray := prog_3_method_16_code
def yX1_storeIn : MethodName := ⟨RX1, "storeIn", "(LMinorSteps$Numbers;I)Z"⟩
def RX2 : String := "MinorSteps"
def TX2 : u_T := fun k => match k with
  | 0 => ("MinorSteps", "n", "I", true)
  | 1 => ("MinorSteps", "room", "I", true)
  | 2 => ("MinorSteps", "matrix", "LMinorSteps$Numbers;", true)
  | 3 => ("MinorSteps", "loaded", "LMinorSteps$Numbers;", true)
  | 4 => ("MinorSteps", "outcome", "LMinorSteps$Numbers;", true)
  | 5 => ("MinorSteps", "sum", "LMinorSteps$Sum;", true)
  | 6 => ("MinorSteps", "rowAt", "[I", true)
  | 7 => ("MinorSteps", "told", "I", false)
  | 8 => ("MinorSteps", "stepsDone", "I", false)
  | 9 => ("MinorSteps", "pivotsMade", "I", false)
  | 10 => ("MinorSteps", "oddSwaps", "Z", false)
  | 11 => ("MinorSteps", "chosen", "I", false)
  | 12 => ("MinorSteps", "chosenSign", "I", false)
  | _ => ("MinorSteps", "chosenLimbs", "I", false)
def tyX2 : Nat → FieldType := fun k => match k with
  | 0 => .int
  | 1 => .int
  | 2 => .object "MinorSteps$Numbers"
  | 3 => .object "MinorSteps$Numbers"
  | 4 => .object "MinorSteps$Numbers"
  | 5 => .object "MinorSteps$Sum"
  | 6 => .array .int
  | 7 => .int
  | 8 => .int
  | 9 => .int
  | 10 => .boolean
  | 11 => .int
  | 12 => .int
  | _ => .int
abbrev wsX20 : List Cond := u_ws RX2 TX2 14
theorem nmX2 : ∀ a, a < 14 → ∀ b, b < 14 → a ≠ b → (TX2 a).2.1 ≠ (TX2 b).2.1 := by decide +kernel
theorem tyX2_ok : ∀ k, k < 14 → parseFieldDescriptor (TX2 k).2.2.1 = some (tyX2 k) := by decide +kernel
abbrev cX2_init : ByteArray := prog_1_method_1_code
def yX2_init : MethodName := ⟨RX2, "<init>", "(II)V"⟩
abbrev cX2_reset : ByteArray := prog_1_method_2_code
def yX2_reset : MethodName := ⟨RX2, "reset", "()V"⟩
abbrev cX2_entry : ByteArray := prog_1_method_3_code
def yX2_entry : MethodName := ⟨RX2, "entry", "(III)Z"⟩
abbrev cX2_limb : ByteArray := prog_1_method_4_code
def yX2_limb : MethodName := ⟨RX2, "limb", "(I)Z"⟩
abbrev cX2_step : ByteArray := prog_1_method_5_code
def yX2_step : MethodName := ⟨RX2, "step", "()I"⟩
abbrev cX2_status : ByteArray := prog_1_method_6_code
def yX2_status : MethodName := ⟨RX2, "status", "()I"⟩
abbrev cX2_steps : ByteArray := prog_1_method_7_code
def yX2_steps : MethodName := ⟨RX2, "steps", "()I"⟩
abbrev cX2_determinant : ByteArray := prog_1_method_8_code
def yX2_determinant : MethodName := ⟨RX2, "determinant", "(I)I"⟩
abbrev cX2_numerator : ByteArray := prog_1_method_9_code
def yX2_numerator : MethodName := ⟨RX2, "numerator", "(II)I"⟩
abbrev cX2_pivot : ByteArray := prog_1_method_10_code
def yX2_pivot : MethodName := ⟨RX2, "pivot", "(II)I"⟩
abbrev cX2_number : ByteArray := prog_1_method_11_code
def yX2_number : MethodName := ⟨RX2, "number", "(III)I"⟩
abbrev cX2_row : ByteArray := prog_1_method_12_code
def yX2_row : MethodName := ⟨RX2, "row", "(I)I"⟩
abbrev cX2_holds : ByteArray := prog_1_method_13_code
def yX2_holds : MethodName := ⟨RX2, "holds", "()Z"⟩
abbrev cX2_within : ByteArray := prog_1_method_14_code
def yX2_within : MethodName := ⟨RX2, "within", "(II)I"⟩
abbrev cX2_startLoading : ByteArray := prog_1_method_15_code
def yX2_startLoading : MethodName := ⟨RX2, "startLoading", "()V"⟩
abbrev cX2_endLoading : ByteArray := prog_1_method_16_code
def yX2_endLoading : MethodName := ⟨RX2, "endLoading", "()V"⟩
abbrev cX2_isEnded : ByteArray := prog_1_method_17_code
def yX2_isEnded : MethodName := ⟨RX2, "isEnded", "()Z"⟩
abbrev cX2_isPlace : ByteArray := prog_1_method_18_code
def yX2_isPlace : MethodName := ⟨RX2, "isPlace", "(II)Z"⟩
abbrev cX2_slotAt : ByteArray := prog_1_method_19_code
def yX2_slotAt : MethodName := ⟨RX2, "slotAt", "(II)I"⟩
abbrev cX2_eliminateColumn : ByteArray := prog_1_method_20_code
def yX2_eliminateColumn : MethodName := ⟨RX2, "eliminateColumn", "(I)I"⟩
abbrev cX2_findPivotRow : ByteArray := prog_1_method_21_code
def yX2_findPivotRow : MethodName := ⟨RX2, "findPivotRow", "(I)I"⟩
abbrev cX2_swapRows : ByteArray := prog_1_method_22_code
def yX2_swapRows : MethodName := ⟨RX2, "swapRows", "(II)V"⟩
abbrev cX2_makeMinor : ByteArray := prog_1_method_23_code
def yX2_makeMinor : MethodName := ⟨RX2, "makeMinor", "(III)Z"⟩
abbrev cX2_solveRow : ByteArray := prog_1_method_24_code
def yX2_solveRow : MethodName := ⟨RX2, "solveRow", "(I)I"⟩
abbrev cX2_finishOutcome : ByteArray := prog_1_method_25_code
def yX2_finishOutcome : MethodName := ⟨RX2, "finishOutcome", "()V"⟩
abbrev cX2_equationHolds : ByteArray := prog_1_method_26_code
def yX2_equationHolds : MethodName := ⟨RX2, "equationHolds", "(I)Z"⟩
def RX3 : String := "MinorStepsModel"
def TX3 : u_T := fun k => match k with
  | 0 => ("MinorStepsModel", "n", "I", true)
  | 1 => ("MinorStepsModel", "room", "I", true)
  | 2 => ("MinorStepsModel", "limbs", "[I", true)
  | 3 => ("MinorStepsModel", "signs", "[I", true)
  | 4 => ("MinorStepsModel", "rows", "[I", true)
  | 5 => ("MinorStepsModel", "chosen", "I", false)
  | 6 => ("MinorStepsModel", "chosenSign", "I", false)
  | 7 => ("MinorStepsModel", "chosenLimbs", "I", false)
  | 8 => ("MinorStepsModel", "state", "I", false)
  | 9 => ("MinorStepsModel", "done", "I", false)
  | 10 => ("MinorStepsModel", "pivots", "I", false)
  | _ => ("MinorStepsModel", "odd", "Z", false)
def tyX3 : Nat → FieldType := fun k => match k with
  | 0 => .int
  | 1 => .int
  | 2 => .array .int
  | 3 => .array .int
  | 4 => .array .int
  | 5 => .int
  | 6 => .int
  | 7 => .int
  | 8 => .int
  | 9 => .int
  | 10 => .int
  | _ => .boolean
abbrev wsX30 : List Cond := u_ws RX3 TX3 12
theorem nmX3 : ∀ a, a < 12 → ∀ b, b < 12 → a ≠ b → (TX3 a).2.1 ≠ (TX3 b).2.1 := by decide +kernel
theorem tyX3_ok : ∀ k, k < 12 → parseFieldDescriptor (TX3 k).2.2.1 = some (tyX3 k) := by decide +kernel
abbrev cX3_init : ByteArray := prog_5_method_1_code
def yX3_init : MethodName := ⟨RX3, "<init>", "(II)V"⟩
abbrev cX3_reset : ByteArray := prog_5_method_3_code
def yX3_reset : MethodName := ⟨RX3, "reset", "()V"⟩
abbrev cX3_isPlace : ByteArray := prog_5_method_4_code
def yX3_isPlace : MethodName := ⟨RX3, "isPlace", "(II)Z"⟩
abbrev cX3_place : ByteArray := prog_5_method_5_code
def yX3_place : MethodName := ⟨RX3, "place", "(II)I"⟩
abbrev cX3_entry : ByteArray := prog_5_method_6_code
def yX3_entry : MethodName := ⟨RX3, "entry", "(III)Z"⟩
abbrev cX3_limb : ByteArray := prog_5_method_7_code
def yX3_limb : MethodName := ⟨RX3, "limb", "(I)Z"⟩
abbrev cX3_clear : ByteArray := prog_5_method_8_code
def yX3_clear : MethodName := ⟨RX3, "clear", "(I)V"⟩
abbrev cX3_copy : ByteArray := prog_5_method_9_code
def yX3_copy : MethodName := ⟨RX3, "copy", "(II)V"⟩
abbrev cX3_count : ByteArray := prog_5_method_10_code
def yX3_count : MethodName := ⟨RX3, "count", "(I)I"⟩
abbrev cX3_multiply : ByteArray := prog_5_method_11_code
def yX3_multiply : MethodName := ⟨RX3, "multiply", "(II)V"⟩
abbrev cX3_compare : ByteArray := prog_5_method_12_code
def yX3_compare : MethodName := ⟨RX3, "compare", "(II)I"⟩
abbrev cX3_join : ByteArray := prog_5_method_13_code
def yX3_join : MethodName := ⟨RX3, "join", "(IIZI)V"⟩
abbrev cX3_less : ByteArray := prog_5_method_14_code
def yX3_less : MethodName := ⟨RX3, "less", "()V"⟩
abbrev cX3_zeros : ByteArray := prog_5_method_15_code
def yX3_zeros : MethodName := ⟨RX3, "zeros", "(I)I"⟩
abbrev cX3_shift : ByteArray := prog_5_method_16_code
def yX3_shift : MethodName := ⟨RX3, "shift", "(III)V"⟩
abbrev cX3_divide : ByteArray := prog_5_method_17_code
def yX3_divide : MethodName := ⟨RX3, "divide", "(I)V"⟩
abbrev cX3_swap : ByteArray := prog_5_method_18_code
def yX3_swap : MethodName := ⟨RX3, "swap", "(II)V"⟩
abbrev cX3_eliminate : ByteArray := prog_5_method_19_code
def yX3_eliminate : MethodName := ⟨RX3, "eliminate", "(I)I"⟩
abbrev cX3_insert : ByteArray := prog_5_method_20_code
def yX3_insert : MethodName := ⟨RX3, "insert", "(I)I"⟩
abbrev cX3_step : ByteArray := prog_5_method_21_code
def yX3_step : MethodName := ⟨RX3, "step", "()I"⟩
abbrev cX3_status : ByteArray := prog_5_method_22_code
def yX3_status : MethodName := ⟨RX3, "status", "()I"⟩
abbrev cX3_steps : ByteArray := prog_5_method_23_code
def yX3_steps : MethodName := ⟨RX3, "steps", "()I"⟩
abbrev cX3_told : ByteArray := prog_5_method_24_code
def yX3_told : MethodName := ⟨RX3, "told", "(III)I"⟩
abbrev cX3_determinant : ByteArray := prog_5_method_25_code
def yX3_determinant : MethodName := ⟨RX3, "determinant", "(I)I"⟩
abbrev cX3_numerator : ByteArray := prog_5_method_26_code
def yX3_numerator : MethodName := ⟨RX3, "numerator", "(II)I"⟩
abbrev cX3_pivot : ByteArray := prog_5_method_27_code
def yX3_pivot : MethodName := ⟨RX3, "pivot", "(II)I"⟩
abbrev cX3_number : ByteArray := prog_5_method_28_code
def yX3_number : MethodName := ⟨RX3, "number", "(III)I"⟩
abbrev cX3_row : ByteArray := prog_5_method_29_code
def yX3_row : MethodName := ⟨RX3, "row", "(I)I"⟩
abbrev cX3_holds : ByteArray := prog_5_method_30_code
def yX3_holds : MethodName := ⟨RX3, "holds", "()Z"⟩
def RJ9 : String := "java/lang/Math"
def TJ9 : u_T := fun k => match k with
  | _ => ("", "", "", false)
def tyJ9 : Nat → FieldType := fun k => match k with
  | _ => .int
abbrev wsJ90 : List Cond := u_ws RJ9 TJ9 0
theorem nmJ9 : ∀ a, a < 0 → ∀ b, b < 0 → a ≠ b → (TJ9 a).2.1 ≠ (TJ9 b).2.1 := by decide +kernel
theorem tyJ9_ok : ∀ k, k < 0 → parseFieldDescriptor (TJ9 k).2.2.1 = some (tyJ9 k) := by decide +kernel
abbrev cJ9_max_7cf53 : ByteArray := prog_6_method_65_code
def yJ9_max_7cf53 : MethodName := ⟨RJ9, "max", "(II)I"⟩
abbrev cJ9_min_7cf53 : ByteArray := prog_6_method_69_code
def yJ9_min_7cf53 : MethodName := ⟨RJ9, "min", "(II)I"⟩
def RJ10 : String := "java/lang/System"
def TJ10 : u_T := fun k => match k with
  | _ => ("", "", "", false)
def tyJ10 : Nat → FieldType := fun k => match k with
  | _ => .int
abbrev wsJ100 : List Cond := u_ws RJ10 TJ10 0
theorem nmJ10 : ∀ a, a < 0 → ∀ b, b < 0 → a ≠ b → (TJ10 a).2.1 ≠ (TJ10 b).2.1 := by decide +kernel
theorem tyJ10_ok : ∀ k, k < 0 → parseFieldDescriptor (TJ10 k).2.2.1 = some (tyJ10 k) := by decide +kernel
def RJ7 : String := "java/util/Arrays"
def TJ7 : u_T := fun k => match k with
  | _ => ("", "", "", false)
def tyJ7 : Nat → FieldType := fun k => match k with
  | _ => .int
abbrev wsJ70 : List Cond := u_ws RJ7 TJ7 0
theorem nmJ7 : ∀ a, a < 0 → ∀ b, b < 0 → a ≠ b → (TJ7 a).2.1 ≠ (TJ7 b).2.1 := by decide +kernel
theorem tyJ7_ok : ∀ k, k < 0 → parseFieldDescriptor (TJ7 k).2.2.1 = some (tyJ7 k) := by decide +kernel
abbrev cJ7_fill_53178 : ByteArray := prog_8_method_103_code
def yJ7_fill_53178 : MethodName := ⟨RJ7, "fill", "([II)V"⟩
def RL : String := "MinorStepsLaw"
abbrev cL_cell : ByteArray := method_2_code
def yL_cell : MethodName := ⟨RL, "cell", "([II)I"⟩
abbrev cL_law : ByteArray := code
def yL_law : MethodName := ⟨RL, "law", "([I)Z"⟩
def wsX0_init : List Cond := .code yX0_init cX0_init 3 none :: ([.methodLink RX0 3 objectInit, .instanceMethod objectInit, .code objectInit ⟨#[0xb1]⟩ 1 none, .fieldLink RX0 9 "MinorSteps$Numbers" "room" "I", .arrayClass .int, .fieldLink RX0 15 "MinorSteps$Numbers" "signs" "[I", .fieldLink RX0 19 "MinorSteps$Numbers" "lengths" "[I", .fieldLink RX0 22 "MinorSteps$Numbers" "limbs" "[I"] ++ wsX00)
def wsJ7_fill_53178 : List Cond := .code yJ7_fill_53178 cJ7_fill_53178 4 none :: ([])
def wsX0_clearAll : List Cond := .code yX0_clearAll cX0_clearAll 1 none :: ([.fieldLink RX0 15 "MinorSteps$Numbers" "signs" "[I", .fieldLink RX0 19 "MinorSteps$Numbers" "lengths" "[I", .methodLink RX0 25 yJ7_fill_53178, .static yJ7_fill_53178, .initialized RJ7, .code yJ7_fill_53178 cJ7_fill_53178 4 none] ++ wsX00)
def wsX0_clear : List Cond := .code yX0_clear cX0_clear 2 none :: ([.fieldLink RX0 15 "MinorSteps$Numbers" "signs" "[I", .fieldLink RX0 19 "MinorSteps$Numbers" "lengths" "[I"] ++ wsX00)
def wsX0_signOf : List Cond := .code yX0_signOf cX0_signOf 2 (some .int) :: ([.fieldLink RX0 15 "MinorSteps$Numbers" "signs" "[I"] ++ wsX00)
def wsX0_lengthOf : List Cond := .code yX0_lengthOf cX0_lengthOf 2 (some .int) :: ([.fieldLink RX0 19 "MinorSteps$Numbers" "lengths" "[I"] ++ wsX00)
def wsX0_limbOf : List Cond := .code yX0_limbOf cX0_limbOf 3 (some .int) :: ([.fieldLink RX0 22 "MinorSteps$Numbers" "limbs" "[I", .fieldLink RX0 9 "MinorSteps$Numbers" "room" "I"] ++ wsX00)
def wsX0_putLimb : List Cond := .code yX0_putLimb cX0_putLimb 5 none :: ([.fieldLink RX0 22 "MinorSteps$Numbers" "limbs" "[I", .fieldLink RX0 9 "MinorSteps$Numbers" "room" "I", .fieldLink RX0 19 "MinorSteps$Numbers" "lengths" "[I", .fieldLink RX0 15 "MinorSteps$Numbers" "signs" "[I"] ++ wsX00)
def wsX0_put : List Cond := .code yX0_put cX0_put 5 none :: ([.fieldLink RX0 22 "MinorSteps$Numbers" "limbs" "[I", .fieldLink RX0 9 "MinorSteps$Numbers" "room" "I", .methodLink RX0 31 arraycopyName, .native arraycopyName, .static arraycopyName, .initialized "java/lang/System", .fieldLink RX0 19 "MinorSteps$Numbers" "lengths" "[I", .fieldLink RX0 15 "MinorSteps$Numbers" "signs" "[I"] ++ wsX00)
def wsX0_copy : List Cond := .code yX0_copy cX0_copy 4 none :: ([.fieldLink RX0 22 "MinorSteps$Numbers" "limbs" "[I", .fieldLink RX0 9 "MinorSteps$Numbers" "room" "I", .fieldLink RX0 19 "MinorSteps$Numbers" "lengths" "[I", .methodLink RX0 31 arraycopyName, .native arraycopyName, .static arraycopyName, .initialized "java/lang/System", .fieldLink RX0 15 "MinorSteps$Numbers" "signs" "[I"] ++ wsX00)
def wsX0_negate : List Cond := .code yX0_negate cX0_negate 2 none :: ([.fieldLink RX0 15 "MinorSteps$Numbers" "signs" "[I"] ++ wsX00)
def wsX0_tell : List Cond := .code yX0_tell cX0_tell 3 (some .int) :: ([.fieldLink RX0 15 "MinorSteps$Numbers" "signs" "[I", .fieldLink RX0 19 "MinorSteps$Numbers" "lengths" "[I", .methodLink RX0 37 yX0_limbOf, .instanceMethod yX0_limbOf, .selects RX0 yX0_limbOf yX0_limbOf, .initialized RX0, .code yX0_limbOf cX0_limbOf 3 (some .int), .fieldLink RX0 22 "MinorSteps$Numbers" "limbs" "[I", .fieldLink RX0 9 "MinorSteps$Numbers" "room" "I"] ++ wsX00)
def wsX1_init : List Cond := .code yX1_init cX1_init 2 none :: ([.methodLink RX1 3 objectInit, .instanceMethod objectInit, .code objectInit ⟨#[0xb1]⟩ 1 none, .fieldLink RX1 9 "MinorSteps$Sum" "room" "I", .arrayClass .int, .fieldLink RX1 15 "MinorSteps$Sum" "plus" "[I", .fieldLink RX1 19 "MinorSteps$Sum" "minus" "[I", .fieldLink RX1 22 "MinorSteps$Sum" "divisor" "[I"] ++ wsX10)
def wsX1_clear : List Cond := .code yX1_clear cX1_clear 1 none :: ([.fieldLink RX1 15 "MinorSteps$Sum" "plus" "[I", .fieldLink RX1 19 "MinorSteps$Sum" "minus" "[I", .fieldLink RX1 31 "MinorSteps$Sum" "sign" "I", .fieldLink RX1 34 "MinorSteps$Sum" "length" "I", .methodLink RX1 25 yJ7_fill_53178, .static yJ7_fill_53178, .initialized RJ7, .code yJ7_fill_53178 cJ7_fill_53178 4 none] ++ wsX10)
def wsX1_addMultiple : List Cond := .code yX1_addMultiple cX1_addMultiple 10 none :: ([.constantLong RX1 54 (2147483647), .methodLink RX1 43 yX0_lengthOf, .instanceMethod yX0_lengthOf, .selects RX0 yX0_lengthOf yX0_lengthOf, .initialized RX0, .code yX0_lengthOf cX0_lengthOf 2 (some .int), .fieldLink RX0 19 "MinorSteps$Numbers" "lengths" "[I", .methodLink RX1 46 yX0_limbOf, .instanceMethod yX0_limbOf, .selects RX0 yX0_limbOf yX0_limbOf, .code yX0_limbOf cX0_limbOf 3 (some .int), .fieldLink RX0 22 "MinorSteps$Numbers" "limbs" "[I", .fieldLink RX0 9 "MinorSteps$Numbers" "room" "I"] ++ wsX00)
def wsX1_addProduct : List Cond := .code yX1_addProduct cX1_addProduct 9 none :: ([.fieldLink RX1 15 "MinorSteps$Sum" "plus" "[I", .fieldLink RX1 19 "MinorSteps$Sum" "minus" "[I", .methodLink RX1 37 yX0_signOf, .instanceMethod yX0_signOf, .selects RX0 yX0_signOf yX0_signOf, .initialized RX0, .code yX0_signOf cX0_signOf 2 (some .int), .fieldLink RX0 15 "MinorSteps$Numbers" "signs" "[I", .methodLink RX1 43 yX0_lengthOf, .instanceMethod yX0_lengthOf, .selects RX0 yX0_lengthOf yX0_lengthOf, .code yX0_lengthOf cX0_lengthOf 2 (some .int), .fieldLink RX0 19 "MinorSteps$Numbers" "lengths" "[I", .methodLink RX1 46 yX0_limbOf, .instanceMethod yX0_limbOf, .selects RX0 yX0_limbOf yX0_limbOf, .code yX0_limbOf cX0_limbOf 3 (some .int), .fieldLink RX0 22 "MinorSteps$Numbers" "limbs" "[I", .fieldLink RX0 9 "MinorSteps$Numbers" "room" "I", .methodLink RX1 50 yX1_addMultiple, .static yX1_addMultiple, .initialized RX1, .code yX1_addMultiple cX1_addMultiple 10 none, .constantLong RX1 54 (2147483647)] ++ wsX10 ++ wsX00)
def wsX1_compareSides : List Cond := .code yX1_compareSides cX1_compareSides 2 (some .int) :: ([.fieldLink RX1 15 "MinorSteps$Sum" "plus" "[I", .fieldLink RX1 19 "MinorSteps$Sum" "minus" "[I"] ++ wsX10)
def wsX1_isZero : List Cond := .code yX1_isZero cX1_isZero 1 (some .boolean) :: ([.methodLink RX1 56 yX1_compareSides, .instanceMethod yX1_compareSides, .selects RX1 yX1_compareSides yX1_compareSides, .initialized RX1, .code yX1_compareSides cX1_compareSides 2 (some .int), .fieldLink RX1 15 "MinorSteps$Sum" "plus" "[I", .fieldLink RX1 19 "MinorSteps$Sum" "minus" "[I"] ++ wsX10)
def wsX1_trimmed : List Cond := .code yX1_trimmed cX1_trimmed 3 (some .int) :: ([])
def wsX1_settle : List Cond := .code yX1_settle cX1_settle 4 none :: ([.fieldLink RX1 31 "MinorSteps$Sum" "sign" "I", .fieldLink RX1 15 "MinorSteps$Sum" "plus" "[I", .fieldLink RX1 19 "MinorSteps$Sum" "minus" "[I", .constantLong RX1 54 (2147483647), .fieldLink RX1 34 "MinorSteps$Sum" "length" "I", .methodLink RX1 56 yX1_compareSides, .instanceMethod yX1_compareSides, .selects RX1 yX1_compareSides yX1_compareSides, .initialized RX1, .code yX1_compareSides cX1_compareSides 2 (some .int), .methodLink RX1 60 yX1_trimmed, .static yX1_trimmed, .code yX1_trimmed cX1_trimmed 3 (some .int)] ++ wsX10)
def wsX1_countZeroLimbs : List Cond := .code yX1_countZeroLimbs cX1_countZeroLimbs 3 (some .int) :: ([.fieldLink RX1 22 "MinorSteps$Sum" "divisor" "[I"] ++ wsX10)
def wsX1_countZeroBits : List Cond := .code yX1_countZeroBits cX1_countZeroBits 2 (some .int) :: ([])
def wsX1_shiftDown : List Cond := .code yX1_shiftDown cX1_shiftDown 9 none :: ([.constantLong RX1 54 (2147483647)])
def wsX1_inverseOf : List Cond := .code yX1_inverseOf cX1_inverseOf 3 (some .int) :: ([])
def wsX1_takeMultiple : List Cond := .code yX1_takeMultiple cX1_takeMultiple 9 none :: ([.fieldLink RX1 15 "MinorSteps$Sum" "plus" "[I", .fieldLink RX1 22 "MinorSteps$Sum" "divisor" "[I", .constantLong RX1 54 (2147483647)] ++ wsX10)
def wsX1_divideByOdd : List Cond := .code yX1_divideByOdd cX1_divideByOdd 7 none :: ([.methodLink RX1 78 Lib.Math.max.name, .static Lib.Math.max.name, .initialized "java/lang/Math", .code Lib.Math.max.name Lib.Math.max.code 2 (some .int), .fieldLink RX1 22 "MinorSteps$Sum" "divisor" "[I", .fieldLink RX1 15 "MinorSteps$Sum" "plus" "[I", .constant RX1 86 (2147483647), .fieldLink RX1 34 "MinorSteps$Sum" "length" "I", .methodLink RX1 83 yX1_inverseOf, .static yX1_inverseOf, .initialized RX1, .code yX1_inverseOf cX1_inverseOf 3 (some .int), .methodLink RX1 87 yX1_takeMultiple, .instanceMethod yX1_takeMultiple, .selects RX1 yX1_takeMultiple yX1_takeMultiple, .code yX1_takeMultiple cX1_takeMultiple 9 none, .constantLong RX1 54 (2147483647), .methodLink RX1 60 yX1_trimmed, .static yX1_trimmed, .code yX1_trimmed cX1_trimmed 3 (some .int)] ++ wsX10)
def wsX1_divideBy_r1 : List Cond := [Cond.fieldLink RX1 34 "MinorSteps$Sum" "length" "I", Cond.fieldLink RX1 22 "MinorSteps$Sum" "divisor" "[I", Cond.fieldLink RX1 15 "MinorSteps$Sum" "plus" "[I", Cond.fieldLink RX1 31 "MinorSteps$Sum" "sign" "I", Cond.methodLink RX1 43 yX0_lengthOf, Cond.instanceMethod yX0_lengthOf, Cond.selects RX0 yX0_lengthOf yX0_lengthOf, Cond.initialized RX0, Cond.code yX0_lengthOf cX0_lengthOf 2 (some .int), Cond.fieldLink RX0 19 "MinorSteps$Numbers" "lengths" "[I", Cond.methodLink RX1 46 yX0_limbOf, Cond.instanceMethod yX0_limbOf, Cond.selects RX0 yX0_limbOf yX0_limbOf, Cond.code yX0_limbOf cX0_limbOf 3 (some .int), Cond.fieldLink RX0 22 "MinorSteps$Numbers" "limbs" "[I", Cond.fieldLink RX0 9 "MinorSteps$Numbers" "room" "I", Cond.methodLink RX1 64 yX1_countZeroLimbs, Cond.instanceMethod yX1_countZeroLimbs, Cond.selects RX1 yX1_countZeroLimbs yX1_countZeroLimbs, Cond.initialized RX1, Cond.code yX1_countZeroLimbs cX1_countZeroLimbs 3 (some .int), Cond.methodLink RX1 67 yX1_countZeroBits, Cond.static yX1_countZeroBits, Cond.code yX1_countZeroBits cX1_countZeroBits 2 (some .int)]
def wsX1_divideBy_r2 : List Cond := [Cond.methodLink RX1 70 yX1_shiftDown, Cond.static yX1_shiftDown, Cond.code yX1_shiftDown cX1_shiftDown 9 none, Cond.constantLong RX1 54 (2147483647), Cond.methodLink RX1 60 yX1_trimmed, Cond.static yX1_trimmed, Cond.code yX1_trimmed cX1_trimmed 3 (some .int), Cond.methodLink RX1 74 yX1_divideByOdd, Cond.instanceMethod yX1_divideByOdd, Cond.selects RX1 yX1_divideByOdd yX1_divideByOdd, Cond.code yX1_divideByOdd cX1_divideByOdd 7 none, Cond.methodLink RX1 78 Lib.Math.max.name, Cond.static Lib.Math.max.name, Cond.initialized "java/lang/Math", Cond.code Lib.Math.max.name Lib.Math.max.code 2 (some .int), Cond.constant RX1 86 (2147483647), Cond.methodLink RX1 83 yX1_inverseOf, Cond.static yX1_inverseOf, Cond.code yX1_inverseOf cX1_inverseOf 3 (some .int), Cond.methodLink RX1 87 yX1_takeMultiple, Cond.instanceMethod yX1_takeMultiple, Cond.selects RX1 yX1_takeMultiple yX1_takeMultiple, Cond.code yX1_takeMultiple cX1_takeMultiple 9 none, Cond.methodLink RX1 37 yX0_signOf]
def wsX1_divideBy_r3 : List Cond := [Cond.instanceMethod yX0_signOf, Cond.selects RX0 yX0_signOf yX0_signOf, Cond.code yX0_signOf cX0_signOf 2 (some .int), Cond.fieldLink RX0 15 "MinorSteps$Numbers" "signs" "[I"]
def wsX1_divideBy : List Cond := .code yX1_divideBy cX1_divideBy 6 none :: ((wsX1_divideBy_r1 ++ (wsX1_divideBy_r2 ++ wsX1_divideBy_r3)) ++ wsX10 ++ wsX00)
def wsX1_storeIn : List Cond := .code yX1_storeIn cX1_storeIn 3 (some .boolean) :: ([.fieldLink RX1 34 "MinorSteps$Sum" "length" "I", .fieldLink RX1 9 "MinorSteps$Sum" "room" "I", .fieldLink RX1 15 "MinorSteps$Sum" "plus" "[I", .fieldLink RX1 31 "MinorSteps$Sum" "sign" "I", .methodLink RX1 91 yX0_put, .instanceMethod yX0_put, .selects RX0 yX0_put yX0_put, .initialized RX0, .code yX0_put cX0_put 5 none, .fieldLink RX0 22 "MinorSteps$Numbers" "limbs" "[I", .fieldLink RX0 9 "MinorSteps$Numbers" "room" "I", .methodLink RX0 31 arraycopyName, .native arraycopyName, .static arraycopyName, .initialized "java/lang/System", .fieldLink RX0 19 "MinorSteps$Numbers" "lengths" "[I", .fieldLink RX0 15 "MinorSteps$Numbers" "signs" "[I"] ++ wsX10 ++ wsX00)
def wsX2_within : List Cond := .code yX2_within cX2_within 2 (some .int) :: ([.methodLink RX2 104 Lib.Math.min.name, .static Lib.Math.min.name, .initialized "java/lang/Math", .code Lib.Math.min.name Lib.Math.min.code 2 (some .int), .methodLink RX2 109 Lib.Math.max.name, .static Lib.Math.max.name, .code Lib.Math.max.name Lib.Math.max.code 2 (some .int)])
def wsX2_startLoading : List Cond := .code yX2_startLoading cX2_startLoading 2 none :: ([.fieldLink RX2 25 "MinorSteps" "matrix" "LMinorSteps$Numbers;", .fieldLink RX2 13 "MinorSteps" "n" "I", .fieldLink RX2 44 "MinorSteps" "rowAt" "[I", .fieldLink RX2 51 "MinorSteps" "told" "I", .fieldLink RX2 84 "MinorSteps" "stepsDone" "I", .fieldLink RX2 97 "MinorSteps" "pivotsMade" "I", .fieldLink RX2 115 "MinorSteps" "oddSwaps" "Z", .fieldLink RX2 61 "MinorSteps" "chosen" "I", .fieldLink RX2 64 "MinorSteps" "chosenSign" "I", .fieldLink RX2 67 "MinorSteps" "chosenLimbs" "I", .methodLink RX2 112 yX0_clearAll, .instanceMethod yX0_clearAll, .selects RX0 yX0_clearAll yX0_clearAll, .initialized RX0, .code yX0_clearAll cX0_clearAll 1 none, .fieldLink RX0 15 "MinorSteps$Numbers" "signs" "[I", .fieldLink RX0 19 "MinorSteps$Numbers" "lengths" "[I", .methodLink RX0 25 yJ7_fill_53178, .static yJ7_fill_53178, .initialized RJ7, .code yJ7_fill_53178 cJ7_fill_53178 4 none] ++ wsX20 ++ wsX00)
def wsX2_init_r1 : List Cond := [Cond.methodLink RX2 1 objectInit, Cond.instanceMethod objectInit, Cond.code objectInit ⟨#[0xb1]⟩ 1 none, Cond.fieldLink RX2 13 "MinorSteps" "n" "I", Cond.fieldLink RX2 17 "MinorSteps" "room" "I", Cond.classLink RX2 20 RX0, Cond.instantiable RX0 4, Cond.initialized RX0, Cond.fieldLink RX2 25 "MinorSteps" "matrix" "LMinorSteps$Numbers;", Cond.fieldLink RX2 29 "MinorSteps" "loaded" "LMinorSteps$Numbers;", Cond.fieldLink RX2 32 "MinorSteps" "outcome" "LMinorSteps$Numbers;", Cond.classLink RX2 35 RX1, Cond.instantiable RX1 6, Cond.initialized RX1, Cond.fieldLink RX2 40 "MinorSteps" "sum" "LMinorSteps$Sum;", Cond.arrayClass .int, Cond.fieldLink RX2 44 "MinorSteps" "rowAt" "[I", Cond.methodLink RX2 9 yX2_within, Cond.static yX2_within, Cond.initialized RX2, Cond.code yX2_within cX2_within 2 (some .int), Cond.methodLink RX2 104 Lib.Math.min.name, Cond.static Lib.Math.min.name, Cond.initialized "java/lang/Math"]
def wsX2_init_r2 : List Cond := [Cond.code Lib.Math.min.name Lib.Math.min.code 2 (some .int), Cond.methodLink RX2 109 Lib.Math.max.name, Cond.static Lib.Math.max.name, Cond.code Lib.Math.max.name Lib.Math.max.code 2 (some .int), Cond.methodLink RX2 22 yX0_init, Cond.instanceMethod yX0_init, Cond.code yX0_init cX0_init 3 none, Cond.methodLink RX0 3 objectInit, Cond.fieldLink RX0 9 "MinorSteps$Numbers" "room" "I", Cond.fieldLink RX0 15 "MinorSteps$Numbers" "signs" "[I", Cond.fieldLink RX0 19 "MinorSteps$Numbers" "lengths" "[I", Cond.fieldLink RX0 22 "MinorSteps$Numbers" "limbs" "[I", Cond.methodLink RX2 37 yX1_init, Cond.instanceMethod yX1_init, Cond.code yX1_init cX1_init 2 none, Cond.methodLink RX1 3 objectInit, Cond.fieldLink RX1 9 "MinorSteps$Sum" "room" "I", Cond.fieldLink RX1 15 "MinorSteps$Sum" "plus" "[I", Cond.fieldLink RX1 19 "MinorSteps$Sum" "minus" "[I", Cond.fieldLink RX1 22 "MinorSteps$Sum" "divisor" "[I", Cond.methodLink RX2 48 yX2_startLoading, Cond.instanceMethod yX2_startLoading, Cond.selects RX2 yX2_startLoading yX2_startLoading, Cond.code yX2_startLoading cX2_startLoading 2 none]
def wsX2_init_r3 : List Cond := [Cond.fieldLink RX2 51 "MinorSteps" "told" "I", Cond.fieldLink RX2 84 "MinorSteps" "stepsDone" "I", Cond.fieldLink RX2 97 "MinorSteps" "pivotsMade" "I", Cond.fieldLink RX2 115 "MinorSteps" "oddSwaps" "Z", Cond.fieldLink RX2 61 "MinorSteps" "chosen" "I", Cond.fieldLink RX2 64 "MinorSteps" "chosenSign" "I", Cond.fieldLink RX2 67 "MinorSteps" "chosenLimbs" "I", Cond.methodLink RX2 112 yX0_clearAll, Cond.instanceMethod yX0_clearAll, Cond.selects RX0 yX0_clearAll yX0_clearAll, Cond.code yX0_clearAll cX0_clearAll 1 none, Cond.methodLink RX0 25 yJ7_fill_53178, Cond.static yJ7_fill_53178, Cond.initialized RJ7, Cond.code yJ7_fill_53178 cJ7_fill_53178 4 none]
def wsX2_init : List Cond := .code yX2_init cX2_init 3 none :: ((wsX2_init_r1 ++ (wsX2_init_r2 ++ wsX2_init_r3)) ++ wsX20 ++ wsX00 ++ wsX10)
def wsX2_reset_r1 : List Cond := [Cond.methodLink RX2 48 yX2_startLoading, Cond.instanceMethod yX2_startLoading, Cond.selects RX2 yX2_startLoading yX2_startLoading, Cond.initialized RX2, Cond.code yX2_startLoading cX2_startLoading 2 none, Cond.fieldLink RX2 25 "MinorSteps" "matrix" "LMinorSteps$Numbers;", Cond.fieldLink RX2 13 "MinorSteps" "n" "I", Cond.fieldLink RX2 44 "MinorSteps" "rowAt" "[I", Cond.fieldLink RX2 51 "MinorSteps" "told" "I", Cond.fieldLink RX2 84 "MinorSteps" "stepsDone" "I", Cond.fieldLink RX2 97 "MinorSteps" "pivotsMade" "I", Cond.fieldLink RX2 115 "MinorSteps" "oddSwaps" "Z", Cond.fieldLink RX2 61 "MinorSteps" "chosen" "I", Cond.fieldLink RX2 64 "MinorSteps" "chosenSign" "I", Cond.fieldLink RX2 67 "MinorSteps" "chosenLimbs" "I", Cond.methodLink RX2 112 yX0_clearAll, Cond.instanceMethod yX0_clearAll, Cond.selects RX0 yX0_clearAll yX0_clearAll, Cond.initialized RX0, Cond.code yX0_clearAll cX0_clearAll 1 none, Cond.fieldLink RX0 15 "MinorSteps$Numbers" "signs" "[I", Cond.fieldLink RX0 19 "MinorSteps$Numbers" "lengths" "[I", Cond.methodLink RX0 25 yJ7_fill_53178, Cond.static yJ7_fill_53178]
def wsX2_reset_r2 : List Cond := [Cond.initialized RJ7, Cond.code yJ7_fill_53178 cJ7_fill_53178 4 none]
def wsX2_reset : List Cond := .code yX2_reset cX2_reset 1 none :: ((wsX2_reset_r1 ++ wsX2_reset_r2) ++ wsX20 ++ wsX00)
def wsX2_isPlace : List Cond := .code yX2_isPlace cX2_isPlace 3 (some .boolean) :: ([.fieldLink RX2 13 "MinorSteps" "n" "I"] ++ wsX20)
def wsX2_slotAt : List Cond := .code yX2_slotAt cX2_slotAt 3 (some .int) :: ([.fieldLink RX2 44 "MinorSteps" "rowAt" "[I", .fieldLink RX2 13 "MinorSteps" "n" "I"] ++ wsX20)
def wsX2_entry : List Cond := .code yX2_entry cX2_entry 4 (some .boolean) :: ([.fieldLink RX2 51 "MinorSteps" "told" "I", .fieldLink RX2 61 "MinorSteps" "chosen" "I", .fieldLink RX2 64 "MinorSteps" "chosenSign" "I", .fieldLink RX2 67 "MinorSteps" "chosenLimbs" "I", .fieldLink RX2 25 "MinorSteps" "matrix" "LMinorSteps$Numbers;", .methodLink RX2 54 yX2_isPlace, .instanceMethod yX2_isPlace, .selects RX2 yX2_isPlace yX2_isPlace, .initialized RX2, .code yX2_isPlace cX2_isPlace 3 (some .boolean), .fieldLink RX2 13 "MinorSteps" "n" "I", .methodLink RX2 58 yX2_slotAt, .instanceMethod yX2_slotAt, .selects RX2 yX2_slotAt yX2_slotAt, .code yX2_slotAt cX2_slotAt 3 (some .int), .fieldLink RX2 44 "MinorSteps" "rowAt" "[I", .methodLink RX2 70 yX0_clear, .instanceMethod yX0_clear, .selects RX0 yX0_clear yX0_clear, .initialized RX0, .code yX0_clear cX0_clear 2 none, .fieldLink RX0 15 "MinorSteps$Numbers" "signs" "[I", .fieldLink RX0 19 "MinorSteps$Numbers" "lengths" "[I"] ++ wsX20 ++ wsX00)
def wsX2_limb : List Cond := .code yX2_limb cX2_limb 2 (some .boolean) :: ([.fieldLink RX2 61 "MinorSteps" "chosen" "I", .fieldLink RX2 64 "MinorSteps" "chosenSign" "I", .fieldLink RX2 67 "MinorSteps" "chosenLimbs" "I", .fieldLink RX2 17 "MinorSteps" "room" "I", .fieldLink RX2 25 "MinorSteps" "matrix" "LMinorSteps$Numbers;", .methodLink RX2 73 yX0_putLimb, .instanceMethod yX0_putLimb, .selects RX0 yX0_putLimb yX0_putLimb, .initialized RX0, .code yX0_putLimb cX0_putLimb 5 none, .fieldLink RX0 22 "MinorSteps$Numbers" "limbs" "[I", .fieldLink RX0 9 "MinorSteps$Numbers" "room" "I", .fieldLink RX0 19 "MinorSteps$Numbers" "lengths" "[I", .fieldLink RX0 15 "MinorSteps$Numbers" "signs" "[I"] ++ wsX20 ++ wsX00)
def wsX2_isEnded : List Cond := .code yX2_isEnded cX2_isEnded 1 (some .boolean) :: ([.fieldLink RX2 51 "MinorSteps" "told" "I"] ++ wsX20)
def wsX2_endLoading : List Cond := .code yX2_endLoading cX2_endLoading 2 none :: ([.fieldLink RX2 61 "MinorSteps" "chosen" "I", .fieldLink RX2 13 "MinorSteps" "n" "I", .fieldLink RX2 29 "MinorSteps" "loaded" "LMinorSteps$Numbers;", .fieldLink RX2 25 "MinorSteps" "matrix" "LMinorSteps$Numbers;", .methodLink RX2 119 yX0_copy, .instanceMethod yX0_copy, .selects RX0 yX0_copy yX0_copy, .initialized RX0, .code yX0_copy cX0_copy 4 none, .fieldLink RX0 22 "MinorSteps$Numbers" "limbs" "[I", .fieldLink RX0 9 "MinorSteps$Numbers" "room" "I", .fieldLink RX0 19 "MinorSteps$Numbers" "lengths" "[I", .methodLink RX0 31 arraycopyName, .native arraycopyName, .static arraycopyName, .initialized "java/lang/System", .fieldLink RX0 15 "MinorSteps$Numbers" "signs" "[I"] ++ wsX20 ++ wsX00)
def wsX2_findPivotRow : List Cond := .code yX2_findPivotRow cX2_findPivotRow 3 (some .int) :: ([.fieldLink RX2 13 "MinorSteps" "n" "I", .fieldLink RX2 25 "MinorSteps" "matrix" "LMinorSteps$Numbers;", .methodLink RX2 58 yX2_slotAt, .instanceMethod yX2_slotAt, .selects RX2 yX2_slotAt yX2_slotAt, .initialized RX2, .code yX2_slotAt cX2_slotAt 3 (some .int), .fieldLink RX2 44 "MinorSteps" "rowAt" "[I", .methodLink RX2 133 yX0_signOf, .instanceMethod yX0_signOf, .selects RX0 yX0_signOf yX0_signOf, .initialized RX0, .code yX0_signOf cX0_signOf 2 (some .int), .fieldLink RX0 15 "MinorSteps$Numbers" "signs" "[I"] ++ wsX20 ++ wsX00)
def wsX2_swapRows : List Cond := .code yX2_swapRows cX2_swapRows 4 none :: ([.fieldLink RX2 44 "MinorSteps" "rowAt" "[I", .fieldLink RX2 115 "MinorSteps" "oddSwaps" "Z"] ++ wsX20)
def wsX2_makeMinor_r1 : List Cond := [Cond.fieldLink RX2 40 "MinorSteps" "sum" "LMinorSteps$Sum;", Cond.fieldLink RX2 25 "MinorSteps" "matrix" "LMinorSteps$Numbers;", Cond.methodLink RX2 136 yX1_clear, Cond.instanceMethod yX1_clear, Cond.selects RX1 yX1_clear yX1_clear, Cond.initialized RX1, Cond.code yX1_clear cX1_clear 1 none, Cond.fieldLink RX1 15 "MinorSteps$Sum" "plus" "[I", Cond.fieldLink RX1 19 "MinorSteps$Sum" "minus" "[I", Cond.fieldLink RX1 31 "MinorSteps$Sum" "sign" "I", Cond.fieldLink RX1 34 "MinorSteps$Sum" "length" "I", Cond.methodLink RX1 25 yJ7_fill_53178, Cond.static yJ7_fill_53178, Cond.initialized RJ7, Cond.code yJ7_fill_53178 cJ7_fill_53178 4 none, Cond.methodLink RX2 58 yX2_slotAt, Cond.instanceMethod yX2_slotAt, Cond.selects RX2 yX2_slotAt yX2_slotAt, Cond.initialized RX2, Cond.code yX2_slotAt cX2_slotAt 3 (some .int), Cond.fieldLink RX2 44 "MinorSteps" "rowAt" "[I", Cond.fieldLink RX2 13 "MinorSteps" "n" "I", Cond.methodLink RX2 138 yX1_addProduct, Cond.instanceMethod yX1_addProduct]
def wsX2_makeMinor_r2 : List Cond := [Cond.selects RX1 yX1_addProduct yX1_addProduct, Cond.code yX1_addProduct cX1_addProduct 9 none, Cond.methodLink RX1 37 yX0_signOf, Cond.instanceMethod yX0_signOf, Cond.selects RX0 yX0_signOf yX0_signOf, Cond.initialized RX0, Cond.code yX0_signOf cX0_signOf 2 (some .int), Cond.fieldLink RX0 15 "MinorSteps$Numbers" "signs" "[I", Cond.methodLink RX1 43 yX0_lengthOf, Cond.instanceMethod yX0_lengthOf, Cond.selects RX0 yX0_lengthOf yX0_lengthOf, Cond.code yX0_lengthOf cX0_lengthOf 2 (some .int), Cond.fieldLink RX0 19 "MinorSteps$Numbers" "lengths" "[I", Cond.methodLink RX1 46 yX0_limbOf, Cond.instanceMethod yX0_limbOf, Cond.selects RX0 yX0_limbOf yX0_limbOf, Cond.code yX0_limbOf cX0_limbOf 3 (some .int), Cond.fieldLink RX0 22 "MinorSteps$Numbers" "limbs" "[I", Cond.fieldLink RX0 9 "MinorSteps$Numbers" "room" "I", Cond.methodLink RX1 50 yX1_addMultiple, Cond.static yX1_addMultiple, Cond.code yX1_addMultiple cX1_addMultiple 10 none, Cond.constantLong RX1 54 (2147483647), Cond.methodLink RX2 142 yX1_settle]
def wsX2_makeMinor_r3 : List Cond := [Cond.instanceMethod yX1_settle, Cond.selects RX1 yX1_settle yX1_settle, Cond.code yX1_settle cX1_settle 4 none, Cond.methodLink RX1 56 yX1_compareSides, Cond.instanceMethod yX1_compareSides, Cond.selects RX1 yX1_compareSides yX1_compareSides, Cond.code yX1_compareSides cX1_compareSides 2 (some .int), Cond.methodLink RX1 60 yX1_trimmed, Cond.static yX1_trimmed, Cond.code yX1_trimmed cX1_trimmed 3 (some .int), Cond.methodLink RX2 145 yX1_divideBy, Cond.instanceMethod yX1_divideBy, Cond.selects RX1 yX1_divideBy yX1_divideBy, Cond.code yX1_divideBy cX1_divideBy 6 none, Cond.fieldLink RX1 22 "MinorSteps$Sum" "divisor" "[I", Cond.methodLink RX1 64 yX1_countZeroLimbs, Cond.instanceMethod yX1_countZeroLimbs, Cond.selects RX1 yX1_countZeroLimbs yX1_countZeroLimbs, Cond.code yX1_countZeroLimbs cX1_countZeroLimbs 3 (some .int), Cond.methodLink RX1 67 yX1_countZeroBits, Cond.static yX1_countZeroBits, Cond.code yX1_countZeroBits cX1_countZeroBits 2 (some .int), Cond.methodLink RX1 70 yX1_shiftDown, Cond.static yX1_shiftDown]
def wsX2_makeMinor_r4 : List Cond := [Cond.code yX1_shiftDown cX1_shiftDown 9 none, Cond.methodLink RX1 74 yX1_divideByOdd, Cond.instanceMethod yX1_divideByOdd, Cond.selects RX1 yX1_divideByOdd yX1_divideByOdd, Cond.code yX1_divideByOdd cX1_divideByOdd 7 none, Cond.methodLink RX1 78 Lib.Math.max.name, Cond.static Lib.Math.max.name, Cond.initialized "java/lang/Math", Cond.code Lib.Math.max.name Lib.Math.max.code 2 (some .int), Cond.constant RX1 86 (2147483647), Cond.methodLink RX1 83 yX1_inverseOf, Cond.static yX1_inverseOf, Cond.code yX1_inverseOf cX1_inverseOf 3 (some .int), Cond.methodLink RX1 87 yX1_takeMultiple, Cond.instanceMethod yX1_takeMultiple, Cond.selects RX1 yX1_takeMultiple yX1_takeMultiple, Cond.code yX1_takeMultiple cX1_takeMultiple 9 none, Cond.methodLink RX2 149 yX1_storeIn, Cond.instanceMethod yX1_storeIn, Cond.selects RX1 yX1_storeIn yX1_storeIn, Cond.code yX1_storeIn cX1_storeIn 3 (some .boolean), Cond.fieldLink RX1 9 "MinorSteps$Sum" "room" "I", Cond.methodLink RX1 91 yX0_put, Cond.instanceMethod yX0_put]
def wsX2_makeMinor_r5 : List Cond := [Cond.selects RX0 yX0_put yX0_put, Cond.code yX0_put cX0_put 5 none, Cond.methodLink RX0 31 arraycopyName, Cond.native arraycopyName, Cond.static arraycopyName, Cond.initialized "java/lang/System"]
def wsX2_makeMinor : List Cond := .code yX2_makeMinor cX2_makeMinor 4 (some .boolean) :: ((wsX2_makeMinor_r1 ++ (wsX2_makeMinor_r2 ++ (wsX2_makeMinor_r3 ++ (wsX2_makeMinor_r4 ++ wsX2_makeMinor_r5)))) ++ wsX20 ++ wsX10 ++ wsX00)
def wsX2_eliminateColumn_r1 : List Cond := [Cond.fieldLink RX2 97 "MinorSteps" "pivotsMade" "I", Cond.fieldLink RX2 13 "MinorSteps" "n" "I", Cond.methodLink RX2 123 yX2_findPivotRow, Cond.instanceMethod yX2_findPivotRow, Cond.selects RX2 yX2_findPivotRow yX2_findPivotRow, Cond.initialized RX2, Cond.code yX2_findPivotRow cX2_findPivotRow 3 (some .int), Cond.fieldLink RX2 25 "MinorSteps" "matrix" "LMinorSteps$Numbers;", Cond.methodLink RX2 58 yX2_slotAt, Cond.instanceMethod yX2_slotAt, Cond.selects RX2 yX2_slotAt yX2_slotAt, Cond.code yX2_slotAt cX2_slotAt 3 (some .int), Cond.fieldLink RX2 44 "MinorSteps" "rowAt" "[I", Cond.methodLink RX2 133 yX0_signOf, Cond.instanceMethod yX0_signOf, Cond.selects RX0 yX0_signOf yX0_signOf, Cond.initialized RX0, Cond.code yX0_signOf cX0_signOf 2 (some .int), Cond.fieldLink RX0 15 "MinorSteps$Numbers" "signs" "[I", Cond.methodLink RX2 126 yX2_swapRows, Cond.instanceMethod yX2_swapRows, Cond.selects RX2 yX2_swapRows yX2_swapRows, Cond.code yX2_swapRows cX2_swapRows 4 none, Cond.fieldLink RX2 115 "MinorSteps" "oddSwaps" "Z"]
def wsX2_eliminateColumn_r2 : List Cond := [Cond.methodLink RX2 129 yX2_makeMinor, Cond.instanceMethod yX2_makeMinor, Cond.selects RX2 yX2_makeMinor yX2_makeMinor, Cond.code yX2_makeMinor cX2_makeMinor 4 (some .boolean), Cond.fieldLink RX2 40 "MinorSteps" "sum" "LMinorSteps$Sum;", Cond.methodLink RX2 136 yX1_clear, Cond.instanceMethod yX1_clear, Cond.selects RX1 yX1_clear yX1_clear, Cond.initialized RX1, Cond.code yX1_clear cX1_clear 1 none, Cond.fieldLink RX1 15 "MinorSteps$Sum" "plus" "[I", Cond.fieldLink RX1 19 "MinorSteps$Sum" "minus" "[I", Cond.fieldLink RX1 31 "MinorSteps$Sum" "sign" "I", Cond.fieldLink RX1 34 "MinorSteps$Sum" "length" "I", Cond.methodLink RX1 25 yJ7_fill_53178, Cond.static yJ7_fill_53178, Cond.initialized RJ7, Cond.code yJ7_fill_53178 cJ7_fill_53178 4 none, Cond.methodLink RX2 138 yX1_addProduct, Cond.instanceMethod yX1_addProduct, Cond.selects RX1 yX1_addProduct yX1_addProduct, Cond.code yX1_addProduct cX1_addProduct 9 none, Cond.methodLink RX1 37 yX0_signOf, Cond.methodLink RX1 43 yX0_lengthOf]
def wsX2_eliminateColumn_r3 : List Cond := [Cond.instanceMethod yX0_lengthOf, Cond.selects RX0 yX0_lengthOf yX0_lengthOf, Cond.code yX0_lengthOf cX0_lengthOf 2 (some .int), Cond.fieldLink RX0 19 "MinorSteps$Numbers" "lengths" "[I", Cond.methodLink RX1 46 yX0_limbOf, Cond.instanceMethod yX0_limbOf, Cond.selects RX0 yX0_limbOf yX0_limbOf, Cond.code yX0_limbOf cX0_limbOf 3 (some .int), Cond.fieldLink RX0 22 "MinorSteps$Numbers" "limbs" "[I", Cond.fieldLink RX0 9 "MinorSteps$Numbers" "room" "I", Cond.methodLink RX1 50 yX1_addMultiple, Cond.static yX1_addMultiple, Cond.code yX1_addMultiple cX1_addMultiple 10 none, Cond.constantLong RX1 54 (2147483647), Cond.methodLink RX2 142 yX1_settle, Cond.instanceMethod yX1_settle, Cond.selects RX1 yX1_settle yX1_settle, Cond.code yX1_settle cX1_settle 4 none, Cond.methodLink RX1 56 yX1_compareSides, Cond.instanceMethod yX1_compareSides, Cond.selects RX1 yX1_compareSides yX1_compareSides, Cond.code yX1_compareSides cX1_compareSides 2 (some .int), Cond.methodLink RX1 60 yX1_trimmed, Cond.static yX1_trimmed]
def wsX2_eliminateColumn_r4 : List Cond := [Cond.code yX1_trimmed cX1_trimmed 3 (some .int), Cond.methodLink RX2 145 yX1_divideBy, Cond.instanceMethod yX1_divideBy, Cond.selects RX1 yX1_divideBy yX1_divideBy, Cond.code yX1_divideBy cX1_divideBy 6 none, Cond.fieldLink RX1 22 "MinorSteps$Sum" "divisor" "[I", Cond.methodLink RX1 64 yX1_countZeroLimbs, Cond.instanceMethod yX1_countZeroLimbs, Cond.selects RX1 yX1_countZeroLimbs yX1_countZeroLimbs, Cond.code yX1_countZeroLimbs cX1_countZeroLimbs 3 (some .int), Cond.methodLink RX1 67 yX1_countZeroBits, Cond.static yX1_countZeroBits, Cond.code yX1_countZeroBits cX1_countZeroBits 2 (some .int), Cond.methodLink RX1 70 yX1_shiftDown, Cond.static yX1_shiftDown, Cond.code yX1_shiftDown cX1_shiftDown 9 none, Cond.methodLink RX1 74 yX1_divideByOdd, Cond.instanceMethod yX1_divideByOdd, Cond.selects RX1 yX1_divideByOdd yX1_divideByOdd, Cond.code yX1_divideByOdd cX1_divideByOdd 7 none, Cond.methodLink RX1 78 Lib.Math.max.name, Cond.static Lib.Math.max.name, Cond.initialized "java/lang/Math", Cond.code Lib.Math.max.name Lib.Math.max.code 2 (some .int)]
def wsX2_eliminateColumn_r5 : List Cond := [Cond.constant RX1 86 (2147483647), Cond.methodLink RX1 83 yX1_inverseOf, Cond.static yX1_inverseOf, Cond.code yX1_inverseOf cX1_inverseOf 3 (some .int), Cond.methodLink RX1 87 yX1_takeMultiple, Cond.instanceMethod yX1_takeMultiple, Cond.selects RX1 yX1_takeMultiple yX1_takeMultiple, Cond.code yX1_takeMultiple cX1_takeMultiple 9 none, Cond.methodLink RX2 149 yX1_storeIn, Cond.instanceMethod yX1_storeIn, Cond.selects RX1 yX1_storeIn yX1_storeIn, Cond.code yX1_storeIn cX1_storeIn 3 (some .boolean), Cond.fieldLink RX1 9 "MinorSteps$Sum" "room" "I", Cond.methodLink RX1 91 yX0_put, Cond.instanceMethod yX0_put, Cond.selects RX0 yX0_put yX0_put, Cond.code yX0_put cX0_put 5 none, Cond.methodLink RX0 31 arraycopyName, Cond.native arraycopyName, Cond.static arraycopyName, Cond.initialized "java/lang/System"]
def wsX2_eliminateColumn : List Cond := .code yX2_eliminateColumn cX2_eliminateColumn 5 (some .int) :: ((wsX2_eliminateColumn_r1 ++ (wsX2_eliminateColumn_r2 ++ (wsX2_eliminateColumn_r3 ++ (wsX2_eliminateColumn_r4 ++ wsX2_eliminateColumn_r5)))) ++ wsX20 ++ wsX00 ++ wsX10)
def wsX2_finishOutcome_r1 : List Cond := [Cond.fieldLink RX2 32 "MinorSteps" "outcome" "LMinorSteps$Numbers;", Cond.fieldLink RX2 13 "MinorSteps" "n" "I", Cond.fieldLink RX2 25 "MinorSteps" "matrix" "LMinorSteps$Numbers;", Cond.fieldLink RX2 115 "MinorSteps" "oddSwaps" "Z", Cond.methodLink RX2 58 yX2_slotAt, Cond.instanceMethod yX2_slotAt, Cond.selects RX2 yX2_slotAt yX2_slotAt, Cond.initialized RX2, Cond.code yX2_slotAt cX2_slotAt 3 (some .int), Cond.fieldLink RX2 44 "MinorSteps" "rowAt" "[I", Cond.methodLink RX2 119 yX0_copy, Cond.instanceMethod yX0_copy, Cond.selects RX0 yX0_copy yX0_copy, Cond.initialized RX0, Cond.code yX0_copy cX0_copy 4 none, Cond.fieldLink RX0 22 "MinorSteps$Numbers" "limbs" "[I", Cond.fieldLink RX0 9 "MinorSteps$Numbers" "room" "I", Cond.fieldLink RX0 19 "MinorSteps$Numbers" "lengths" "[I", Cond.methodLink RX0 31 arraycopyName, Cond.native arraycopyName, Cond.static arraycopyName, Cond.initialized "java/lang/System", Cond.fieldLink RX0 15 "MinorSteps$Numbers" "signs" "[I", Cond.methodLink RX2 156 yX0_negate]
def wsX2_finishOutcome_r2 : List Cond := [Cond.instanceMethod yX0_negate, Cond.selects RX0 yX0_negate yX0_negate, Cond.code yX0_negate cX0_negate 2 none]
def wsX2_finishOutcome : List Cond := .code yX2_finishOutcome cX2_finishOutcome 2 none :: ((wsX2_finishOutcome_r1 ++ wsX2_finishOutcome_r2) ++ wsX20 ++ wsX00)
def wsX2_solveRow_r1 : List Cond := [Cond.fieldLink RX2 40 "MinorSteps" "sum" "LMinorSteps$Sum;", Cond.fieldLink RX2 25 "MinorSteps" "matrix" "LMinorSteps$Numbers;", Cond.fieldLink RX2 13 "MinorSteps" "n" "I", Cond.fieldLink RX2 32 "MinorSteps" "outcome" "LMinorSteps$Numbers;", Cond.methodLink RX2 136 yX1_clear, Cond.instanceMethod yX1_clear, Cond.selects RX1 yX1_clear yX1_clear, Cond.initialized RX1, Cond.code yX1_clear cX1_clear 1 none, Cond.fieldLink RX1 15 "MinorSteps$Sum" "plus" "[I", Cond.fieldLink RX1 19 "MinorSteps$Sum" "minus" "[I", Cond.fieldLink RX1 31 "MinorSteps$Sum" "sign" "I", Cond.fieldLink RX1 34 "MinorSteps$Sum" "length" "I", Cond.methodLink RX1 25 yJ7_fill_53178, Cond.static yJ7_fill_53178, Cond.initialized RJ7, Cond.code yJ7_fill_53178 cJ7_fill_53178 4 none, Cond.methodLink RX2 58 yX2_slotAt, Cond.instanceMethod yX2_slotAt, Cond.selects RX2 yX2_slotAt yX2_slotAt, Cond.initialized RX2, Cond.code yX2_slotAt cX2_slotAt 3 (some .int), Cond.fieldLink RX2 44 "MinorSteps" "rowAt" "[I", Cond.methodLink RX2 138 yX1_addProduct]
def wsX2_solveRow_r2 : List Cond := [Cond.instanceMethod yX1_addProduct, Cond.selects RX1 yX1_addProduct yX1_addProduct, Cond.code yX1_addProduct cX1_addProduct 9 none, Cond.methodLink RX1 37 yX0_signOf, Cond.instanceMethod yX0_signOf, Cond.selects RX0 yX0_signOf yX0_signOf, Cond.initialized RX0, Cond.code yX0_signOf cX0_signOf 2 (some .int), Cond.fieldLink RX0 15 "MinorSteps$Numbers" "signs" "[I", Cond.methodLink RX1 43 yX0_lengthOf, Cond.instanceMethod yX0_lengthOf, Cond.selects RX0 yX0_lengthOf yX0_lengthOf, Cond.code yX0_lengthOf cX0_lengthOf 2 (some .int), Cond.fieldLink RX0 19 "MinorSteps$Numbers" "lengths" "[I", Cond.methodLink RX1 46 yX0_limbOf, Cond.instanceMethod yX0_limbOf, Cond.selects RX0 yX0_limbOf yX0_limbOf, Cond.code yX0_limbOf cX0_limbOf 3 (some .int), Cond.fieldLink RX0 22 "MinorSteps$Numbers" "limbs" "[I", Cond.fieldLink RX0 9 "MinorSteps$Numbers" "room" "I", Cond.methodLink RX1 50 yX1_addMultiple, Cond.static yX1_addMultiple, Cond.code yX1_addMultiple cX1_addMultiple 10 none, Cond.constantLong RX1 54 (2147483647)]
def wsX2_solveRow_r3 : List Cond := [Cond.methodLink RX2 142 yX1_settle, Cond.instanceMethod yX1_settle, Cond.selects RX1 yX1_settle yX1_settle, Cond.code yX1_settle cX1_settle 4 none, Cond.methodLink RX1 56 yX1_compareSides, Cond.instanceMethod yX1_compareSides, Cond.selects RX1 yX1_compareSides yX1_compareSides, Cond.code yX1_compareSides cX1_compareSides 2 (some .int), Cond.methodLink RX1 60 yX1_trimmed, Cond.static yX1_trimmed, Cond.code yX1_trimmed cX1_trimmed 3 (some .int), Cond.methodLink RX2 145 yX1_divideBy, Cond.instanceMethod yX1_divideBy, Cond.selects RX1 yX1_divideBy yX1_divideBy, Cond.code yX1_divideBy cX1_divideBy 6 none, Cond.fieldLink RX1 22 "MinorSteps$Sum" "divisor" "[I", Cond.methodLink RX1 64 yX1_countZeroLimbs, Cond.instanceMethod yX1_countZeroLimbs, Cond.selects RX1 yX1_countZeroLimbs yX1_countZeroLimbs, Cond.code yX1_countZeroLimbs cX1_countZeroLimbs 3 (some .int), Cond.methodLink RX1 67 yX1_countZeroBits, Cond.static yX1_countZeroBits, Cond.code yX1_countZeroBits cX1_countZeroBits 2 (some .int), Cond.methodLink RX1 70 yX1_shiftDown]
def wsX2_solveRow_r4 : List Cond := [Cond.static yX1_shiftDown, Cond.code yX1_shiftDown cX1_shiftDown 9 none, Cond.methodLink RX1 74 yX1_divideByOdd, Cond.instanceMethod yX1_divideByOdd, Cond.selects RX1 yX1_divideByOdd yX1_divideByOdd, Cond.code yX1_divideByOdd cX1_divideByOdd 7 none, Cond.methodLink RX1 78 Lib.Math.max.name, Cond.static Lib.Math.max.name, Cond.initialized "java/lang/Math", Cond.code Lib.Math.max.name Lib.Math.max.code 2 (some .int), Cond.constant RX1 86 (2147483647), Cond.methodLink RX1 83 yX1_inverseOf, Cond.static yX1_inverseOf, Cond.code yX1_inverseOf cX1_inverseOf 3 (some .int), Cond.methodLink RX1 87 yX1_takeMultiple, Cond.instanceMethod yX1_takeMultiple, Cond.selects RX1 yX1_takeMultiple yX1_takeMultiple, Cond.code yX1_takeMultiple cX1_takeMultiple 9 none, Cond.methodLink RX2 149 yX1_storeIn, Cond.instanceMethod yX1_storeIn, Cond.selects RX1 yX1_storeIn yX1_storeIn, Cond.code yX1_storeIn cX1_storeIn 3 (some .boolean), Cond.fieldLink RX1 9 "MinorSteps$Sum" "room" "I", Cond.methodLink RX1 91 yX0_put]
def wsX2_solveRow_r5 : List Cond := [Cond.instanceMethod yX0_put, Cond.selects RX0 yX0_put yX0_put, Cond.code yX0_put cX0_put 5 none, Cond.methodLink RX0 31 arraycopyName, Cond.native arraycopyName, Cond.static arraycopyName, Cond.initialized "java/lang/System", Cond.methodLink RX2 153 yX2_finishOutcome, Cond.instanceMethod yX2_finishOutcome, Cond.selects RX2 yX2_finishOutcome yX2_finishOutcome, Cond.code yX2_finishOutcome cX2_finishOutcome 2 none, Cond.fieldLink RX2 115 "MinorSteps" "oddSwaps" "Z", Cond.methodLink RX2 119 yX0_copy, Cond.instanceMethod yX0_copy, Cond.selects RX0 yX0_copy yX0_copy, Cond.code yX0_copy cX0_copy 4 none, Cond.methodLink RX2 156 yX0_negate, Cond.instanceMethod yX0_negate, Cond.selects RX0 yX0_negate yX0_negate, Cond.code yX0_negate cX0_negate 2 none]
def wsX2_solveRow : List Cond := .code yX2_solveRow cX2_solveRow 3 (some .int) :: ((wsX2_solveRow_r1 ++ (wsX2_solveRow_r2 ++ (wsX2_solveRow_r3 ++ (wsX2_solveRow_r4 ++ wsX2_solveRow_r5)))) ++ wsX20 ++ wsX10 ++ wsX00)
def wsX2_step_r1 : List Cond := [Cond.fieldLink RX2 51 "MinorSteps" "told" "I", Cond.fieldLink RX2 84 "MinorSteps" "stepsDone" "I", Cond.fieldLink RX2 13 "MinorSteps" "n" "I", Cond.methodLink RX2 77 yX2_isEnded, Cond.instanceMethod yX2_isEnded, Cond.selects RX2 yX2_isEnded yX2_isEnded, Cond.initialized RX2, Cond.code yX2_isEnded cX2_isEnded 1 (some .boolean), Cond.methodLink RX2 81 yX2_endLoading, Cond.instanceMethod yX2_endLoading, Cond.selects RX2 yX2_endLoading yX2_endLoading, Cond.code yX2_endLoading cX2_endLoading 2 none, Cond.fieldLink RX2 61 "MinorSteps" "chosen" "I", Cond.fieldLink RX2 29 "MinorSteps" "loaded" "LMinorSteps$Numbers;", Cond.fieldLink RX2 25 "MinorSteps" "matrix" "LMinorSteps$Numbers;", Cond.methodLink RX2 119 yX0_copy, Cond.instanceMethod yX0_copy, Cond.selects RX0 yX0_copy yX0_copy, Cond.initialized RX0, Cond.code yX0_copy cX0_copy 4 none, Cond.fieldLink RX0 22 "MinorSteps$Numbers" "limbs" "[I", Cond.fieldLink RX0 9 "MinorSteps$Numbers" "room" "I", Cond.fieldLink RX0 19 "MinorSteps$Numbers" "lengths" "[I", Cond.methodLink RX0 31 arraycopyName]
def wsX2_step_r2 : List Cond := [Cond.native arraycopyName, Cond.static arraycopyName, Cond.initialized "java/lang/System", Cond.fieldLink RX0 15 "MinorSteps$Numbers" "signs" "[I", Cond.methodLink RX2 87 yX2_eliminateColumn, Cond.instanceMethod yX2_eliminateColumn, Cond.selects RX2 yX2_eliminateColumn yX2_eliminateColumn, Cond.code yX2_eliminateColumn cX2_eliminateColumn 5 (some .int), Cond.fieldLink RX2 97 "MinorSteps" "pivotsMade" "I", Cond.methodLink RX2 123 yX2_findPivotRow, Cond.instanceMethod yX2_findPivotRow, Cond.selects RX2 yX2_findPivotRow yX2_findPivotRow, Cond.code yX2_findPivotRow cX2_findPivotRow 3 (some .int), Cond.methodLink RX2 58 yX2_slotAt, Cond.instanceMethod yX2_slotAt, Cond.selects RX2 yX2_slotAt yX2_slotAt, Cond.code yX2_slotAt cX2_slotAt 3 (some .int), Cond.fieldLink RX2 44 "MinorSteps" "rowAt" "[I", Cond.methodLink RX2 133 yX0_signOf, Cond.instanceMethod yX0_signOf, Cond.selects RX0 yX0_signOf yX0_signOf, Cond.code yX0_signOf cX0_signOf 2 (some .int), Cond.methodLink RX2 126 yX2_swapRows, Cond.instanceMethod yX2_swapRows]
def wsX2_step_r3 : List Cond := [Cond.selects RX2 yX2_swapRows yX2_swapRows, Cond.code yX2_swapRows cX2_swapRows 4 none, Cond.fieldLink RX2 115 "MinorSteps" "oddSwaps" "Z", Cond.methodLink RX2 129 yX2_makeMinor, Cond.instanceMethod yX2_makeMinor, Cond.selects RX2 yX2_makeMinor yX2_makeMinor, Cond.code yX2_makeMinor cX2_makeMinor 4 (some .boolean), Cond.fieldLink RX2 40 "MinorSteps" "sum" "LMinorSteps$Sum;", Cond.methodLink RX2 136 yX1_clear, Cond.instanceMethod yX1_clear, Cond.selects RX1 yX1_clear yX1_clear, Cond.initialized RX1, Cond.code yX1_clear cX1_clear 1 none, Cond.fieldLink RX1 15 "MinorSteps$Sum" "plus" "[I", Cond.fieldLink RX1 19 "MinorSteps$Sum" "minus" "[I", Cond.fieldLink RX1 31 "MinorSteps$Sum" "sign" "I", Cond.fieldLink RX1 34 "MinorSteps$Sum" "length" "I", Cond.methodLink RX1 25 yJ7_fill_53178, Cond.static yJ7_fill_53178, Cond.initialized RJ7, Cond.code yJ7_fill_53178 cJ7_fill_53178 4 none, Cond.methodLink RX2 138 yX1_addProduct, Cond.instanceMethod yX1_addProduct, Cond.selects RX1 yX1_addProduct yX1_addProduct]
def wsX2_step_r4 : List Cond := [Cond.code yX1_addProduct cX1_addProduct 9 none, Cond.methodLink RX1 37 yX0_signOf, Cond.methodLink RX1 43 yX0_lengthOf, Cond.instanceMethod yX0_lengthOf, Cond.selects RX0 yX0_lengthOf yX0_lengthOf, Cond.code yX0_lengthOf cX0_lengthOf 2 (some .int), Cond.methodLink RX1 46 yX0_limbOf, Cond.instanceMethod yX0_limbOf, Cond.selects RX0 yX0_limbOf yX0_limbOf, Cond.code yX0_limbOf cX0_limbOf 3 (some .int), Cond.methodLink RX1 50 yX1_addMultiple, Cond.static yX1_addMultiple, Cond.code yX1_addMultiple cX1_addMultiple 10 none, Cond.constantLong RX1 54 (2147483647), Cond.methodLink RX2 142 yX1_settle, Cond.instanceMethod yX1_settle, Cond.selects RX1 yX1_settle yX1_settle, Cond.code yX1_settle cX1_settle 4 none, Cond.methodLink RX1 56 yX1_compareSides, Cond.instanceMethod yX1_compareSides, Cond.selects RX1 yX1_compareSides yX1_compareSides, Cond.code yX1_compareSides cX1_compareSides 2 (some .int), Cond.methodLink RX1 60 yX1_trimmed, Cond.static yX1_trimmed]
def wsX2_step_r5 : List Cond := [Cond.code yX1_trimmed cX1_trimmed 3 (some .int), Cond.methodLink RX2 145 yX1_divideBy, Cond.instanceMethod yX1_divideBy, Cond.selects RX1 yX1_divideBy yX1_divideBy, Cond.code yX1_divideBy cX1_divideBy 6 none, Cond.fieldLink RX1 22 "MinorSteps$Sum" "divisor" "[I", Cond.methodLink RX1 64 yX1_countZeroLimbs, Cond.instanceMethod yX1_countZeroLimbs, Cond.selects RX1 yX1_countZeroLimbs yX1_countZeroLimbs, Cond.code yX1_countZeroLimbs cX1_countZeroLimbs 3 (some .int), Cond.methodLink RX1 67 yX1_countZeroBits, Cond.static yX1_countZeroBits, Cond.code yX1_countZeroBits cX1_countZeroBits 2 (some .int), Cond.methodLink RX1 70 yX1_shiftDown, Cond.static yX1_shiftDown, Cond.code yX1_shiftDown cX1_shiftDown 9 none, Cond.methodLink RX1 74 yX1_divideByOdd, Cond.instanceMethod yX1_divideByOdd, Cond.selects RX1 yX1_divideByOdd yX1_divideByOdd, Cond.code yX1_divideByOdd cX1_divideByOdd 7 none, Cond.methodLink RX1 78 Lib.Math.max.name, Cond.static Lib.Math.max.name, Cond.initialized "java/lang/Math", Cond.code Lib.Math.max.name Lib.Math.max.code 2 (some .int)]
def wsX2_step_r6 : List Cond := [Cond.constant RX1 86 (2147483647), Cond.methodLink RX1 83 yX1_inverseOf, Cond.static yX1_inverseOf, Cond.code yX1_inverseOf cX1_inverseOf 3 (some .int), Cond.methodLink RX1 87 yX1_takeMultiple, Cond.instanceMethod yX1_takeMultiple, Cond.selects RX1 yX1_takeMultiple yX1_takeMultiple, Cond.code yX1_takeMultiple cX1_takeMultiple 9 none, Cond.methodLink RX2 149 yX1_storeIn, Cond.instanceMethod yX1_storeIn, Cond.selects RX1 yX1_storeIn yX1_storeIn, Cond.code yX1_storeIn cX1_storeIn 3 (some .boolean), Cond.fieldLink RX1 9 "MinorSteps$Sum" "room" "I", Cond.methodLink RX1 91 yX0_put, Cond.instanceMethod yX0_put, Cond.selects RX0 yX0_put yX0_put, Cond.code yX0_put cX0_put 5 none, Cond.methodLink RX2 91 yX2_solveRow, Cond.instanceMethod yX2_solveRow, Cond.selects RX2 yX2_solveRow yX2_solveRow, Cond.code yX2_solveRow cX2_solveRow 3 (some .int), Cond.fieldLink RX2 32 "MinorSteps" "outcome" "LMinorSteps$Numbers;", Cond.methodLink RX2 153 yX2_finishOutcome, Cond.instanceMethod yX2_finishOutcome]
def wsX2_step_r7 : List Cond := [Cond.selects RX2 yX2_finishOutcome yX2_finishOutcome, Cond.code yX2_finishOutcome cX2_finishOutcome 2 none, Cond.methodLink RX2 156 yX0_negate, Cond.instanceMethod yX0_negate, Cond.selects RX0 yX0_negate yX0_negate, Cond.code yX0_negate cX0_negate 2 none]
def wsX2_step : List Cond := .code yX2_step cX2_step 2 (some .int) :: ((wsX2_step_r1 ++ (wsX2_step_r2 ++ (wsX2_step_r3 ++ (wsX2_step_r4 ++ (wsX2_step_r5 ++ (wsX2_step_r6 ++ wsX2_step_r7)))))) ++ wsX20 ++ wsX00 ++ wsX10)
def wsX2_status : List Cond := .code yX2_status cX2_status 1 (some .int) :: ([.fieldLink RX2 51 "MinorSteps" "told" "I"] ++ wsX20)
def wsX2_steps : List Cond := .code yX2_steps cX2_steps 1 (some .int) :: ([.fieldLink RX2 84 "MinorSteps" "stepsDone" "I"] ++ wsX20)
def wsX2_determinant : List Cond := .code yX2_determinant cX2_determinant 2 (some .int) :: ([.fieldLink RX2 51 "MinorSteps" "told" "I", .fieldLink RX2 32 "MinorSteps" "outcome" "LMinorSteps$Numbers;", .fieldLink RX2 13 "MinorSteps" "n" "I", .methodLink RX2 94 yX0_tell, .instanceMethod yX0_tell, .selects RX0 yX0_tell yX0_tell, .initialized RX0, .code yX0_tell cX0_tell 3 (some .int), .fieldLink RX0 15 "MinorSteps$Numbers" "signs" "[I", .fieldLink RX0 19 "MinorSteps$Numbers" "lengths" "[I", .methodLink RX0 37 yX0_limbOf, .instanceMethod yX0_limbOf, .selects RX0 yX0_limbOf yX0_limbOf, .code yX0_limbOf cX0_limbOf 3 (some .int), .fieldLink RX0 22 "MinorSteps$Numbers" "limbs" "[I", .fieldLink RX0 9 "MinorSteps$Numbers" "room" "I"] ++ wsX20 ++ wsX00)
def wsX2_numerator : List Cond := .code yX2_numerator cX2_numerator 3 (some .int) :: ([.fieldLink RX2 51 "MinorSteps" "told" "I", .fieldLink RX2 13 "MinorSteps" "n" "I", .fieldLink RX2 32 "MinorSteps" "outcome" "LMinorSteps$Numbers;", .methodLink RX2 94 yX0_tell, .instanceMethod yX0_tell, .selects RX0 yX0_tell yX0_tell, .initialized RX0, .code yX0_tell cX0_tell 3 (some .int), .fieldLink RX0 15 "MinorSteps$Numbers" "signs" "[I", .fieldLink RX0 19 "MinorSteps$Numbers" "lengths" "[I", .methodLink RX0 37 yX0_limbOf, .instanceMethod yX0_limbOf, .selects RX0 yX0_limbOf yX0_limbOf, .code yX0_limbOf cX0_limbOf 3 (some .int), .fieldLink RX0 22 "MinorSteps$Numbers" "limbs" "[I", .fieldLink RX0 9 "MinorSteps$Numbers" "room" "I"] ++ wsX20 ++ wsX00)
def wsX2_pivot : List Cond := .code yX2_pivot cX2_pivot 3 (some .int) :: ([.fieldLink RX2 97 "MinorSteps" "pivotsMade" "I", .fieldLink RX2 25 "MinorSteps" "matrix" "LMinorSteps$Numbers;", .methodLink RX2 58 yX2_slotAt, .instanceMethod yX2_slotAt, .selects RX2 yX2_slotAt yX2_slotAt, .initialized RX2, .code yX2_slotAt cX2_slotAt 3 (some .int), .fieldLink RX2 44 "MinorSteps" "rowAt" "[I", .fieldLink RX2 13 "MinorSteps" "n" "I", .methodLink RX2 94 yX0_tell, .instanceMethod yX0_tell, .selects RX0 yX0_tell yX0_tell, .initialized RX0, .code yX0_tell cX0_tell 3 (some .int), .fieldLink RX0 15 "MinorSteps$Numbers" "signs" "[I", .fieldLink RX0 19 "MinorSteps$Numbers" "lengths" "[I", .methodLink RX0 37 yX0_limbOf, .instanceMethod yX0_limbOf, .selects RX0 yX0_limbOf yX0_limbOf, .code yX0_limbOf cX0_limbOf 3 (some .int), .fieldLink RX0 22 "MinorSteps$Numbers" "limbs" "[I", .fieldLink RX0 9 "MinorSteps$Numbers" "room" "I"] ++ wsX20 ++ wsX00)
def wsX2_number_r1 : List Cond := [Cond.fieldLink RX2 25 "MinorSteps" "matrix" "LMinorSteps$Numbers;", Cond.methodLink RX2 54 yX2_isPlace, Cond.instanceMethod yX2_isPlace, Cond.selects RX2 yX2_isPlace yX2_isPlace, Cond.initialized RX2, Cond.code yX2_isPlace cX2_isPlace 3 (some .boolean), Cond.fieldLink RX2 13 "MinorSteps" "n" "I", Cond.methodLink RX2 58 yX2_slotAt, Cond.instanceMethod yX2_slotAt, Cond.selects RX2 yX2_slotAt yX2_slotAt, Cond.code yX2_slotAt cX2_slotAt 3 (some .int), Cond.fieldLink RX2 44 "MinorSteps" "rowAt" "[I", Cond.methodLink RX2 94 yX0_tell, Cond.instanceMethod yX0_tell, Cond.selects RX0 yX0_tell yX0_tell, Cond.initialized RX0, Cond.code yX0_tell cX0_tell 3 (some .int), Cond.fieldLink RX0 15 "MinorSteps$Numbers" "signs" "[I", Cond.fieldLink RX0 19 "MinorSteps$Numbers" "lengths" "[I", Cond.methodLink RX0 37 yX0_limbOf, Cond.instanceMethod yX0_limbOf, Cond.selects RX0 yX0_limbOf yX0_limbOf, Cond.code yX0_limbOf cX0_limbOf 3 (some .int), Cond.fieldLink RX0 22 "MinorSteps$Numbers" "limbs" "[I"]
def wsX2_number_r2 : List Cond := [Cond.fieldLink RX0 9 "MinorSteps$Numbers" "room" "I"]
def wsX2_number : List Cond := .code yX2_number cX2_number 4 (some .int) :: ((wsX2_number_r1 ++ wsX2_number_r2) ++ wsX20 ++ wsX00)
def wsX2_row : List Cond := .code yX2_row cX2_row 2 (some .int) :: ([.fieldLink RX2 13 "MinorSteps" "n" "I", .fieldLink RX2 44 "MinorSteps" "rowAt" "[I"] ++ wsX20)
def wsX2_equationHolds_r1 : List Cond := [Cond.fieldLink RX2 13 "MinorSteps" "n" "I", Cond.fieldLink RX2 40 "MinorSteps" "sum" "LMinorSteps$Sum;", Cond.fieldLink RX2 29 "MinorSteps" "loaded" "LMinorSteps$Numbers;", Cond.fieldLink RX2 32 "MinorSteps" "outcome" "LMinorSteps$Numbers;", Cond.methodLink RX2 136 yX1_clear, Cond.instanceMethod yX1_clear, Cond.selects RX1 yX1_clear yX1_clear, Cond.initialized RX1, Cond.code yX1_clear cX1_clear 1 none, Cond.fieldLink RX1 15 "MinorSteps$Sum" "plus" "[I", Cond.fieldLink RX1 19 "MinorSteps$Sum" "minus" "[I", Cond.fieldLink RX1 31 "MinorSteps$Sum" "sign" "I", Cond.fieldLink RX1 34 "MinorSteps$Sum" "length" "I", Cond.methodLink RX1 25 yJ7_fill_53178, Cond.static yJ7_fill_53178, Cond.initialized RJ7, Cond.code yJ7_fill_53178 cJ7_fill_53178 4 none, Cond.methodLink RX2 138 yX1_addProduct, Cond.instanceMethod yX1_addProduct, Cond.selects RX1 yX1_addProduct yX1_addProduct, Cond.code yX1_addProduct cX1_addProduct 9 none, Cond.methodLink RX1 37 yX0_signOf, Cond.instanceMethod yX0_signOf, Cond.selects RX0 yX0_signOf yX0_signOf]
def wsX2_equationHolds_r2 : List Cond := [Cond.initialized RX0, Cond.code yX0_signOf cX0_signOf 2 (some .int), Cond.fieldLink RX0 15 "MinorSteps$Numbers" "signs" "[I", Cond.methodLink RX1 43 yX0_lengthOf, Cond.instanceMethod yX0_lengthOf, Cond.selects RX0 yX0_lengthOf yX0_lengthOf, Cond.code yX0_lengthOf cX0_lengthOf 2 (some .int), Cond.fieldLink RX0 19 "MinorSteps$Numbers" "lengths" "[I", Cond.methodLink RX1 46 yX0_limbOf, Cond.instanceMethod yX0_limbOf, Cond.selects RX0 yX0_limbOf yX0_limbOf, Cond.code yX0_limbOf cX0_limbOf 3 (some .int), Cond.fieldLink RX0 22 "MinorSteps$Numbers" "limbs" "[I", Cond.fieldLink RX0 9 "MinorSteps$Numbers" "room" "I", Cond.methodLink RX1 50 yX1_addMultiple, Cond.static yX1_addMultiple, Cond.code yX1_addMultiple cX1_addMultiple 10 none, Cond.constantLong RX1 54 (2147483647), Cond.methodLink RX2 159 yX1_isZero, Cond.instanceMethod yX1_isZero, Cond.selects RX1 yX1_isZero yX1_isZero, Cond.code yX1_isZero cX1_isZero 1 (some .boolean), Cond.methodLink RX1 56 yX1_compareSides, Cond.instanceMethod yX1_compareSides]
def wsX2_equationHolds_r3 : List Cond := [Cond.selects RX1 yX1_compareSides yX1_compareSides, Cond.code yX1_compareSides cX1_compareSides 2 (some .int)]
def wsX2_equationHolds : List Cond := .code yX2_equationHolds cX2_equationHolds 4 (some .boolean) :: ((wsX2_equationHolds_r1 ++ (wsX2_equationHolds_r2 ++ wsX2_equationHolds_r3)) ++ wsX20 ++ wsX10 ++ wsX00)
def wsX2_holds_r1 : List Cond := [Cond.fieldLink RX2 51 "MinorSteps" "told" "I", Cond.fieldLink RX2 13 "MinorSteps" "n" "I", Cond.methodLink RX2 100 yX2_equationHolds, Cond.instanceMethod yX2_equationHolds, Cond.selects RX2 yX2_equationHolds yX2_equationHolds, Cond.initialized RX2, Cond.code yX2_equationHolds cX2_equationHolds 4 (some .boolean), Cond.fieldLink RX2 40 "MinorSteps" "sum" "LMinorSteps$Sum;", Cond.fieldLink RX2 29 "MinorSteps" "loaded" "LMinorSteps$Numbers;", Cond.fieldLink RX2 32 "MinorSteps" "outcome" "LMinorSteps$Numbers;", Cond.methodLink RX2 136 yX1_clear, Cond.instanceMethod yX1_clear, Cond.selects RX1 yX1_clear yX1_clear, Cond.initialized RX1, Cond.code yX1_clear cX1_clear 1 none, Cond.fieldLink RX1 15 "MinorSteps$Sum" "plus" "[I", Cond.fieldLink RX1 19 "MinorSteps$Sum" "minus" "[I", Cond.fieldLink RX1 31 "MinorSteps$Sum" "sign" "I", Cond.fieldLink RX1 34 "MinorSteps$Sum" "length" "I", Cond.methodLink RX1 25 yJ7_fill_53178, Cond.static yJ7_fill_53178, Cond.initialized RJ7, Cond.code yJ7_fill_53178 cJ7_fill_53178 4 none, Cond.methodLink RX2 138 yX1_addProduct]
def wsX2_holds_r2 : List Cond := [Cond.instanceMethod yX1_addProduct, Cond.selects RX1 yX1_addProduct yX1_addProduct, Cond.code yX1_addProduct cX1_addProduct 9 none, Cond.methodLink RX1 37 yX0_signOf, Cond.instanceMethod yX0_signOf, Cond.selects RX0 yX0_signOf yX0_signOf, Cond.initialized RX0, Cond.code yX0_signOf cX0_signOf 2 (some .int), Cond.fieldLink RX0 15 "MinorSteps$Numbers" "signs" "[I", Cond.methodLink RX1 43 yX0_lengthOf, Cond.instanceMethod yX0_lengthOf, Cond.selects RX0 yX0_lengthOf yX0_lengthOf, Cond.code yX0_lengthOf cX0_lengthOf 2 (some .int), Cond.fieldLink RX0 19 "MinorSteps$Numbers" "lengths" "[I", Cond.methodLink RX1 46 yX0_limbOf, Cond.instanceMethod yX0_limbOf, Cond.selects RX0 yX0_limbOf yX0_limbOf, Cond.code yX0_limbOf cX0_limbOf 3 (some .int), Cond.fieldLink RX0 22 "MinorSteps$Numbers" "limbs" "[I", Cond.fieldLink RX0 9 "MinorSteps$Numbers" "room" "I", Cond.methodLink RX1 50 yX1_addMultiple, Cond.static yX1_addMultiple, Cond.code yX1_addMultiple cX1_addMultiple 10 none, Cond.constantLong RX1 54 (2147483647)]
def wsX2_holds_r3 : List Cond := [Cond.methodLink RX2 159 yX1_isZero, Cond.instanceMethod yX1_isZero, Cond.selects RX1 yX1_isZero yX1_isZero, Cond.code yX1_isZero cX1_isZero 1 (some .boolean), Cond.methodLink RX1 56 yX1_compareSides, Cond.instanceMethod yX1_compareSides, Cond.selects RX1 yX1_compareSides yX1_compareSides, Cond.code yX1_compareSides cX1_compareSides 2 (some .int)]
def wsX2_holds : List Cond := .code yX2_holds cX2_holds 2 (some .boolean) :: ((wsX2_holds_r1 ++ (wsX2_holds_r2 ++ wsX2_holds_r3)) ++ wsX20 ++ wsX10 ++ wsX00)
def wsX3_reset : List Cond := .code yX3_reset cX3_reset 2 none :: ([.fieldLink RX3 7 "MinorStepsModel" "limbs" "[I", .fieldLink RX3 13 "MinorStepsModel" "signs" "[I", .fieldLink RX3 16 "MinorStepsModel" "rows" "[I", .fieldLink RX3 29 "MinorStepsModel" "chosen" "I", .fieldLink RX3 32 "MinorStepsModel" "state" "I", .fieldLink RX3 35 "MinorStepsModel" "done" "I", .fieldLink RX3 38 "MinorStepsModel" "pivots" "I", .fieldLink RX3 41 "MinorStepsModel" "odd" "Z"] ++ wsX30)
def wsX3_init : List Cond := .code yX3_init cX3_init 3 none :: ([.methodLink RX3 1 objectInit, .instanceMethod objectInit, .code objectInit ⟨#[0xb1]⟩ 1 none, .arrayClass .int, .fieldLink RX3 7 "MinorStepsModel" "limbs" "[I", .fieldLink RX3 13 "MinorStepsModel" "signs" "[I", .fieldLink RX3 16 "MinorStepsModel" "rows" "[I", .fieldLink RX3 19 "MinorStepsModel" "n" "I", .fieldLink RX3 23 "MinorStepsModel" "room" "I", .methodLink RX3 26 yX3_reset, .instanceMethod yX3_reset, .selects RX3 yX3_reset yX3_reset, .initialized RX3, .code yX3_reset cX3_reset 2 none, .fieldLink RX3 29 "MinorStepsModel" "chosen" "I", .fieldLink RX3 32 "MinorStepsModel" "state" "I", .fieldLink RX3 35 "MinorStepsModel" "done" "I", .fieldLink RX3 38 "MinorStepsModel" "pivots" "I", .fieldLink RX3 41 "MinorStepsModel" "odd" "Z"] ++ wsX30)
def wsX3_isPlace : List Cond := .code yX3_isPlace cX3_isPlace 3 (some .boolean) :: ([.fieldLink RX3 19 "MinorStepsModel" "n" "I"] ++ wsX30)
def wsX3_place : List Cond := .code yX3_place cX3_place 3 (some .int) :: ([.fieldLink RX3 19 "MinorStepsModel" "n" "I"] ++ wsX30)
def wsX3_clear : List Cond := .code yX3_clear cX3_clear 3 none :: ([.fieldLink RX3 7 "MinorStepsModel" "limbs" "[I", .fieldLink RX3 13 "MinorStepsModel" "signs" "[I"] ++ wsX30)
def wsX3_entry : List Cond := .code yX3_entry cX3_entry 4 (some .boolean) :: ([.fieldLink RX3 32 "MinorStepsModel" "state" "I", .fieldLink RX3 29 "MinorStepsModel" "chosen" "I", .fieldLink RX3 53 "MinorStepsModel" "chosenSign" "I", .fieldLink RX3 56 "MinorStepsModel" "chosenLimbs" "I", .methodLink RX3 45 yX3_isPlace, .instanceMethod yX3_isPlace, .selects RX3 yX3_isPlace yX3_isPlace, .initialized RX3, .code yX3_isPlace cX3_isPlace 3 (some .boolean), .fieldLink RX3 19 "MinorStepsModel" "n" "I", .methodLink RX3 49 yX3_place, .instanceMethod yX3_place, .selects RX3 yX3_place yX3_place, .code yX3_place cX3_place 3 (some .int), .methodLink RX3 59 yX3_clear, .instanceMethod yX3_clear, .selects RX3 yX3_clear yX3_clear, .code yX3_clear cX3_clear 3 none, .fieldLink RX3 7 "MinorStepsModel" "limbs" "[I", .fieldLink RX3 13 "MinorStepsModel" "signs" "[I"] ++ wsX30)
def wsX3_limb : List Cond := .code yX3_limb cX3_limb 2 (some .boolean) :: ([.fieldLink RX3 32 "MinorStepsModel" "state" "I", .fieldLink RX3 29 "MinorStepsModel" "chosen" "I", .fieldLink RX3 53 "MinorStepsModel" "chosenSign" "I", .fieldLink RX3 56 "MinorStepsModel" "chosenLimbs" "I", .fieldLink RX3 23 "MinorStepsModel" "room" "I", .fieldLink RX3 7 "MinorStepsModel" "limbs" "[I", .fieldLink RX3 13 "MinorStepsModel" "signs" "[I"] ++ wsX30)
def wsX3_copy : List Cond := .code yX3_copy cX3_copy 4 none :: ([.fieldLink RX3 7 "MinorStepsModel" "limbs" "[I", .fieldLink RX3 13 "MinorStepsModel" "signs" "[I"] ++ wsX30)
def wsX3_count : List Cond := .code yX3_count cX3_count 3 (some .int) :: ([.fieldLink RX3 7 "MinorStepsModel" "limbs" "[I"] ++ wsX30)
def wsX3_multiply : List Cond := .code yX3_multiply cX3_multiply 10 none :: ([.fieldLink RX3 7 "MinorStepsModel" "limbs" "[I", .constantLong RX3 67 (2147483647), .fieldLink RX3 13 "MinorStepsModel" "signs" "[I", .methodLink RX3 59 yX3_clear, .instanceMethod yX3_clear, .selects RX3 yX3_clear yX3_clear, .initialized RX3, .code yX3_clear cX3_clear 3 none, .methodLink RX3 63 yX3_count, .instanceMethod yX3_count, .selects RX3 yX3_count yX3_count, .code yX3_count cX3_count 3 (some .int)] ++ wsX30)
def wsX3_compare : List Cond := .code yX3_compare cX3_compare 6 (some .int) :: ([.fieldLink RX3 7 "MinorStepsModel" "limbs" "[I"] ++ wsX30)
def wsX3_join : List Cond := .code yX3_join cX3_join 10 none :: ([.fieldLink RX3 7 "MinorStepsModel" "limbs" "[I", .constantLong RX3 67 (2147483647)] ++ wsX30)
def wsX3_less : List Cond := .code yX3_less cX3_less 4 none :: ([.fieldLink RX3 13 "MinorStepsModel" "signs" "[I", .methodLink RX3 69 yX3_join, .instanceMethod yX3_join, .selects RX3 yX3_join yX3_join, .initialized RX3, .code yX3_join cX3_join 10 none, .fieldLink RX3 7 "MinorStepsModel" "limbs" "[I", .constantLong RX3 67 (2147483647), .methodLink RX3 73 yX3_compare, .instanceMethod yX3_compare, .selects RX3 yX3_compare yX3_compare, .code yX3_compare cX3_compare 6 (some .int)] ++ wsX30)
def wsX3_zeros : List Cond := .code yX3_zeros cX3_zeros 3 (some .int) :: ([.fieldLink RX3 7 "MinorStepsModel" "limbs" "[I"] ++ wsX30)
def wsX3_shift : List Cond := .code yX3_shift cX3_shift 10 none :: ([.fieldLink RX3 7 "MinorStepsModel" "limbs" "[I", .constantLong RX3 67 (2147483647)] ++ wsX30)
def wsX3_divide : List Cond := .code yX3_divide cX3_divide 17 none :: ([.fieldLink RX3 13 "MinorStepsModel" "signs" "[I", .fieldLink RX3 7 "MinorStepsModel" "limbs" "[I", .constantLong RX3 83 (2), .constantLong RX3 67 (2147483647), .methodLink RX3 59 yX3_clear, .instanceMethod yX3_clear, .selects RX3 yX3_clear yX3_clear, .initialized RX3, .code yX3_clear cX3_clear 3 none, .methodLink RX3 76 yX3_zeros, .instanceMethod yX3_zeros, .selects RX3 yX3_zeros yX3_zeros, .code yX3_zeros cX3_zeros 3 (some .int), .methodLink RX3 79 yX3_shift, .instanceMethod yX3_shift, .selects RX3 yX3_shift yX3_shift, .code yX3_shift cX3_shift 10 none] ++ wsX30)
def wsX3_swap : List Cond := .code yX3_swap cX3_swap 4 none :: ([.fieldLink RX3 16 "MinorStepsModel" "rows" "[I", .fieldLink RX3 41 "MinorStepsModel" "odd" "Z", .methodLink RX3 85 yX3_copy, .instanceMethod yX3_copy, .selects RX3 yX3_copy yX3_copy, .initialized RX3, .code yX3_copy cX3_copy 4 none, .fieldLink RX3 7 "MinorStepsModel" "limbs" "[I", .fieldLink RX3 13 "MinorStepsModel" "signs" "[I"] ++ wsX30)
def wsX3_eliminate_r1 : List Cond := [Cond.fieldLink RX3 19 "MinorStepsModel" "n" "I", Cond.fieldLink RX3 13 "MinorStepsModel" "signs" "[I", Cond.fieldLink RX3 38 "MinorStepsModel" "pivots" "I", Cond.fieldLink RX3 23 "MinorStepsModel" "room" "I", Cond.methodLink RX3 49 yX3_place, Cond.instanceMethod yX3_place, Cond.selects RX3 yX3_place yX3_place, Cond.initialized RX3, Cond.code yX3_place cX3_place 3 (some .int), Cond.methodLink RX3 89 yX3_swap, Cond.instanceMethod yX3_swap, Cond.selects RX3 yX3_swap yX3_swap, Cond.code yX3_swap cX3_swap 4 none, Cond.fieldLink RX3 16 "MinorStepsModel" "rows" "[I", Cond.fieldLink RX3 41 "MinorStepsModel" "odd" "Z", Cond.methodLink RX3 85 yX3_copy, Cond.instanceMethod yX3_copy, Cond.selects RX3 yX3_copy yX3_copy, Cond.code yX3_copy cX3_copy 4 none, Cond.fieldLink RX3 7 "MinorStepsModel" "limbs" "[I", Cond.methodLink RX3 92 yX3_multiply, Cond.instanceMethod yX3_multiply, Cond.selects RX3 yX3_multiply yX3_multiply, Cond.code yX3_multiply cX3_multiply 10 none]
def wsX3_eliminate_r2 : List Cond := [Cond.constantLong RX3 67 (2147483647), Cond.methodLink RX3 59 yX3_clear, Cond.instanceMethod yX3_clear, Cond.selects RX3 yX3_clear yX3_clear, Cond.code yX3_clear cX3_clear 3 none, Cond.methodLink RX3 63 yX3_count, Cond.instanceMethod yX3_count, Cond.selects RX3 yX3_count yX3_count, Cond.code yX3_count cX3_count 3 (some .int), Cond.methodLink RX3 95 yX3_less, Cond.instanceMethod yX3_less, Cond.selects RX3 yX3_less yX3_less, Cond.code yX3_less cX3_less 4 none, Cond.methodLink RX3 69 yX3_join, Cond.instanceMethod yX3_join, Cond.selects RX3 yX3_join yX3_join, Cond.code yX3_join cX3_join 10 none, Cond.methodLink RX3 73 yX3_compare, Cond.instanceMethod yX3_compare, Cond.selects RX3 yX3_compare yX3_compare, Cond.code yX3_compare cX3_compare 6 (some .int), Cond.methodLink RX3 98 yX3_divide, Cond.instanceMethod yX3_divide, Cond.selects RX3 yX3_divide yX3_divide]
def wsX3_eliminate_r3 : List Cond := [Cond.code yX3_divide cX3_divide 17 none, Cond.constantLong RX3 83 (2), Cond.methodLink RX3 76 yX3_zeros, Cond.instanceMethod yX3_zeros, Cond.selects RX3 yX3_zeros yX3_zeros, Cond.code yX3_zeros cX3_zeros 3 (some .int), Cond.methodLink RX3 79 yX3_shift, Cond.instanceMethod yX3_shift, Cond.selects RX3 yX3_shift yX3_shift, Cond.code yX3_shift cX3_shift 10 none]
def wsX3_eliminate : List Cond := .code yX3_eliminate cX3_eliminate 5 (some .int) :: ((wsX3_eliminate_r1 ++ (wsX3_eliminate_r2 ++ wsX3_eliminate_r3)) ++ wsX30)
def wsX3_insert_r1 : List Cond := [Cond.fieldLink RX3 19 "MinorStepsModel" "n" "I", Cond.fieldLink RX3 23 "MinorStepsModel" "room" "I", Cond.methodLink RX3 49 yX3_place, Cond.instanceMethod yX3_place, Cond.selects RX3 yX3_place yX3_place, Cond.initialized RX3, Cond.code yX3_place cX3_place 3 (some .int), Cond.methodLink RX3 92 yX3_multiply, Cond.instanceMethod yX3_multiply, Cond.selects RX3 yX3_multiply yX3_multiply, Cond.code yX3_multiply cX3_multiply 10 none, Cond.fieldLink RX3 7 "MinorStepsModel" "limbs" "[I", Cond.constantLong RX3 67 (2147483647), Cond.fieldLink RX3 13 "MinorStepsModel" "signs" "[I", Cond.methodLink RX3 59 yX3_clear, Cond.instanceMethod yX3_clear, Cond.selects RX3 yX3_clear yX3_clear, Cond.code yX3_clear cX3_clear 3 none, Cond.methodLink RX3 63 yX3_count, Cond.instanceMethod yX3_count, Cond.selects RX3 yX3_count yX3_count, Cond.code yX3_count cX3_count 3 (some .int), Cond.methodLink RX3 85 yX3_copy, Cond.instanceMethod yX3_copy]
def wsX3_insert_r2 : List Cond := [Cond.selects RX3 yX3_copy yX3_copy, Cond.code yX3_copy cX3_copy 4 none, Cond.methodLink RX3 95 yX3_less, Cond.instanceMethod yX3_less, Cond.selects RX3 yX3_less yX3_less, Cond.code yX3_less cX3_less 4 none, Cond.methodLink RX3 69 yX3_join, Cond.instanceMethod yX3_join, Cond.selects RX3 yX3_join yX3_join, Cond.code yX3_join cX3_join 10 none, Cond.methodLink RX3 73 yX3_compare, Cond.instanceMethod yX3_compare, Cond.selects RX3 yX3_compare yX3_compare, Cond.code yX3_compare cX3_compare 6 (some .int), Cond.methodLink RX3 98 yX3_divide, Cond.instanceMethod yX3_divide, Cond.selects RX3 yX3_divide yX3_divide, Cond.code yX3_divide cX3_divide 17 none, Cond.constantLong RX3 83 (2), Cond.methodLink RX3 76 yX3_zeros, Cond.instanceMethod yX3_zeros, Cond.selects RX3 yX3_zeros yX3_zeros, Cond.code yX3_zeros cX3_zeros 3 (some .int), Cond.methodLink RX3 79 yX3_shift]
def wsX3_insert_r3 : List Cond := [Cond.instanceMethod yX3_shift, Cond.selects RX3 yX3_shift yX3_shift, Cond.code yX3_shift cX3_shift 10 none]
def wsX3_insert : List Cond := .code yX3_insert cX3_insert 3 (some .int) :: ((wsX3_insert_r1 ++ (wsX3_insert_r2 ++ wsX3_insert_r3)) ++ wsX30)
def wsX3_step_r1 : List Cond := [Cond.fieldLink RX3 32 "MinorStepsModel" "state" "I", Cond.fieldLink RX3 35 "MinorStepsModel" "done" "I", Cond.fieldLink RX3 19 "MinorStepsModel" "n" "I", Cond.methodLink RX3 101 yX3_eliminate, Cond.instanceMethod yX3_eliminate, Cond.selects RX3 yX3_eliminate yX3_eliminate, Cond.initialized RX3, Cond.code yX3_eliminate cX3_eliminate 5 (some .int), Cond.fieldLink RX3 13 "MinorStepsModel" "signs" "[I", Cond.fieldLink RX3 38 "MinorStepsModel" "pivots" "I", Cond.fieldLink RX3 23 "MinorStepsModel" "room" "I", Cond.methodLink RX3 49 yX3_place, Cond.instanceMethod yX3_place, Cond.selects RX3 yX3_place yX3_place, Cond.code yX3_place cX3_place 3 (some .int), Cond.methodLink RX3 89 yX3_swap, Cond.instanceMethod yX3_swap, Cond.selects RX3 yX3_swap yX3_swap, Cond.code yX3_swap cX3_swap 4 none, Cond.fieldLink RX3 16 "MinorStepsModel" "rows" "[I", Cond.fieldLink RX3 41 "MinorStepsModel" "odd" "Z", Cond.methodLink RX3 85 yX3_copy, Cond.instanceMethod yX3_copy, Cond.selects RX3 yX3_copy yX3_copy]
def wsX3_step_r2 : List Cond := [Cond.code yX3_copy cX3_copy 4 none, Cond.fieldLink RX3 7 "MinorStepsModel" "limbs" "[I", Cond.methodLink RX3 92 yX3_multiply, Cond.instanceMethod yX3_multiply, Cond.selects RX3 yX3_multiply yX3_multiply, Cond.code yX3_multiply cX3_multiply 10 none, Cond.constantLong RX3 67 (2147483647), Cond.methodLink RX3 59 yX3_clear, Cond.instanceMethod yX3_clear, Cond.selects RX3 yX3_clear yX3_clear, Cond.code yX3_clear cX3_clear 3 none, Cond.methodLink RX3 63 yX3_count, Cond.instanceMethod yX3_count, Cond.selects RX3 yX3_count yX3_count, Cond.code yX3_count cX3_count 3 (some .int), Cond.methodLink RX3 95 yX3_less, Cond.instanceMethod yX3_less, Cond.selects RX3 yX3_less yX3_less, Cond.code yX3_less cX3_less 4 none, Cond.methodLink RX3 69 yX3_join, Cond.instanceMethod yX3_join, Cond.selects RX3 yX3_join yX3_join, Cond.code yX3_join cX3_join 10 none, Cond.methodLink RX3 73 yX3_compare]
def wsX3_step_r3 : List Cond := [Cond.instanceMethod yX3_compare, Cond.selects RX3 yX3_compare yX3_compare, Cond.code yX3_compare cX3_compare 6 (some .int), Cond.methodLink RX3 98 yX3_divide, Cond.instanceMethod yX3_divide, Cond.selects RX3 yX3_divide yX3_divide, Cond.code yX3_divide cX3_divide 17 none, Cond.constantLong RX3 83 (2), Cond.methodLink RX3 76 yX3_zeros, Cond.instanceMethod yX3_zeros, Cond.selects RX3 yX3_zeros yX3_zeros, Cond.code yX3_zeros cX3_zeros 3 (some .int), Cond.methodLink RX3 79 yX3_shift, Cond.instanceMethod yX3_shift, Cond.selects RX3 yX3_shift yX3_shift, Cond.code yX3_shift cX3_shift 10 none, Cond.methodLink RX3 104 yX3_insert, Cond.instanceMethod yX3_insert, Cond.selects RX3 yX3_insert yX3_insert, Cond.code yX3_insert cX3_insert 3 (some .int)]
def wsX3_step : List Cond := .code yX3_step cX3_step 1 (some .int) :: ((wsX3_step_r1 ++ (wsX3_step_r2 ++ wsX3_step_r3)) ++ wsX30)
def wsX3_status : List Cond := .code yX3_status cX3_status 1 (some .int) :: ([.fieldLink RX3 32 "MinorStepsModel" "state" "I"] ++ wsX30)
def wsX3_steps : List Cond := .code yX3_steps cX3_steps 1 (some .int) :: ([.fieldLink RX3 35 "MinorStepsModel" "done" "I"] ++ wsX30)
def wsX3_told : List Cond := .code yX3_told cX3_told 5 (some .int) :: ([.fieldLink RX3 13 "MinorStepsModel" "signs" "[I", .fieldLink RX3 7 "MinorStepsModel" "limbs" "[I", .methodLink RX3 63 yX3_count, .instanceMethod yX3_count, .selects RX3 yX3_count yX3_count, .initialized RX3, .code yX3_count cX3_count 3 (some .int)] ++ wsX30)
def wsX3_determinant : List Cond := .code yX3_determinant cX3_determinant 2 (some .int) :: ([.fieldLink RX3 32 "MinorStepsModel" "state" "I", .fieldLink RX3 19 "MinorStepsModel" "n" "I", .fieldLink RX3 41 "MinorStepsModel" "odd" "Z", .methodLink RX3 49 yX3_place, .instanceMethod yX3_place, .selects RX3 yX3_place yX3_place, .initialized RX3, .code yX3_place cX3_place 3 (some .int), .methodLink RX3 107 yX3_told, .instanceMethod yX3_told, .selects RX3 yX3_told yX3_told, .code yX3_told cX3_told 5 (some .int), .fieldLink RX3 13 "MinorStepsModel" "signs" "[I", .fieldLink RX3 7 "MinorStepsModel" "limbs" "[I", .methodLink RX3 63 yX3_count, .instanceMethod yX3_count, .selects RX3 yX3_count yX3_count, .code yX3_count cX3_count 3 (some .int)] ++ wsX30)
def wsX3_numerator : List Cond := .code yX3_numerator cX3_numerator 3 (some .int) :: ([.fieldLink RX3 32 "MinorStepsModel" "state" "I", .fieldLink RX3 19 "MinorStepsModel" "n" "I", .fieldLink RX3 41 "MinorStepsModel" "odd" "Z", .methodLink RX3 107 yX3_told, .instanceMethod yX3_told, .selects RX3 yX3_told yX3_told, .initialized RX3, .code yX3_told cX3_told 5 (some .int), .fieldLink RX3 13 "MinorStepsModel" "signs" "[I", .fieldLink RX3 7 "MinorStepsModel" "limbs" "[I", .methodLink RX3 63 yX3_count, .instanceMethod yX3_count, .selects RX3 yX3_count yX3_count, .code yX3_count cX3_count 3 (some .int)] ++ wsX30)
def wsX3_pivot : List Cond := .code yX3_pivot cX3_pivot 3 (some .int) :: ([.fieldLink RX3 38 "MinorStepsModel" "pivots" "I", .methodLink RX3 49 yX3_place, .instanceMethod yX3_place, .selects RX3 yX3_place yX3_place, .initialized RX3, .code yX3_place cX3_place 3 (some .int), .fieldLink RX3 19 "MinorStepsModel" "n" "I", .methodLink RX3 107 yX3_told, .instanceMethod yX3_told, .selects RX3 yX3_told yX3_told, .code yX3_told cX3_told 5 (some .int), .fieldLink RX3 13 "MinorStepsModel" "signs" "[I", .fieldLink RX3 7 "MinorStepsModel" "limbs" "[I", .methodLink RX3 63 yX3_count, .instanceMethod yX3_count, .selects RX3 yX3_count yX3_count, .code yX3_count cX3_count 3 (some .int)] ++ wsX30)
def wsX3_number : List Cond := .code yX3_number cX3_number 4 (some .int) :: ([.methodLink RX3 45 yX3_isPlace, .instanceMethod yX3_isPlace, .selects RX3 yX3_isPlace yX3_isPlace, .initialized RX3, .code yX3_isPlace cX3_isPlace 3 (some .boolean), .fieldLink RX3 19 "MinorStepsModel" "n" "I", .methodLink RX3 49 yX3_place, .instanceMethod yX3_place, .selects RX3 yX3_place yX3_place, .code yX3_place cX3_place 3 (some .int), .methodLink RX3 107 yX3_told, .instanceMethod yX3_told, .selects RX3 yX3_told yX3_told, .code yX3_told cX3_told 5 (some .int), .fieldLink RX3 13 "MinorStepsModel" "signs" "[I", .fieldLink RX3 7 "MinorStepsModel" "limbs" "[I", .methodLink RX3 63 yX3_count, .instanceMethod yX3_count, .selects RX3 yX3_count yX3_count, .code yX3_count cX3_count 3 (some .int)] ++ wsX30)
def wsX3_row : List Cond := .code yX3_row cX3_row 2 (some .int) :: ([.fieldLink RX3 19 "MinorStepsModel" "n" "I", .fieldLink RX3 16 "MinorStepsModel" "rows" "[I"] ++ wsX30)
def wsX3_holds : List Cond := .code yX3_holds cX3_holds 1 (some .boolean) :: ([.fieldLink RX3 32 "MinorStepsModel" "state" "I"] ++ wsX30)
def wsJ9_max_7cf53 : List Cond := .code yJ9_max_7cf53 cJ9_max_7cf53 2 (some .int) :: ([])
def wsJ9_min_7cf53 : List Cond := .code yJ9_min_7cf53 cJ9_min_7cf53 2 (some .int) :: ([])
def wsL_cell : List Cond := .code yL_cell cL_cell 2 (some .int) :: ([])
def wsL_law_r1 : List Cond := [Cond.classLink RL 7 RX2, Cond.instantiable RX2 14, Cond.initialized RX2, Cond.classLink RL 18 RX3, Cond.instantiable RX3 12, Cond.initialized RX3, Cond.methodLink RL 9 yL_cell, Cond.static yL_cell, Cond.initialized RL, Cond.code yL_cell cL_cell 2 (some .int), Cond.methodLink RL 15 yX2_init, Cond.instanceMethod yX2_init, Cond.code yX2_init cX2_init 3 none, Cond.methodLink RX2 1 objectInit, Cond.instanceMethod objectInit, Cond.code objectInit ⟨#[0xb1]⟩ 1 none, Cond.fieldLink RX2 13 "MinorSteps" "n" "I", Cond.fieldLink RX2 17 "MinorSteps" "room" "I", Cond.classLink RX2 20 RX0, Cond.instantiable RX0 4, Cond.initialized RX0, Cond.fieldLink RX2 25 "MinorSteps" "matrix" "LMinorSteps$Numbers;", Cond.fieldLink RX2 29 "MinorSteps" "loaded" "LMinorSteps$Numbers;", Cond.fieldLink RX2 32 "MinorSteps" "outcome" "LMinorSteps$Numbers;"]
def wsL_law_r2 : List Cond := [Cond.classLink RX2 35 RX1, Cond.instantiable RX1 6, Cond.initialized RX1, Cond.fieldLink RX2 40 "MinorSteps" "sum" "LMinorSteps$Sum;", Cond.arrayClass .int, Cond.fieldLink RX2 44 "MinorSteps" "rowAt" "[I", Cond.methodLink RX2 9 yX2_within, Cond.static yX2_within, Cond.code yX2_within cX2_within 2 (some .int), Cond.methodLink RX2 104 Lib.Math.min.name, Cond.static Lib.Math.min.name, Cond.initialized "java/lang/Math", Cond.code Lib.Math.min.name Lib.Math.min.code 2 (some .int), Cond.methodLink RX2 109 Lib.Math.max.name, Cond.static Lib.Math.max.name, Cond.code Lib.Math.max.name Lib.Math.max.code 2 (some .int), Cond.methodLink RX2 22 yX0_init, Cond.instanceMethod yX0_init, Cond.code yX0_init cX0_init 3 none, Cond.methodLink RX0 3 objectInit, Cond.fieldLink RX0 9 "MinorSteps$Numbers" "room" "I", Cond.fieldLink RX0 15 "MinorSteps$Numbers" "signs" "[I", Cond.fieldLink RX0 19 "MinorSteps$Numbers" "lengths" "[I", Cond.fieldLink RX0 22 "MinorSteps$Numbers" "limbs" "[I"]
def wsL_law_r3 : List Cond := [Cond.methodLink RX2 37 yX1_init, Cond.instanceMethod yX1_init, Cond.code yX1_init cX1_init 2 none, Cond.methodLink RX1 3 objectInit, Cond.fieldLink RX1 9 "MinorSteps$Sum" "room" "I", Cond.fieldLink RX1 15 "MinorSteps$Sum" "plus" "[I", Cond.fieldLink RX1 19 "MinorSteps$Sum" "minus" "[I", Cond.fieldLink RX1 22 "MinorSteps$Sum" "divisor" "[I", Cond.methodLink RX2 48 yX2_startLoading, Cond.instanceMethod yX2_startLoading, Cond.selects RX2 yX2_startLoading yX2_startLoading, Cond.code yX2_startLoading cX2_startLoading 2 none, Cond.fieldLink RX2 51 "MinorSteps" "told" "I", Cond.fieldLink RX2 84 "MinorSteps" "stepsDone" "I", Cond.fieldLink RX2 97 "MinorSteps" "pivotsMade" "I", Cond.fieldLink RX2 115 "MinorSteps" "oddSwaps" "Z", Cond.fieldLink RX2 61 "MinorSteps" "chosen" "I", Cond.fieldLink RX2 64 "MinorSteps" "chosenSign" "I", Cond.fieldLink RX2 67 "MinorSteps" "chosenLimbs" "I", Cond.methodLink RX2 112 yX0_clearAll, Cond.instanceMethod yX0_clearAll, Cond.selects RX0 yX0_clearAll yX0_clearAll, Cond.code yX0_clearAll cX0_clearAll 1 none, Cond.methodLink RX0 25 yJ7_fill_53178]
def wsL_law_r4 : List Cond := [Cond.static yJ7_fill_53178, Cond.initialized RJ7, Cond.code yJ7_fill_53178 cJ7_fill_53178 4 none, Cond.methodLink RL 20 yX3_init, Cond.instanceMethod yX3_init, Cond.code yX3_init cX3_init 3 none, Cond.methodLink RX3 1 objectInit, Cond.fieldLink RX3 7 "MinorStepsModel" "limbs" "[I", Cond.fieldLink RX3 13 "MinorStepsModel" "signs" "[I", Cond.fieldLink RX3 16 "MinorStepsModel" "rows" "[I", Cond.fieldLink RX3 19 "MinorStepsModel" "n" "I", Cond.fieldLink RX3 23 "MinorStepsModel" "room" "I", Cond.methodLink RX3 26 yX3_reset, Cond.instanceMethod yX3_reset, Cond.selects RX3 yX3_reset yX3_reset, Cond.code yX3_reset cX3_reset 2 none, Cond.fieldLink RX3 29 "MinorStepsModel" "chosen" "I", Cond.fieldLink RX3 32 "MinorStepsModel" "state" "I", Cond.fieldLink RX3 35 "MinorStepsModel" "done" "I", Cond.fieldLink RX3 38 "MinorStepsModel" "pivots" "I", Cond.fieldLink RX3 41 "MinorStepsModel" "odd" "Z", Cond.methodLink RL 21 yX2_reset, Cond.instanceMethod yX2_reset, Cond.selects RX2 yX2_reset yX2_reset]
def wsL_law_r5 : List Cond := [Cond.code yX2_reset cX2_reset 1 none, Cond.methodLink RL 24 yX3_reset, Cond.methodLink RL 25 yX2_entry, Cond.instanceMethod yX2_entry, Cond.selects RX2 yX2_entry yX2_entry, Cond.code yX2_entry cX2_entry 4 (some .boolean), Cond.methodLink RX2 54 yX2_isPlace, Cond.instanceMethod yX2_isPlace, Cond.selects RX2 yX2_isPlace yX2_isPlace, Cond.code yX2_isPlace cX2_isPlace 3 (some .boolean), Cond.methodLink RX2 58 yX2_slotAt, Cond.instanceMethod yX2_slotAt, Cond.selects RX2 yX2_slotAt yX2_slotAt, Cond.code yX2_slotAt cX2_slotAt 3 (some .int), Cond.methodLink RX2 70 yX0_clear, Cond.instanceMethod yX0_clear, Cond.selects RX0 yX0_clear yX0_clear, Cond.code yX0_clear cX0_clear 2 none, Cond.methodLink RL 29 yX3_entry, Cond.instanceMethod yX3_entry, Cond.selects RX3 yX3_entry yX3_entry, Cond.code yX3_entry cX3_entry 4 (some .boolean), Cond.fieldLink RX3 53 "MinorStepsModel" "chosenSign" "I", Cond.fieldLink RX3 56 "MinorStepsModel" "chosenLimbs" "I"]
def wsL_law_r6 : List Cond := [Cond.methodLink RX3 45 yX3_isPlace, Cond.instanceMethod yX3_isPlace, Cond.selects RX3 yX3_isPlace yX3_isPlace, Cond.code yX3_isPlace cX3_isPlace 3 (some .boolean), Cond.methodLink RX3 49 yX3_place, Cond.instanceMethod yX3_place, Cond.selects RX3 yX3_place yX3_place, Cond.code yX3_place cX3_place 3 (some .int), Cond.methodLink RX3 59 yX3_clear, Cond.instanceMethod yX3_clear, Cond.selects RX3 yX3_clear yX3_clear, Cond.code yX3_clear cX3_clear 3 none, Cond.methodLink RL 30 yX2_limb, Cond.instanceMethod yX2_limb, Cond.selects RX2 yX2_limb yX2_limb, Cond.code yX2_limb cX2_limb 2 (some .boolean), Cond.methodLink RX2 73 yX0_putLimb, Cond.instanceMethod yX0_putLimb, Cond.selects RX0 yX0_putLimb yX0_putLimb, Cond.code yX0_putLimb cX0_putLimb 5 none, Cond.methodLink RL 34 yX3_limb, Cond.instanceMethod yX3_limb, Cond.selects RX3 yX3_limb yX3_limb, Cond.code yX3_limb cX3_limb 2 (some .boolean)]
def wsL_law_r7 : List Cond := [Cond.methodLink RL 35 yX2_step, Cond.instanceMethod yX2_step, Cond.selects RX2 yX2_step yX2_step, Cond.code yX2_step cX2_step 2 (some .int), Cond.methodLink RX2 77 yX2_isEnded, Cond.instanceMethod yX2_isEnded, Cond.selects RX2 yX2_isEnded yX2_isEnded, Cond.code yX2_isEnded cX2_isEnded 1 (some .boolean), Cond.methodLink RX2 81 yX2_endLoading, Cond.instanceMethod yX2_endLoading, Cond.selects RX2 yX2_endLoading yX2_endLoading, Cond.code yX2_endLoading cX2_endLoading 2 none, Cond.methodLink RX2 119 yX0_copy, Cond.instanceMethod yX0_copy, Cond.selects RX0 yX0_copy yX0_copy, Cond.code yX0_copy cX0_copy 4 none, Cond.methodLink RX0 31 arraycopyName, Cond.native arraycopyName, Cond.static arraycopyName, Cond.initialized "java/lang/System", Cond.methodLink RX2 87 yX2_eliminateColumn, Cond.instanceMethod yX2_eliminateColumn, Cond.selects RX2 yX2_eliminateColumn yX2_eliminateColumn, Cond.code yX2_eliminateColumn cX2_eliminateColumn 5 (some .int)]
def wsL_law_r8 : List Cond := [Cond.methodLink RX2 123 yX2_findPivotRow, Cond.instanceMethod yX2_findPivotRow, Cond.selects RX2 yX2_findPivotRow yX2_findPivotRow, Cond.code yX2_findPivotRow cX2_findPivotRow 3 (some .int), Cond.methodLink RX2 133 yX0_signOf, Cond.instanceMethod yX0_signOf, Cond.selects RX0 yX0_signOf yX0_signOf, Cond.code yX0_signOf cX0_signOf 2 (some .int), Cond.methodLink RX2 126 yX2_swapRows, Cond.instanceMethod yX2_swapRows, Cond.selects RX2 yX2_swapRows yX2_swapRows, Cond.code yX2_swapRows cX2_swapRows 4 none, Cond.methodLink RX2 129 yX2_makeMinor, Cond.instanceMethod yX2_makeMinor, Cond.selects RX2 yX2_makeMinor yX2_makeMinor, Cond.code yX2_makeMinor cX2_makeMinor 4 (some .boolean), Cond.methodLink RX2 136 yX1_clear, Cond.instanceMethod yX1_clear, Cond.selects RX1 yX1_clear yX1_clear, Cond.code yX1_clear cX1_clear 1 none, Cond.fieldLink RX1 31 "MinorSteps$Sum" "sign" "I", Cond.fieldLink RX1 34 "MinorSteps$Sum" "length" "I", Cond.methodLink RX1 25 yJ7_fill_53178, Cond.methodLink RX2 138 yX1_addProduct]
def wsL_law_r9 : List Cond := [Cond.instanceMethod yX1_addProduct, Cond.selects RX1 yX1_addProduct yX1_addProduct, Cond.code yX1_addProduct cX1_addProduct 9 none, Cond.methodLink RX1 37 yX0_signOf, Cond.methodLink RX1 43 yX0_lengthOf, Cond.instanceMethod yX0_lengthOf, Cond.selects RX0 yX0_lengthOf yX0_lengthOf, Cond.code yX0_lengthOf cX0_lengthOf 2 (some .int), Cond.methodLink RX1 46 yX0_limbOf, Cond.instanceMethod yX0_limbOf, Cond.selects RX0 yX0_limbOf yX0_limbOf, Cond.code yX0_limbOf cX0_limbOf 3 (some .int), Cond.methodLink RX1 50 yX1_addMultiple, Cond.static yX1_addMultiple, Cond.code yX1_addMultiple cX1_addMultiple 10 none, Cond.constantLong RX1 54 (2147483647), Cond.methodLink RX2 142 yX1_settle, Cond.instanceMethod yX1_settle, Cond.selects RX1 yX1_settle yX1_settle, Cond.code yX1_settle cX1_settle 4 none, Cond.methodLink RX1 56 yX1_compareSides, Cond.instanceMethod yX1_compareSides, Cond.selects RX1 yX1_compareSides yX1_compareSides, Cond.code yX1_compareSides cX1_compareSides 2 (some .int)]
def wsL_law_r10 : List Cond := [Cond.methodLink RX1 60 yX1_trimmed, Cond.static yX1_trimmed, Cond.code yX1_trimmed cX1_trimmed 3 (some .int), Cond.methodLink RX2 145 yX1_divideBy, Cond.instanceMethod yX1_divideBy, Cond.selects RX1 yX1_divideBy yX1_divideBy, Cond.code yX1_divideBy cX1_divideBy 6 none, Cond.methodLink RX1 64 yX1_countZeroLimbs, Cond.instanceMethod yX1_countZeroLimbs, Cond.selects RX1 yX1_countZeroLimbs yX1_countZeroLimbs, Cond.code yX1_countZeroLimbs cX1_countZeroLimbs 3 (some .int), Cond.methodLink RX1 67 yX1_countZeroBits, Cond.static yX1_countZeroBits, Cond.code yX1_countZeroBits cX1_countZeroBits 2 (some .int), Cond.methodLink RX1 70 yX1_shiftDown, Cond.static yX1_shiftDown, Cond.code yX1_shiftDown cX1_shiftDown 9 none, Cond.methodLink RX1 74 yX1_divideByOdd, Cond.instanceMethod yX1_divideByOdd, Cond.selects RX1 yX1_divideByOdd yX1_divideByOdd, Cond.code yX1_divideByOdd cX1_divideByOdd 7 none, Cond.methodLink RX1 78 Lib.Math.max.name, Cond.constant RX1 86 (2147483647), Cond.methodLink RX1 83 yX1_inverseOf]
def wsL_law_r11 : List Cond := [Cond.static yX1_inverseOf, Cond.code yX1_inverseOf cX1_inverseOf 3 (some .int), Cond.methodLink RX1 87 yX1_takeMultiple, Cond.instanceMethod yX1_takeMultiple, Cond.selects RX1 yX1_takeMultiple yX1_takeMultiple, Cond.code yX1_takeMultiple cX1_takeMultiple 9 none, Cond.methodLink RX2 149 yX1_storeIn, Cond.instanceMethod yX1_storeIn, Cond.selects RX1 yX1_storeIn yX1_storeIn, Cond.code yX1_storeIn cX1_storeIn 3 (some .boolean), Cond.methodLink RX1 91 yX0_put, Cond.instanceMethod yX0_put, Cond.selects RX0 yX0_put yX0_put, Cond.code yX0_put cX0_put 5 none, Cond.methodLink RX2 91 yX2_solveRow, Cond.instanceMethod yX2_solveRow, Cond.selects RX2 yX2_solveRow yX2_solveRow, Cond.code yX2_solveRow cX2_solveRow 3 (some .int), Cond.methodLink RX2 153 yX2_finishOutcome, Cond.instanceMethod yX2_finishOutcome, Cond.selects RX2 yX2_finishOutcome yX2_finishOutcome, Cond.code yX2_finishOutcome cX2_finishOutcome 2 none, Cond.methodLink RX2 156 yX0_negate, Cond.instanceMethod yX0_negate]
def wsL_law_r12 : List Cond := [Cond.selects RX0 yX0_negate yX0_negate, Cond.code yX0_negate cX0_negate 2 none, Cond.methodLink RL 39 yX3_step, Cond.instanceMethod yX3_step, Cond.selects RX3 yX3_step yX3_step, Cond.code yX3_step cX3_step 1 (some .int), Cond.methodLink RX3 101 yX3_eliminate, Cond.instanceMethod yX3_eliminate, Cond.selects RX3 yX3_eliminate yX3_eliminate, Cond.code yX3_eliminate cX3_eliminate 5 (some .int), Cond.methodLink RX3 89 yX3_swap, Cond.instanceMethod yX3_swap, Cond.selects RX3 yX3_swap yX3_swap, Cond.code yX3_swap cX3_swap 4 none, Cond.methodLink RX3 85 yX3_copy, Cond.instanceMethod yX3_copy, Cond.selects RX3 yX3_copy yX3_copy, Cond.code yX3_copy cX3_copy 4 none, Cond.methodLink RX3 92 yX3_multiply, Cond.instanceMethod yX3_multiply, Cond.selects RX3 yX3_multiply yX3_multiply, Cond.code yX3_multiply cX3_multiply 10 none, Cond.constantLong RX3 67 (2147483647), Cond.methodLink RX3 63 yX3_count]
def wsL_law_r13 : List Cond := [Cond.instanceMethod yX3_count, Cond.selects RX3 yX3_count yX3_count, Cond.code yX3_count cX3_count 3 (some .int), Cond.methodLink RX3 95 yX3_less, Cond.instanceMethod yX3_less, Cond.selects RX3 yX3_less yX3_less, Cond.code yX3_less cX3_less 4 none, Cond.methodLink RX3 69 yX3_join, Cond.instanceMethod yX3_join, Cond.selects RX3 yX3_join yX3_join, Cond.code yX3_join cX3_join 10 none, Cond.methodLink RX3 73 yX3_compare, Cond.instanceMethod yX3_compare, Cond.selects RX3 yX3_compare yX3_compare, Cond.code yX3_compare cX3_compare 6 (some .int), Cond.methodLink RX3 98 yX3_divide, Cond.instanceMethod yX3_divide, Cond.selects RX3 yX3_divide yX3_divide, Cond.code yX3_divide cX3_divide 17 none, Cond.constantLong RX3 83 (2), Cond.methodLink RX3 76 yX3_zeros, Cond.instanceMethod yX3_zeros, Cond.selects RX3 yX3_zeros yX3_zeros, Cond.code yX3_zeros cX3_zeros 3 (some .int)]
def wsL_law_r14 : List Cond := [Cond.methodLink RX3 79 yX3_shift, Cond.instanceMethod yX3_shift, Cond.selects RX3 yX3_shift yX3_shift, Cond.code yX3_shift cX3_shift 10 none, Cond.methodLink RX3 104 yX3_insert, Cond.instanceMethod yX3_insert, Cond.selects RX3 yX3_insert yX3_insert, Cond.code yX3_insert cX3_insert 3 (some .int), Cond.methodLink RL 40 yX2_status, Cond.instanceMethod yX2_status, Cond.selects RX2 yX2_status yX2_status, Cond.code yX2_status cX2_status 1 (some .int), Cond.methodLink RL 43 yX3_status, Cond.instanceMethod yX3_status, Cond.selects RX3 yX3_status yX3_status, Cond.code yX3_status cX3_status 1 (some .int), Cond.methodLink RL 44 yX2_steps, Cond.instanceMethod yX2_steps, Cond.selects RX2 yX2_steps yX2_steps, Cond.code yX2_steps cX2_steps 1 (some .int), Cond.methodLink RL 47 yX3_steps, Cond.instanceMethod yX3_steps, Cond.selects RX3 yX3_steps yX3_steps, Cond.code yX3_steps cX3_steps 1 (some .int)]
def wsL_law_r15 : List Cond := [Cond.methodLink RL 48 yX2_determinant, Cond.instanceMethod yX2_determinant, Cond.selects RX2 yX2_determinant yX2_determinant, Cond.code yX2_determinant cX2_determinant 2 (some .int), Cond.methodLink RX2 94 yX0_tell, Cond.instanceMethod yX0_tell, Cond.selects RX0 yX0_tell yX0_tell, Cond.code yX0_tell cX0_tell 3 (some .int), Cond.methodLink RX0 37 yX0_limbOf, Cond.methodLink RL 52 yX3_determinant, Cond.instanceMethod yX3_determinant, Cond.selects RX3 yX3_determinant yX3_determinant, Cond.code yX3_determinant cX3_determinant 2 (some .int), Cond.methodLink RX3 107 yX3_told, Cond.instanceMethod yX3_told, Cond.selects RX3 yX3_told yX3_told, Cond.code yX3_told cX3_told 5 (some .int), Cond.methodLink RL 53 yX2_numerator, Cond.instanceMethod yX2_numerator, Cond.selects RX2 yX2_numerator yX2_numerator, Cond.code yX2_numerator cX2_numerator 3 (some .int), Cond.methodLink RL 57 yX3_numerator, Cond.instanceMethod yX3_numerator, Cond.selects RX3 yX3_numerator yX3_numerator]
def wsL_law_r16 : List Cond := [Cond.code yX3_numerator cX3_numerator 3 (some .int), Cond.methodLink RL 58 yX2_pivot, Cond.instanceMethod yX2_pivot, Cond.selects RX2 yX2_pivot yX2_pivot, Cond.code yX2_pivot cX2_pivot 3 (some .int), Cond.methodLink RL 61 yX3_pivot, Cond.instanceMethod yX3_pivot, Cond.selects RX3 yX3_pivot yX3_pivot, Cond.code yX3_pivot cX3_pivot 3 (some .int), Cond.methodLink RL 62 yX2_number, Cond.instanceMethod yX2_number, Cond.selects RX2 yX2_number yX2_number, Cond.code yX2_number cX2_number 4 (some .int), Cond.methodLink RL 66 yX3_number, Cond.instanceMethod yX3_number, Cond.selects RX3 yX3_number yX3_number, Cond.code yX3_number cX3_number 4 (some .int), Cond.methodLink RL 67 yX2_row, Cond.instanceMethod yX2_row, Cond.selects RX2 yX2_row yX2_row, Cond.code yX2_row cX2_row 2 (some .int), Cond.methodLink RL 70 yX3_row, Cond.instanceMethod yX3_row, Cond.selects RX3 yX3_row yX3_row]
def wsL_law_r17 : List Cond := [Cond.code yX3_row cX3_row 2 (some .int), Cond.methodLink RL 71 yX2_holds, Cond.instanceMethod yX2_holds, Cond.selects RX2 yX2_holds yX2_holds, Cond.code yX2_holds cX2_holds 2 (some .boolean), Cond.methodLink RX2 100 yX2_equationHolds, Cond.instanceMethod yX2_equationHolds, Cond.selects RX2 yX2_equationHolds yX2_equationHolds, Cond.code yX2_equationHolds cX2_equationHolds 4 (some .boolean), Cond.methodLink RX2 159 yX1_isZero, Cond.instanceMethod yX1_isZero, Cond.selects RX1 yX1_isZero yX1_isZero, Cond.code yX1_isZero cX1_isZero 1 (some .boolean), Cond.methodLink RL 75 yX3_holds, Cond.instanceMethod yX3_holds, Cond.selects RX3 yX3_holds yX3_holds, Cond.code yX3_holds cX3_holds 1 (some .boolean)]
def wsL_law : List Cond := (wsL_law_r1 ++ (wsL_law_r2 ++ (wsL_law_r3 ++ (wsL_law_r4 ++ (wsL_law_r5 ++ (wsL_law_r6 ++ (wsL_law_r7 ++ (wsL_law_r8 ++ (wsL_law_r9 ++ (wsL_law_r10 ++ (wsL_law_r11 ++ (wsL_law_r12 ++ (wsL_law_r13 ++ (wsL_law_r14 ++ (wsL_law_r15 ++ (wsL_law_r16 ++ wsL_law_r17)))))))))))))))) ++ wsX20 ++ wsX30 ++ wsX00 ++ wsX10 ++ ([] : List Cond)
abbrev vwCl : List vw_C := [(RX0, TX0, 4), (RX1, TX1, 6), (RX2, TX2, 14), (RX3, TX3, 12)]
end
section
theorem dX0_init_0 : decode cX0_init 0 = .ok (.aload_n 0, 1) := by decide +kernel
theorem dX0_init_1 : decode cX0_init 1 = .ok (.invokespecial 3, 3) := by decide +kernel
theorem dX0_init_4 : decode cX0_init 4 = .ok (.aload_n 0, 1) := by decide +kernel
theorem dX0_init_5 : decode cX0_init 5 = .ok (.iload_n 2, 1) := by decide +kernel
theorem dX0_init_6 : decode cX0_init 6 = .ok (.putfield 9, 3) := by decide +kernel
theorem dX0_init_9 : decode cX0_init 9 = .ok (.aload_n 0, 1) := by decide +kernel
theorem dX0_init_10 : decode cX0_init 10 = .ok (.iload_n 1, 1) := by decide +kernel
theorem dX0_init_11 : decode cX0_init 11 = .ok (.newarray .int, 2) := by decide +kernel
theorem dX0_init_13 : decode cX0_init 13 = .ok (.putfield 15, 3) := by decide +kernel
theorem dX0_init_16 : decode cX0_init 16 = .ok (.aload_n 0, 1) := by decide +kernel
theorem dX0_init_17 : decode cX0_init 17 = .ok (.iload_n 1, 1) := by decide +kernel
theorem dX0_init_18 : decode cX0_init 18 = .ok (.newarray .int, 2) := by decide +kernel
theorem dX0_init_20 : decode cX0_init 20 = .ok (.putfield 19, 3) := by decide +kernel
theorem dX0_init_23 : decode cX0_init 23 = .ok (.aload_n 0, 1) := by decide +kernel
theorem dX0_init_24 : decode cX0_init 24 = .ok (.iload_n 1, 1) := by decide +kernel
theorem dX0_init_25 : decode cX0_init 25 = .ok (.iload_n 2, 1) := by decide +kernel
theorem dX0_init_26 : decode cX0_init 26 = .ok (.imul, 1) := by decide +kernel
theorem dX0_init_27 : decode cX0_init 27 = .ok (.newarray .int, 2) := by decide +kernel
theorem dX0_init_29 : decode cX0_init 29 = .ok (.putfield 22, 3) := by decide +kernel
theorem dX0_init_32 : decode cX0_init 32 = .ok (.return_, 1) := by decide +kernel
set_option maxRecDepth 20000 in
theorem ggX0_clearAll_J7_fill_53178 : GoodIn wsX0_clearAll wsJ7_fill_53178 := goodIn_r _ [6] (by decide +kernel) (by decide +kernel)
set_option maxRecDepth 20000 in
theorem gX0_clearAll_J7_fill_53178 : GoodIn wsX0_clearAll (va_wsS RX0 25 yJ7_fill_53178 wsJ7_fill_53178) := goodIn_app (goodIn_of _ (by decide +kernel)) ggX0_clearAll_J7_fill_53178
theorem dX0_clearAll_0 : decode cX0_clearAll 0 = .ok (.aload_n 0, 1) := by decide +kernel
theorem dX0_clearAll_1 : decode cX0_clearAll 1 = .ok (.getfield 15, 3) := by decide +kernel
theorem dX0_clearAll_4 : decode cX0_clearAll 4 = .ok (.iconst 0, 1) := by decide +kernel
theorem dX0_clearAll_5 : decode cX0_clearAll 5 = .ok (.invokestatic 25, 3) := by decide +kernel
theorem dX0_clearAll_8 : decode cX0_clearAll 8 = .ok (.aload_n 0, 1) := by decide +kernel
theorem dX0_clearAll_9 : decode cX0_clearAll 9 = .ok (.getfield 19, 3) := by decide +kernel
theorem dX0_clearAll_12 : decode cX0_clearAll 12 = .ok (.iconst 0, 1) := by decide +kernel
theorem dX0_clearAll_13 : decode cX0_clearAll 13 = .ok (.invokestatic 25, 3) := by decide +kernel
theorem dX0_clearAll_16 : decode cX0_clearAll 16 = .ok (.return_, 1) := by decide +kernel
theorem dX0_clear_0 : decode cX0_clear 0 = .ok (.aload_n 0, 1) := by decide +kernel
theorem dX0_clear_1 : decode cX0_clear 1 = .ok (.getfield 15, 3) := by decide +kernel
theorem dX0_clear_4 : decode cX0_clear 4 = .ok (.iload_n 1, 1) := by decide +kernel
theorem dX0_clear_5 : decode cX0_clear 5 = .ok (.iconst 0, 1) := by decide +kernel
theorem dX0_clear_6 : decode cX0_clear 6 = .ok (.iastore, 1) := by decide +kernel
theorem dX0_clear_7 : decode cX0_clear 7 = .ok (.aload_n 0, 1) := by decide +kernel
theorem dX0_clear_8 : decode cX0_clear 8 = .ok (.getfield 19, 3) := by decide +kernel
theorem dX0_clear_11 : decode cX0_clear 11 = .ok (.iload_n 1, 1) := by decide +kernel
theorem dX0_clear_12 : decode cX0_clear 12 = .ok (.iconst 0, 1) := by decide +kernel
theorem dX0_clear_13 : decode cX0_clear 13 = .ok (.iastore, 1) := by decide +kernel
theorem dX0_clear_14 : decode cX0_clear 14 = .ok (.return_, 1) := by decide +kernel
theorem dX0_signOf_0 : decode cX0_signOf 0 = .ok (.aload_n 0, 1) := by decide +kernel
theorem dX0_signOf_1 : decode cX0_signOf 1 = .ok (.getfield 15, 3) := by decide +kernel
theorem dX0_signOf_4 : decode cX0_signOf 4 = .ok (.iload_n 1, 1) := by decide +kernel
theorem dX0_signOf_5 : decode cX0_signOf 5 = .ok (.iaload, 1) := by decide +kernel
theorem dX0_signOf_6 : decode cX0_signOf 6 = .ok (.ireturn, 1) := by decide +kernel
theorem dX0_lengthOf_0 : decode cX0_lengthOf 0 = .ok (.aload_n 0, 1) := by decide +kernel
theorem dX0_lengthOf_1 : decode cX0_lengthOf 1 = .ok (.getfield 19, 3) := by decide +kernel
theorem dX0_lengthOf_4 : decode cX0_lengthOf 4 = .ok (.iload_n 1, 1) := by decide +kernel
theorem dX0_lengthOf_5 : decode cX0_lengthOf 5 = .ok (.iaload, 1) := by decide +kernel
theorem dX0_lengthOf_6 : decode cX0_lengthOf 6 = .ok (.ireturn, 1) := by decide +kernel
theorem dX0_limbOf_0 : decode cX0_limbOf 0 = .ok (.aload_n 0, 1) := by decide +kernel
theorem dX0_limbOf_1 : decode cX0_limbOf 1 = .ok (.getfield 22, 3) := by decide +kernel
theorem dX0_limbOf_4 : decode cX0_limbOf 4 = .ok (.iload_n 1, 1) := by decide +kernel
theorem dX0_limbOf_5 : decode cX0_limbOf 5 = .ok (.aload_n 0, 1) := by decide +kernel
theorem dX0_limbOf_6 : decode cX0_limbOf 6 = .ok (.getfield 9, 3) := by decide +kernel
theorem dX0_limbOf_9 : decode cX0_limbOf 9 = .ok (.imul, 1) := by decide +kernel
theorem dX0_limbOf_10 : decode cX0_limbOf 10 = .ok (.iload_n 2, 1) := by decide +kernel
theorem dX0_limbOf_11 : decode cX0_limbOf 11 = .ok (.iadd, 1) := by decide +kernel
theorem dX0_limbOf_12 : decode cX0_limbOf 12 = .ok (.iaload, 1) := by decide +kernel
theorem dX0_limbOf_13 : decode cX0_limbOf 13 = .ok (.ireturn, 1) := by decide +kernel
theorem dX0_putLimb_0 : decode cX0_putLimb 0 = .ok (.aload_n 0, 1) := by decide +kernel
theorem dX0_putLimb_1 : decode cX0_putLimb 1 = .ok (.getfield 22, 3) := by decide +kernel
theorem dX0_putLimb_4 : decode cX0_putLimb 4 = .ok (.iload_n 1, 1) := by decide +kernel
theorem dX0_putLimb_5 : decode cX0_putLimb 5 = .ok (.aload_n 0, 1) := by decide +kernel
theorem dX0_putLimb_6 : decode cX0_putLimb 6 = .ok (.getfield 9, 3) := by decide +kernel
theorem dX0_putLimb_9 : decode cX0_putLimb 9 = .ok (.imul, 1) := by decide +kernel
theorem dX0_putLimb_10 : decode cX0_putLimb 10 = .ok (.iload_n 2, 1) := by decide +kernel
theorem dX0_putLimb_11 : decode cX0_putLimb 11 = .ok (.iadd, 1) := by decide +kernel
theorem dX0_putLimb_12 : decode cX0_putLimb 12 = .ok (.iload_n 3, 1) := by decide +kernel
theorem dX0_putLimb_13 : decode cX0_putLimb 13 = .ok (.iastore, 1) := by decide +kernel
theorem dX0_putLimb_14 : decode cX0_putLimb 14 = .ok (.iload_n 3, 1) := by decide +kernel
theorem dX0_putLimb_15 : decode cX0_putLimb 15 = .ok (.ifCond .eq 20, 3) := by decide +kernel
theorem dX0_putLimb_18 : decode cX0_putLimb 18 = .ok (.aload_n 0, 1) := by decide +kernel
theorem dX0_putLimb_19 : decode cX0_putLimb 19 = .ok (.getfield 19, 3) := by decide +kernel
theorem dX0_putLimb_22 : decode cX0_putLimb 22 = .ok (.iload_n 1, 1) := by decide +kernel
theorem dX0_putLimb_23 : decode cX0_putLimb 23 = .ok (.iload_n 2, 1) := by decide +kernel
theorem dX0_putLimb_24 : decode cX0_putLimb 24 = .ok (.iconst 1, 1) := by decide +kernel
theorem dX0_putLimb_25 : decode cX0_putLimb 25 = .ok (.iadd, 1) := by decide +kernel
theorem dX0_putLimb_26 : decode cX0_putLimb 26 = .ok (.iastore, 1) := by decide +kernel
theorem dX0_putLimb_27 : decode cX0_putLimb 27 = .ok (.aload_n 0, 1) := by decide +kernel
theorem dX0_putLimb_28 : decode cX0_putLimb 28 = .ok (.getfield 15, 3) := by decide +kernel
theorem dX0_putLimb_31 : decode cX0_putLimb 31 = .ok (.iload_n 1, 1) := by decide +kernel
theorem dX0_putLimb_32 : decode cX0_putLimb 32 = .ok (.iload 4, 2) := by decide +kernel
theorem dX0_putLimb_34 : decode cX0_putLimb 34 = .ok (.iastore, 1) := by decide +kernel
theorem dX0_putLimb_35 : decode cX0_putLimb 35 = .ok (.return_, 1) := by decide +kernel
theorem dX0_put_0 : decode cX0_put 0 = .ok (.aload_n 2, 1) := by decide +kernel
theorem dX0_put_1 : decode cX0_put 1 = .ok (.iconst 0, 1) := by decide +kernel
theorem dX0_put_2 : decode cX0_put 2 = .ok (.aload_n 0, 1) := by decide +kernel
theorem dX0_put_3 : decode cX0_put 3 = .ok (.getfield 22, 3) := by decide +kernel
theorem dX0_put_6 : decode cX0_put 6 = .ok (.iload_n 1, 1) := by decide +kernel
theorem dX0_put_7 : decode cX0_put 7 = .ok (.aload_n 0, 1) := by decide +kernel
theorem dX0_put_8 : decode cX0_put 8 = .ok (.getfield 9, 3) := by decide +kernel
theorem dX0_put_11 : decode cX0_put 11 = .ok (.imul, 1) := by decide +kernel
theorem dX0_put_12 : decode cX0_put 12 = .ok (.iload_n 3, 1) := by decide +kernel
theorem dX0_put_13 : decode cX0_put 13 = .ok (.invokestatic 31, 3) := by decide +kernel
theorem dX0_put_16 : decode cX0_put 16 = .ok (.aload_n 0, 1) := by decide +kernel
theorem dX0_put_17 : decode cX0_put 17 = .ok (.getfield 19, 3) := by decide +kernel
theorem dX0_put_20 : decode cX0_put 20 = .ok (.iload_n 1, 1) := by decide +kernel
theorem dX0_put_21 : decode cX0_put 21 = .ok (.iload_n 3, 1) := by decide +kernel
theorem dX0_put_22 : decode cX0_put 22 = .ok (.iastore, 1) := by decide +kernel
theorem dX0_put_23 : decode cX0_put 23 = .ok (.aload_n 0, 1) := by decide +kernel
theorem dX0_put_24 : decode cX0_put 24 = .ok (.getfield 15, 3) := by decide +kernel
theorem dX0_put_27 : decode cX0_put 27 = .ok (.iload_n 1, 1) := by decide +kernel
theorem dX0_put_28 : decode cX0_put 28 = .ok (.iload 4, 2) := by decide +kernel
theorem dX0_put_30 : decode cX0_put 30 = .ok (.iastore, 1) := by decide +kernel
theorem dX0_put_31 : decode cX0_put 31 = .ok (.return_, 1) := by decide +kernel
theorem dX0_copy_0 : decode cX0_copy 0 = .ok (.aload_n 2, 1) := by decide +kernel
theorem dX0_copy_1 : decode cX0_copy 1 = .ok (.getfield 22, 3) := by decide +kernel
theorem dX0_copy_4 : decode cX0_copy 4 = .ok (.iload_n 3, 1) := by decide +kernel
theorem dX0_copy_5 : decode cX0_copy 5 = .ok (.aload_n 0, 1) := by decide +kernel
theorem dX0_copy_6 : decode cX0_copy 6 = .ok (.getfield 9, 3) := by decide +kernel
theorem dX0_copy_9 : decode cX0_copy 9 = .ok (.imul, 1) := by decide +kernel
theorem dX0_copy_10 : decode cX0_copy 10 = .ok (.aload_n 0, 1) := by decide +kernel
theorem dX0_copy_11 : decode cX0_copy 11 = .ok (.getfield 22, 3) := by decide +kernel
theorem dX0_copy_14 : decode cX0_copy 14 = .ok (.iload_n 1, 1) := by decide +kernel
theorem dX0_copy_15 : decode cX0_copy 15 = .ok (.aload_n 0, 1) := by decide +kernel
theorem dX0_copy_16 : decode cX0_copy 16 = .ok (.getfield 9, 3) := by decide +kernel
theorem dX0_copy_19 : decode cX0_copy 19 = .ok (.imul, 1) := by decide +kernel
theorem dX0_copy_20 : decode cX0_copy 20 = .ok (.aload_n 2, 1) := by decide +kernel
theorem dX0_copy_21 : decode cX0_copy 21 = .ok (.getfield 19, 3) := by decide +kernel
theorem dX0_copy_24 : decode cX0_copy 24 = .ok (.iload_n 3, 1) := by decide +kernel
theorem dX0_copy_25 : decode cX0_copy 25 = .ok (.iaload, 1) := by decide +kernel
theorem dX0_copy_26 : decode cX0_copy 26 = .ok (.invokestatic 31, 3) := by decide +kernel
theorem dX0_copy_29 : decode cX0_copy 29 = .ok (.aload_n 0, 1) := by decide +kernel
theorem dX0_copy_30 : decode cX0_copy 30 = .ok (.getfield 19, 3) := by decide +kernel
theorem dX0_copy_33 : decode cX0_copy 33 = .ok (.iload_n 1, 1) := by decide +kernel
theorem dX0_copy_34 : decode cX0_copy 34 = .ok (.aload_n 2, 1) := by decide +kernel
theorem dX0_copy_35 : decode cX0_copy 35 = .ok (.getfield 19, 3) := by decide +kernel
theorem dX0_copy_38 : decode cX0_copy 38 = .ok (.iload_n 3, 1) := by decide +kernel
theorem dX0_copy_39 : decode cX0_copy 39 = .ok (.iaload, 1) := by decide +kernel
theorem dX0_copy_40 : decode cX0_copy 40 = .ok (.iastore, 1) := by decide +kernel
theorem dX0_copy_41 : decode cX0_copy 41 = .ok (.aload_n 0, 1) := by decide +kernel
theorem dX0_copy_42 : decode cX0_copy 42 = .ok (.getfield 15, 3) := by decide +kernel
theorem dX0_copy_45 : decode cX0_copy 45 = .ok (.iload_n 1, 1) := by decide +kernel
theorem dX0_copy_46 : decode cX0_copy 46 = .ok (.aload_n 2, 1) := by decide +kernel
theorem dX0_copy_47 : decode cX0_copy 47 = .ok (.getfield 15, 3) := by decide +kernel
theorem dX0_copy_50 : decode cX0_copy 50 = .ok (.iload_n 3, 1) := by decide +kernel
theorem dX0_copy_51 : decode cX0_copy 51 = .ok (.iaload, 1) := by decide +kernel
theorem dX0_copy_52 : decode cX0_copy 52 = .ok (.iastore, 1) := by decide +kernel
theorem dX0_copy_53 : decode cX0_copy 53 = .ok (.return_, 1) := by decide +kernel
theorem dX0_negate_0 : decode cX0_negate 0 = .ok (.aload_n 0, 1) := by decide +kernel
theorem dX0_negate_1 : decode cX0_negate 1 = .ok (.getfield 15, 3) := by decide +kernel
theorem dX0_negate_4 : decode cX0_negate 4 = .ok (.iload_n 1, 1) := by decide +kernel
theorem dX0_negate_5 : decode cX0_negate 5 = .ok (.aload_n 0, 1) := by decide +kernel
theorem dX0_negate_6 : decode cX0_negate 6 = .ok (.getfield 15, 3) := by decide +kernel
theorem dX0_negate_9 : decode cX0_negate 9 = .ok (.iload_n 1, 1) := by decide +kernel
theorem dX0_negate_10 : decode cX0_negate 10 = .ok (.iaload, 1) := by decide +kernel
theorem dX0_negate_11 : decode cX0_negate 11 = .ok (.ineg, 1) := by decide +kernel
theorem dX0_negate_12 : decode cX0_negate 12 = .ok (.iastore, 1) := by decide +kernel
theorem dX0_negate_13 : decode cX0_negate 13 = .ok (.return_, 1) := by decide +kernel
set_option maxRecDepth 20000 in
theorem ggX0_tell_X0_limbOf : GoodIn wsX0_tell wsX0_limbOf := goodIn_r _ [7, 8, 9, 10, 11, 12, 13] (by decide +kernel) (by decide +kernel)
set_option maxRecDepth 20000 in
theorem gX0_tell_X0_limbOf : GoodIn wsX0_tell (wsV RX0 37 RX0 yX0_limbOf wsX0_limbOf) := goodIn_app (goodIn_of _ (by decide +kernel)) ggX0_tell_X0_limbOf
theorem dX0_tell_0 : decode cX0_tell 0 = .ok (.iload_n 2, 1) := by decide +kernel
theorem dX0_tell_1 : decode cX0_tell 1 = .ok (.bipush (-2), 2) := by decide +kernel
theorem dX0_tell_3 : decode cX0_tell 3 = .ok (.if_icmp .ne 10, 3) := by decide +kernel
theorem dX0_tell_6 : decode cX0_tell 6 = .ok (.aload_n 0, 1) := by decide +kernel
theorem dX0_tell_7 : decode cX0_tell 7 = .ok (.getfield 15, 3) := by decide +kernel
theorem dX0_tell_10 : decode cX0_tell 10 = .ok (.iload_n 1, 1) := by decide +kernel
theorem dX0_tell_11 : decode cX0_tell 11 = .ok (.iaload, 1) := by decide +kernel
theorem dX0_tell_12 : decode cX0_tell 12 = .ok (.ireturn, 1) := by decide +kernel
theorem dX0_tell_13 : decode cX0_tell 13 = .ok (.iload_n 2, 1) := by decide +kernel
theorem dX0_tell_14 : decode cX0_tell 14 = .ok (.iconst (-1), 1) := by decide +kernel
theorem dX0_tell_15 : decode cX0_tell 15 = .ok (.if_icmp .ne 10, 3) := by decide +kernel
theorem dX0_tell_18 : decode cX0_tell 18 = .ok (.aload_n 0, 1) := by decide +kernel
theorem dX0_tell_19 : decode cX0_tell 19 = .ok (.getfield 19, 3) := by decide +kernel
theorem dX0_tell_22 : decode cX0_tell 22 = .ok (.iload_n 1, 1) := by decide +kernel
theorem dX0_tell_23 : decode cX0_tell 23 = .ok (.iaload, 1) := by decide +kernel
theorem dX0_tell_24 : decode cX0_tell 24 = .ok (.ireturn, 1) := by decide +kernel
theorem dX0_tell_25 : decode cX0_tell 25 = .ok (.iload_n 2, 1) := by decide +kernel
theorem dX0_tell_26 : decode cX0_tell 26 = .ok (.ifCond .lt 22, 3) := by decide +kernel
theorem dX0_tell_29 : decode cX0_tell 29 = .ok (.iload_n 2, 1) := by decide +kernel
theorem dX0_tell_30 : decode cX0_tell 30 = .ok (.aload_n 0, 1) := by decide +kernel
theorem dX0_tell_31 : decode cX0_tell 31 = .ok (.getfield 19, 3) := by decide +kernel
theorem dX0_tell_34 : decode cX0_tell 34 = .ok (.iload_n 1, 1) := by decide +kernel
theorem dX0_tell_35 : decode cX0_tell 35 = .ok (.iaload, 1) := by decide +kernel
theorem dX0_tell_36 : decode cX0_tell 36 = .ok (.if_icmp .ge 12, 3) := by decide +kernel
theorem dX0_tell_39 : decode cX0_tell 39 = .ok (.aload_n 0, 1) := by decide +kernel
theorem dX0_tell_40 : decode cX0_tell 40 = .ok (.iload_n 1, 1) := by decide +kernel
theorem dX0_tell_41 : decode cX0_tell 41 = .ok (.iload_n 2, 1) := by decide +kernel
theorem dX0_tell_42 : decode cX0_tell 42 = .ok (.invokevirtual 37, 3) := by decide +kernel
theorem dX0_tell_45 : decode cX0_tell 45 = .ok (.goto 4, 3) := by decide +kernel
theorem dX0_tell_48 : decode cX0_tell 48 = .ok (.iconst (-1), 1) := by decide +kernel
theorem dX0_tell_49 : decode cX0_tell 49 = .ok (.ireturn, 1) := by decide +kernel
theorem dX1_init_0 : decode cX1_init 0 = .ok (.aload_n 0, 1) := by decide +kernel
theorem dX1_init_1 : decode cX1_init 1 = .ok (.invokespecial 3, 3) := by decide +kernel
theorem dX1_init_4 : decode cX1_init 4 = .ok (.aload_n 0, 1) := by decide +kernel
theorem dX1_init_5 : decode cX1_init 5 = .ok (.iload_n 1, 1) := by decide +kernel
theorem dX1_init_6 : decode cX1_init 6 = .ok (.putfield 9, 3) := by decide +kernel
theorem dX1_init_9 : decode cX1_init 9 = .ok (.aload_n 0, 1) := by decide +kernel
theorem dX1_init_10 : decode cX1_init 10 = .ok (.iconst 2, 1) := by decide +kernel
theorem dX1_init_11 : decode cX1_init 11 = .ok (.iload_n 1, 1) := by decide +kernel
theorem dX1_init_12 : decode cX1_init 12 = .ok (.imul, 1) := by decide +kernel
theorem dX1_init_13 : decode cX1_init 13 = .ok (.iconst 1, 1) := by decide +kernel
theorem dX1_init_14 : decode cX1_init 14 = .ok (.iadd, 1) := by decide +kernel
theorem dX1_init_15 : decode cX1_init 15 = .ok (.newarray .int, 2) := by decide +kernel
theorem dX1_init_17 : decode cX1_init 17 = .ok (.putfield 15, 3) := by decide +kernel
theorem dX1_init_20 : decode cX1_init 20 = .ok (.aload_n 0, 1) := by decide +kernel
theorem dX1_init_21 : decode cX1_init 21 = .ok (.iconst 2, 1) := by decide +kernel
theorem dX1_init_22 : decode cX1_init 22 = .ok (.iload_n 1, 1) := by decide +kernel
theorem dX1_init_23 : decode cX1_init 23 = .ok (.imul, 1) := by decide +kernel
theorem dX1_init_24 : decode cX1_init 24 = .ok (.iconst 1, 1) := by decide +kernel
theorem dX1_init_25 : decode cX1_init 25 = .ok (.iadd, 1) := by decide +kernel
theorem dX1_init_26 : decode cX1_init 26 = .ok (.newarray .int, 2) := by decide +kernel
theorem dX1_init_28 : decode cX1_init 28 = .ok (.putfield 19, 3) := by decide +kernel
theorem dX1_init_31 : decode cX1_init 31 = .ok (.aload_n 0, 1) := by decide +kernel
theorem dX1_init_32 : decode cX1_init 32 = .ok (.iload_n 1, 1) := by decide +kernel
theorem dX1_init_33 : decode cX1_init 33 = .ok (.newarray .int, 2) := by decide +kernel
theorem dX1_init_35 : decode cX1_init 35 = .ok (.putfield 22, 3) := by decide +kernel
theorem dX1_init_38 : decode cX1_init 38 = .ok (.return_, 1) := by decide +kernel
set_option maxRecDepth 20000 in
theorem ggX1_clear_J7_fill_53178 : GoodIn wsX1_clear wsJ7_fill_53178 := goodIn_r _ [8] (by decide +kernel) (by decide +kernel)
set_option maxRecDepth 20000 in
theorem gX1_clear_J7_fill_53178 : GoodIn wsX1_clear (va_wsS RX1 25 yJ7_fill_53178 wsJ7_fill_53178) := goodIn_app (goodIn_of _ (by decide +kernel)) ggX1_clear_J7_fill_53178
theorem dX1_clear_0 : decode cX1_clear 0 = .ok (.aload_n 0, 1) := by decide +kernel
theorem dX1_clear_1 : decode cX1_clear 1 = .ok (.getfield 15, 3) := by decide +kernel
theorem dX1_clear_4 : decode cX1_clear 4 = .ok (.iconst 0, 1) := by decide +kernel
theorem dX1_clear_5 : decode cX1_clear 5 = .ok (.invokestatic 25, 3) := by decide +kernel
theorem dX1_clear_8 : decode cX1_clear 8 = .ok (.aload_n 0, 1) := by decide +kernel
theorem dX1_clear_9 : decode cX1_clear 9 = .ok (.getfield 19, 3) := by decide +kernel
theorem dX1_clear_12 : decode cX1_clear 12 = .ok (.iconst 0, 1) := by decide +kernel
theorem dX1_clear_13 : decode cX1_clear 13 = .ok (.invokestatic 25, 3) := by decide +kernel
theorem dX1_clear_16 : decode cX1_clear 16 = .ok (.aload_n 0, 1) := by decide +kernel
theorem dX1_clear_17 : decode cX1_clear 17 = .ok (.iconst 0, 1) := by decide +kernel
theorem dX1_clear_18 : decode cX1_clear 18 = .ok (.putfield 31, 3) := by decide +kernel
theorem dX1_clear_21 : decode cX1_clear 21 = .ok (.aload_n 0, 1) := by decide +kernel
theorem dX1_clear_22 : decode cX1_clear 22 = .ok (.iconst 0, 1) := by decide +kernel
theorem dX1_clear_23 : decode cX1_clear 23 = .ok (.putfield 34, 3) := by decide +kernel
theorem dX1_clear_26 : decode cX1_clear 26 = .ok (.return_, 1) := by decide +kernel
set_option maxRecDepth 20000 in
theorem ggX1_addProduct_X0_signOf : GoodIn wsX1_addProduct wsX0_signOf := goodIn_r _ [7, 8, 31, 32, 33, 34] (by decide +kernel) (by decide +kernel)
set_option maxRecDepth 20000 in
theorem gX1_addProduct_X0_signOf : GoodIn wsX1_addProduct (wsV RX1 37 RX0 yX0_signOf wsX0_signOf) := goodIn_app (goodIn_of _ (by decide +kernel)) ggX1_addProduct_X0_signOf
set_option maxRecDepth 20000 in
theorem ggX1_addProduct_X0_lengthOf : GoodIn wsX1_addProduct wsX0_lengthOf := goodIn_r _ [12, 13, 31, 32, 33, 34] (by decide +kernel) (by decide +kernel)
set_option maxRecDepth 20000 in
theorem gX1_addProduct_X0_lengthOf : GoodIn wsX1_addProduct (wsV RX1 43 RX0 yX0_lengthOf wsX0_lengthOf) := goodIn_app (goodIn_of _ (by decide +kernel)) ggX1_addProduct_X0_lengthOf
set_option maxRecDepth 20000 in
theorem ggX1_addProduct_X0_limbOf : GoodIn wsX1_addProduct wsX0_limbOf := goodIn_r _ [17, 18, 19, 31, 32, 33, 34] (by decide +kernel) (by decide +kernel)
set_option maxRecDepth 20000 in
theorem gX1_addProduct_X0_limbOf : GoodIn wsX1_addProduct (wsV RX1 46 RX0 yX0_limbOf wsX0_limbOf) := goodIn_app (goodIn_of _ (by decide +kernel)) ggX1_addProduct_X0_limbOf
set_option maxRecDepth 20000 in
theorem ggX1_addProduct_X1_addMultiple : GoodIn wsX1_addProduct wsX1_addMultiple := goodIn_r _ [23, 24, 9, 10, 11, 6, 12, 13, 14, 15, 16, 17, 18, 19, 31, 32, 33, 34] (by decide +kernel) (by decide +kernel)
set_option maxRecDepth 20000 in
theorem gX1_addProduct_X1_addMultiple : GoodIn wsX1_addProduct (va_wsS RX1 50 yX1_addMultiple wsX1_addMultiple) := goodIn_app (goodIn_of _ (by decide +kernel)) ggX1_addProduct_X1_addMultiple
theorem dX1_addProduct_0 : decode cX1_addProduct 0 = .ok (.aload_n 1, 1) := by decide +kernel
theorem dX1_addProduct_1 : decode cX1_addProduct 1 = .ok (.iload_n 2, 1) := by decide +kernel
theorem dX1_addProduct_2 : decode cX1_addProduct 2 = .ok (.invokevirtual 37, 3) := by decide +kernel
theorem dX1_addProduct_5 : decode cX1_addProduct 5 = .ok (.aload_n 3, 1) := by decide +kernel
theorem dX1_addProduct_6 : decode cX1_addProduct 6 = .ok (.iload 4, 2) := by decide +kernel
theorem dX1_addProduct_8 : decode cX1_addProduct 8 = .ok (.invokevirtual 37, 3) := by decide +kernel
theorem dX1_addProduct_11 : decode cX1_addProduct 11 = .ok (.imul, 1) := by decide +kernel
theorem dX1_addProduct_12 : decode cX1_addProduct 12 = .ok (.iload 5, 2) := by decide +kernel
theorem dX1_addProduct_14 : decode cX1_addProduct 14 = .ok (.imul, 1) := by decide +kernel
theorem dX1_addProduct_15 : decode cX1_addProduct 15 = .ok (.istore 6, 2) := by decide +kernel
theorem dX1_addProduct_17 : decode cX1_addProduct 17 = .ok (.iload 6, 2) := by decide +kernel
theorem dX1_addProduct_19 : decode cX1_addProduct 19 = .ok (.ifCond .ne 4, 3) := by decide +kernel
theorem dX1_addProduct_22 : decode cX1_addProduct 22 = .ok (.return_, 1) := by decide +kernel
theorem dX1_addProduct_23 : decode cX1_addProduct 23 = .ok (.iload 6, 2) := by decide +kernel
theorem dX1_addProduct_25 : decode cX1_addProduct 25 = .ok (.ifCond .le 10, 3) := by decide +kernel
theorem dX1_addProduct_28 : decode cX1_addProduct 28 = .ok (.aload_n 0, 1) := by decide +kernel
theorem dX1_addProduct_29 : decode cX1_addProduct 29 = .ok (.getfield 15, 3) := by decide +kernel
theorem dX1_addProduct_32 : decode cX1_addProduct 32 = .ok (.goto 7, 3) := by decide +kernel
theorem dX1_addProduct_35 : decode cX1_addProduct 35 = .ok (.aload_n 0, 1) := by decide +kernel
theorem dX1_addProduct_36 : decode cX1_addProduct 36 = .ok (.getfield 19, 3) := by decide +kernel
theorem dX1_addProduct_39 : decode cX1_addProduct 39 = .ok (.astore 7, 2) := by decide +kernel
theorem dX1_addProduct_41 : decode cX1_addProduct 41 = .ok (.iconst 0, 1) := by decide +kernel
theorem dX1_addProduct_42 : decode cX1_addProduct 42 = .ok (.istore 8, 2) := by decide +kernel
theorem dX1_addProduct_44 : decode cX1_addProduct 44 = .ok (.iload 8, 2) := by decide +kernel
theorem dX1_addProduct_46 : decode cX1_addProduct 46 = .ok (.aload_n 1, 1) := by decide +kernel
theorem dX1_addProduct_47 : decode cX1_addProduct 47 = .ok (.iload_n 2, 1) := by decide +kernel
theorem dX1_addProduct_48 : decode cX1_addProduct 48 = .ok (.invokevirtual 43, 3) := by decide +kernel
theorem dX1_addProduct_51 : decode cX1_addProduct 51 = .ok (.if_icmp .ge 27, 3) := by decide +kernel
theorem dX1_addProduct_54 : decode cX1_addProduct 54 = .ok (.aload 7, 2) := by decide +kernel
theorem dX1_addProduct_56 : decode cX1_addProduct 56 = .ok (.iload 8, 2) := by decide +kernel
theorem dX1_addProduct_58 : decode cX1_addProduct 58 = .ok (.aload_n 3, 1) := by decide +kernel
theorem dX1_addProduct_59 : decode cX1_addProduct 59 = .ok (.iload 4, 2) := by decide +kernel
theorem dX1_addProduct_61 : decode cX1_addProduct 61 = .ok (.aload_n 1, 1) := by decide +kernel
theorem dX1_addProduct_62 : decode cX1_addProduct 62 = .ok (.iload_n 2, 1) := by decide +kernel
theorem dX1_addProduct_63 : decode cX1_addProduct 63 = .ok (.iload 8, 2) := by decide +kernel
theorem dX1_addProduct_65 : decode cX1_addProduct 65 = .ok (.invokevirtual 46, 3) := by decide +kernel
theorem dX1_addProduct_68 : decode cX1_addProduct 68 = .ok (.i2l, 1) := by decide +kernel
theorem dX1_addProduct_69 : decode cX1_addProduct 69 = .ok (.invokestatic 50, 3) := by decide +kernel
theorem dX1_addProduct_72 : decode cX1_addProduct 72 = .ok (.iinc 8 1, 3) := by decide +kernel
theorem dX1_addProduct_75 : decode cX1_addProduct 75 = .ok (.goto (-31), 3) := by decide +kernel
theorem dX1_addProduct_78 : decode cX1_addProduct 78 = .ok (.return_, 1) := by decide +kernel
set_option maxRecDepth 20000 in
theorem ggX1_addMultiple_X0_lengthOf : GoodIn wsX1_addMultiple wsX0_lengthOf := goodIn_r _ [6, 7, 14, 15, 16, 17] (by decide +kernel) (by decide +kernel)
set_option maxRecDepth 20000 in
theorem gX1_addMultiple_X0_lengthOf : GoodIn wsX1_addMultiple (wsV RX1 43 RX0 yX0_lengthOf wsX0_lengthOf) := goodIn_app (goodIn_of _ (by decide +kernel)) ggX1_addMultiple_X0_lengthOf
set_option maxRecDepth 20000 in
theorem ggX1_addMultiple_X0_limbOf : GoodIn wsX1_addMultiple wsX0_limbOf := goodIn_r _ [11, 12, 13, 14, 15, 16, 17] (by decide +kernel) (by decide +kernel)
set_option maxRecDepth 20000 in
theorem gX1_addMultiple_X0_limbOf : GoodIn wsX1_addMultiple (wsV RX1 46 RX0 yX0_limbOf wsX0_limbOf) := goodIn_app (goodIn_of _ (by decide +kernel)) ggX1_addMultiple_X0_limbOf
theorem dX1_addMultiple_0 : decode cX1_addMultiple 0 = .ok (.aload_n 2, 1) := by decide +kernel
theorem dX1_addMultiple_1 : decode cX1_addMultiple 1 = .ok (.iload_n 3, 1) := by decide +kernel
theorem dX1_addMultiple_2 : decode cX1_addMultiple 2 = .ok (.invokevirtual 43, 3) := by decide +kernel
theorem dX1_addMultiple_5 : decode cX1_addMultiple 5 = .ok (.istore 6, 2) := by decide +kernel
theorem dX1_addMultiple_7 : decode cX1_addMultiple 7 = .ok (.lconst 0, 1) := by decide +kernel
theorem dX1_addMultiple_8 : decode cX1_addMultiple 8 = .ok (.lstore 7, 2) := by decide +kernel
theorem dX1_addMultiple_10 : decode cX1_addMultiple 10 = .ok (.iconst 0, 1) := by decide +kernel
theorem dX1_addMultiple_11 : decode cX1_addMultiple 11 = .ok (.istore 9, 2) := by decide +kernel
theorem dX1_addMultiple_13 : decode cX1_addMultiple 13 = .ok (.iload 9, 2) := by decide +kernel
theorem dX1_addMultiple_15 : decode cX1_addMultiple 15 = .ok (.iload 6, 2) := by decide +kernel
theorem dX1_addMultiple_17 : decode cX1_addMultiple 17 = .ok (.if_icmp .ge 53, 3) := by decide +kernel
theorem dX1_addMultiple_20 : decode cX1_addMultiple 20 = .ok (.lload 7, 2) := by decide +kernel
theorem dX1_addMultiple_22 : decode cX1_addMultiple 22 = .ok (.aload_n 0, 1) := by decide +kernel
theorem dX1_addMultiple_23 : decode cX1_addMultiple 23 = .ok (.iload_n 1, 1) := by decide +kernel
theorem dX1_addMultiple_24 : decode cX1_addMultiple 24 = .ok (.iload 9, 2) := by decide +kernel
theorem dX1_addMultiple_26 : decode cX1_addMultiple 26 = .ok (.iadd, 1) := by decide +kernel
theorem dX1_addMultiple_27 : decode cX1_addMultiple 27 = .ok (.iaload, 1) := by decide +kernel
theorem dX1_addMultiple_28 : decode cX1_addMultiple 28 = .ok (.i2l, 1) := by decide +kernel
theorem dX1_addMultiple_29 : decode cX1_addMultiple 29 = .ok (.lload 4, 2) := by decide +kernel
theorem dX1_addMultiple_31 : decode cX1_addMultiple 31 = .ok (.aload_n 2, 1) := by decide +kernel
theorem dX1_addMultiple_32 : decode cX1_addMultiple 32 = .ok (.iload_n 3, 1) := by decide +kernel
theorem dX1_addMultiple_33 : decode cX1_addMultiple 33 = .ok (.iload 9, 2) := by decide +kernel
theorem dX1_addMultiple_35 : decode cX1_addMultiple 35 = .ok (.invokevirtual 46, 3) := by decide +kernel
theorem dX1_addMultiple_38 : decode cX1_addMultiple 38 = .ok (.i2l, 1) := by decide +kernel
theorem dX1_addMultiple_39 : decode cX1_addMultiple 39 = .ok (.lmul, 1) := by decide +kernel
theorem dX1_addMultiple_40 : decode cX1_addMultiple 40 = .ok (.ladd, 1) := by decide +kernel
theorem dX1_addMultiple_41 : decode cX1_addMultiple 41 = .ok (.ladd, 1) := by decide +kernel
theorem dX1_addMultiple_42 : decode cX1_addMultiple 42 = .ok (.lstore 7, 2) := by decide +kernel
theorem dX1_addMultiple_44 : decode cX1_addMultiple 44 = .ok (.aload_n 0, 1) := by decide +kernel
theorem dX1_addMultiple_45 : decode cX1_addMultiple 45 = .ok (.iload_n 1, 1) := by decide +kernel
theorem dX1_addMultiple_46 : decode cX1_addMultiple 46 = .ok (.iload 9, 2) := by decide +kernel
theorem dX1_addMultiple_48 : decode cX1_addMultiple 48 = .ok (.iadd, 1) := by decide +kernel
theorem dX1_addMultiple_49 : decode cX1_addMultiple 49 = .ok (.lload 7, 2) := by decide +kernel
theorem dX1_addMultiple_51 : decode cX1_addMultiple 51 = .ok (.ldc2_w 54, 3) := by decide +kernel
theorem dX1_addMultiple_54 : decode cX1_addMultiple 54 = .ok (.land, 1) := by decide +kernel
theorem dX1_addMultiple_55 : decode cX1_addMultiple 55 = .ok (.l2i, 1) := by decide +kernel
theorem dX1_addMultiple_56 : decode cX1_addMultiple 56 = .ok (.iastore, 1) := by decide +kernel
theorem dX1_addMultiple_57 : decode cX1_addMultiple 57 = .ok (.lload 7, 2) := by decide +kernel
theorem dX1_addMultiple_59 : decode cX1_addMultiple 59 = .ok (.bipush 31, 2) := by decide +kernel
theorem dX1_addMultiple_61 : decode cX1_addMultiple 61 = .ok (.lshr, 1) := by decide +kernel
theorem dX1_addMultiple_62 : decode cX1_addMultiple 62 = .ok (.lstore 7, 2) := by decide +kernel
theorem dX1_addMultiple_64 : decode cX1_addMultiple 64 = .ok (.iinc 9 1, 3) := by decide +kernel
theorem dX1_addMultiple_67 : decode cX1_addMultiple 67 = .ok (.goto (-54), 3) := by decide +kernel
theorem dX1_addMultiple_70 : decode cX1_addMultiple 70 = .ok (.iload_n 1, 1) := by decide +kernel
theorem dX1_addMultiple_71 : decode cX1_addMultiple 71 = .ok (.iload 6, 2) := by decide +kernel
theorem dX1_addMultiple_73 : decode cX1_addMultiple 73 = .ok (.iadd, 1) := by decide +kernel
theorem dX1_addMultiple_74 : decode cX1_addMultiple 74 = .ok (.istore 9, 2) := by decide +kernel
theorem dX1_addMultiple_76 : decode cX1_addMultiple 76 = .ok (.lload 7, 2) := by decide +kernel
theorem dX1_addMultiple_78 : decode cX1_addMultiple 78 = .ok (.lconst 0, 1) := by decide +kernel
theorem dX1_addMultiple_79 : decode cX1_addMultiple 79 = .ok (.lcmp, 1) := by decide +kernel
theorem dX1_addMultiple_80 : decode cX1_addMultiple 80 = .ok (.ifCond .eq 44, 3) := by decide +kernel
theorem dX1_addMultiple_83 : decode cX1_addMultiple 83 = .ok (.iload 9, 2) := by decide +kernel
theorem dX1_addMultiple_85 : decode cX1_addMultiple 85 = .ok (.aload_n 0, 1) := by decide +kernel
theorem dX1_addMultiple_86 : decode cX1_addMultiple 86 = .ok (.arraylength, 1) := by decide +kernel
theorem dX1_addMultiple_87 : decode cX1_addMultiple 87 = .ok (.if_icmp .ge 37, 3) := by decide +kernel
theorem dX1_addMultiple_90 : decode cX1_addMultiple 90 = .ok (.lload 7, 2) := by decide +kernel
theorem dX1_addMultiple_92 : decode cX1_addMultiple 92 = .ok (.aload_n 0, 1) := by decide +kernel
theorem dX1_addMultiple_93 : decode cX1_addMultiple 93 = .ok (.iload 9, 2) := by decide +kernel
theorem dX1_addMultiple_95 : decode cX1_addMultiple 95 = .ok (.iaload, 1) := by decide +kernel
theorem dX1_addMultiple_96 : decode cX1_addMultiple 96 = .ok (.i2l, 1) := by decide +kernel
theorem dX1_addMultiple_97 : decode cX1_addMultiple 97 = .ok (.ladd, 1) := by decide +kernel
theorem dX1_addMultiple_98 : decode cX1_addMultiple 98 = .ok (.lstore 7, 2) := by decide +kernel
theorem dX1_addMultiple_100 : decode cX1_addMultiple 100 = .ok (.aload_n 0, 1) := by decide +kernel
theorem dX1_addMultiple_101 : decode cX1_addMultiple 101 = .ok (.iload 9, 2) := by decide +kernel
theorem dX1_addMultiple_103 : decode cX1_addMultiple 103 = .ok (.lload 7, 2) := by decide +kernel
theorem dX1_addMultiple_105 : decode cX1_addMultiple 105 = .ok (.ldc2_w 54, 3) := by decide +kernel
theorem dX1_addMultiple_108 : decode cX1_addMultiple 108 = .ok (.land, 1) := by decide +kernel
theorem dX1_addMultiple_109 : decode cX1_addMultiple 109 = .ok (.l2i, 1) := by decide +kernel
theorem dX1_addMultiple_110 : decode cX1_addMultiple 110 = .ok (.iastore, 1) := by decide +kernel
theorem dX1_addMultiple_111 : decode cX1_addMultiple 111 = .ok (.lload 7, 2) := by decide +kernel
theorem dX1_addMultiple_113 : decode cX1_addMultiple 113 = .ok (.bipush 31, 2) := by decide +kernel
theorem dX1_addMultiple_115 : decode cX1_addMultiple 115 = .ok (.lshr, 1) := by decide +kernel
theorem dX1_addMultiple_116 : decode cX1_addMultiple 116 = .ok (.lstore 7, 2) := by decide +kernel
theorem dX1_addMultiple_118 : decode cX1_addMultiple 118 = .ok (.iinc 9 1, 3) := by decide +kernel
theorem dX1_addMultiple_121 : decode cX1_addMultiple 121 = .ok (.goto (-45), 3) := by decide +kernel
theorem dX1_addMultiple_124 : decode cX1_addMultiple 124 = .ok (.return_, 1) := by decide +kernel
set_option maxRecDepth 20000 in
theorem ggX1_isZero_X1_compareSides : GoodIn wsX1_isZero wsX1_compareSides := goodIn_r _ [5, 6, 7, 8, 9, 10, 11, 12, 13] (by decide +kernel) (by decide +kernel)
set_option maxRecDepth 20000 in
theorem gX1_isZero_X1_compareSides : GoodIn wsX1_isZero (wsV RX1 56 RX1 yX1_compareSides wsX1_compareSides) := goodIn_app (goodIn_of _ (by decide +kernel)) ggX1_isZero_X1_compareSides
theorem dX1_isZero_0 : decode cX1_isZero 0 = .ok (.aload_n 0, 1) := by decide +kernel
theorem dX1_isZero_1 : decode cX1_isZero 1 = .ok (.invokevirtual 56, 3) := by decide +kernel
theorem dX1_isZero_4 : decode cX1_isZero 4 = .ok (.ifCond .ne 7, 3) := by decide +kernel
theorem dX1_isZero_7 : decode cX1_isZero 7 = .ok (.iconst 1, 1) := by decide +kernel
theorem dX1_isZero_8 : decode cX1_isZero 8 = .ok (.goto 4, 3) := by decide +kernel
theorem dX1_isZero_11 : decode cX1_isZero 11 = .ok (.iconst 0, 1) := by decide +kernel
theorem dX1_isZero_12 : decode cX1_isZero 12 = .ok (.ireturn, 1) := by decide +kernel
set_option maxRecDepth 20000 in
theorem ggX1_settle_X1_compareSides : GoodIn wsX1_settle wsX1_compareSides := goodIn_r _ [10, 2, 3, 14, 15, 16, 17, 18, 19] (by decide +kernel) (by decide +kernel)
set_option maxRecDepth 20000 in
theorem gX1_settle_X1_compareSides : GoodIn wsX1_settle (wsV RX1 56 RX1 yX1_compareSides wsX1_compareSides) := goodIn_app (goodIn_of _ (by decide +kernel)) ggX1_settle_X1_compareSides
set_option maxRecDepth 20000 in
theorem ggX1_settle_X1_trimmed : GoodIn wsX1_settle wsX1_trimmed := goodIn_r _ [13] (by decide +kernel) (by decide +kernel)
set_option maxRecDepth 20000 in
theorem gX1_settle_X1_trimmed : GoodIn wsX1_settle (va_wsS RX1 60 yX1_trimmed wsX1_trimmed) := goodIn_app (goodIn_of _ (by decide +kernel)) ggX1_settle_X1_trimmed
theorem dX1_settle_0 : decode cX1_settle 0 = .ok (.aload_n 0, 1) := by decide +kernel
theorem dX1_settle_1 : decode cX1_settle 1 = .ok (.aload_n 0, 1) := by decide +kernel
theorem dX1_settle_2 : decode cX1_settle 2 = .ok (.invokevirtual 56, 3) := by decide +kernel
theorem dX1_settle_5 : decode cX1_settle 5 = .ok (.putfield 31, 3) := by decide +kernel
theorem dX1_settle_8 : decode cX1_settle 8 = .ok (.lconst 0, 1) := by decide +kernel
theorem dX1_settle_9 : decode cX1_settle 9 = .ok (.lstore_n 1, 1) := by decide +kernel
theorem dX1_settle_10 : decode cX1_settle 10 = .ok (.iconst 0, 1) := by decide +kernel
theorem dX1_settle_11 : decode cX1_settle 11 = .ok (.istore_n 3, 1) := by decide +kernel
theorem dX1_settle_12 : decode cX1_settle 12 = .ok (.iload_n 3, 1) := by decide +kernel
theorem dX1_settle_13 : decode cX1_settle 13 = .ok (.aload_n 0, 1) := by decide +kernel
theorem dX1_settle_14 : decode cX1_settle 14 = .ok (.getfield 15, 3) := by decide +kernel
theorem dX1_settle_17 : decode cX1_settle 17 = .ok (.arraylength, 1) := by decide +kernel
theorem dX1_settle_18 : decode cX1_settle 18 = .ok (.if_icmp .ge 50, 3) := by decide +kernel
theorem dX1_settle_21 : decode cX1_settle 21 = .ok (.lload_n 1, 1) := by decide +kernel
theorem dX1_settle_22 : decode cX1_settle 22 = .ok (.aload_n 0, 1) := by decide +kernel
theorem dX1_settle_23 : decode cX1_settle 23 = .ok (.getfield 31, 3) := by decide +kernel
theorem dX1_settle_26 : decode cX1_settle 26 = .ok (.i2l, 1) := by decide +kernel
theorem dX1_settle_27 : decode cX1_settle 27 = .ok (.aload_n 0, 1) := by decide +kernel
theorem dX1_settle_28 : decode cX1_settle 28 = .ok (.getfield 15, 3) := by decide +kernel
theorem dX1_settle_31 : decode cX1_settle 31 = .ok (.iload_n 3, 1) := by decide +kernel
theorem dX1_settle_32 : decode cX1_settle 32 = .ok (.iaload, 1) := by decide +kernel
theorem dX1_settle_33 : decode cX1_settle 33 = .ok (.i2l, 1) := by decide +kernel
theorem dX1_settle_34 : decode cX1_settle 34 = .ok (.aload_n 0, 1) := by decide +kernel
theorem dX1_settle_35 : decode cX1_settle 35 = .ok (.getfield 19, 3) := by decide +kernel
theorem dX1_settle_38 : decode cX1_settle 38 = .ok (.iload_n 3, 1) := by decide +kernel
theorem dX1_settle_39 : decode cX1_settle 39 = .ok (.iaload, 1) := by decide +kernel
theorem dX1_settle_40 : decode cX1_settle 40 = .ok (.i2l, 1) := by decide +kernel
theorem dX1_settle_41 : decode cX1_settle 41 = .ok (.lsub, 1) := by decide +kernel
theorem dX1_settle_42 : decode cX1_settle 42 = .ok (.lmul, 1) := by decide +kernel
theorem dX1_settle_43 : decode cX1_settle 43 = .ok (.ladd, 1) := by decide +kernel
theorem dX1_settle_44 : decode cX1_settle 44 = .ok (.lstore_n 1, 1) := by decide +kernel
theorem dX1_settle_45 : decode cX1_settle 45 = .ok (.aload_n 0, 1) := by decide +kernel
theorem dX1_settle_46 : decode cX1_settle 46 = .ok (.getfield 15, 3) := by decide +kernel
theorem dX1_settle_49 : decode cX1_settle 49 = .ok (.iload_n 3, 1) := by decide +kernel
theorem dX1_settle_50 : decode cX1_settle 50 = .ok (.lload_n 1, 1) := by decide +kernel
theorem dX1_settle_51 : decode cX1_settle 51 = .ok (.ldc2_w 54, 3) := by decide +kernel
theorem dX1_settle_54 : decode cX1_settle 54 = .ok (.land, 1) := by decide +kernel
theorem dX1_settle_55 : decode cX1_settle 55 = .ok (.l2i, 1) := by decide +kernel
theorem dX1_settle_56 : decode cX1_settle 56 = .ok (.iastore, 1) := by decide +kernel
theorem dX1_settle_57 : decode cX1_settle 57 = .ok (.lload_n 1, 1) := by decide +kernel
theorem dX1_settle_58 : decode cX1_settle 58 = .ok (.bipush 31, 2) := by decide +kernel
theorem dX1_settle_60 : decode cX1_settle 60 = .ok (.lshr, 1) := by decide +kernel
theorem dX1_settle_61 : decode cX1_settle 61 = .ok (.lstore_n 1, 1) := by decide +kernel
theorem dX1_settle_62 : decode cX1_settle 62 = .ok (.iinc 3 1, 3) := by decide +kernel
theorem dX1_settle_65 : decode cX1_settle 65 = .ok (.goto (-53), 3) := by decide +kernel
theorem dX1_settle_68 : decode cX1_settle 68 = .ok (.aload_n 0, 1) := by decide +kernel
theorem dX1_settle_69 : decode cX1_settle 69 = .ok (.aload_n 0, 1) := by decide +kernel
theorem dX1_settle_70 : decode cX1_settle 70 = .ok (.getfield 15, 3) := by decide +kernel
theorem dX1_settle_73 : decode cX1_settle 73 = .ok (.aload_n 0, 1) := by decide +kernel
theorem dX1_settle_74 : decode cX1_settle 74 = .ok (.getfield 15, 3) := by decide +kernel
theorem dX1_settle_77 : decode cX1_settle 77 = .ok (.arraylength, 1) := by decide +kernel
theorem dX1_settle_78 : decode cX1_settle 78 = .ok (.invokestatic 60, 3) := by decide +kernel
theorem dX1_settle_81 : decode cX1_settle 81 = .ok (.putfield 34, 3) := by decide +kernel
theorem dX1_settle_84 : decode cX1_settle 84 = .ok (.return_, 1) := by decide +kernel
theorem dX1_compareSides_0 : decode cX1_compareSides 0 = .ok (.aload_n 0, 1) := by decide +kernel
theorem dX1_compareSides_1 : decode cX1_compareSides 1 = .ok (.getfield 15, 3) := by decide +kernel
theorem dX1_compareSides_4 : decode cX1_compareSides 4 = .ok (.arraylength, 1) := by decide +kernel
theorem dX1_compareSides_5 : decode cX1_compareSides 5 = .ok (.iconst 1, 1) := by decide +kernel
end
section
theorem dX1_compareSides_6 : decode cX1_compareSides 6 = .ok (.isub, 1) := by decide +kernel
theorem dX1_compareSides_7 : decode cX1_compareSides 7 = .ok (.istore_n 1, 1) := by decide +kernel
theorem dX1_compareSides_8 : decode cX1_compareSides 8 = .ok (.iload_n 1, 1) := by decide +kernel
theorem dX1_compareSides_9 : decode cX1_compareSides 9 = .ok (.ifCond .lt 45, 3) := by decide +kernel
theorem dX1_compareSides_12 : decode cX1_compareSides 12 = .ok (.aload_n 0, 1) := by decide +kernel
theorem dX1_compareSides_13 : decode cX1_compareSides 13 = .ok (.getfield 15, 3) := by decide +kernel
theorem dX1_compareSides_16 : decode cX1_compareSides 16 = .ok (.iload_n 1, 1) := by decide +kernel
theorem dX1_compareSides_17 : decode cX1_compareSides 17 = .ok (.iaload, 1) := by decide +kernel
theorem dX1_compareSides_18 : decode cX1_compareSides 18 = .ok (.aload_n 0, 1) := by decide +kernel
theorem dX1_compareSides_19 : decode cX1_compareSides 19 = .ok (.getfield 19, 3) := by decide +kernel
theorem dX1_compareSides_22 : decode cX1_compareSides 22 = .ok (.iload_n 1, 1) := by decide +kernel
theorem dX1_compareSides_23 : decode cX1_compareSides 23 = .ok (.iaload, 1) := by decide +kernel
theorem dX1_compareSides_24 : decode cX1_compareSides 24 = .ok (.if_icmp .eq 24, 3) := by decide +kernel
theorem dX1_compareSides_27 : decode cX1_compareSides 27 = .ok (.aload_n 0, 1) := by decide +kernel
theorem dX1_compareSides_28 : decode cX1_compareSides 28 = .ok (.getfield 15, 3) := by decide +kernel
theorem dX1_compareSides_31 : decode cX1_compareSides 31 = .ok (.iload_n 1, 1) := by decide +kernel
theorem dX1_compareSides_32 : decode cX1_compareSides 32 = .ok (.iaload, 1) := by decide +kernel
theorem dX1_compareSides_33 : decode cX1_compareSides 33 = .ok (.aload_n 0, 1) := by decide +kernel
theorem dX1_compareSides_34 : decode cX1_compareSides 34 = .ok (.getfield 19, 3) := by decide +kernel
theorem dX1_compareSides_37 : decode cX1_compareSides 37 = .ok (.iload_n 1, 1) := by decide +kernel
theorem dX1_compareSides_38 : decode cX1_compareSides 38 = .ok (.iaload, 1) := by decide +kernel
theorem dX1_compareSides_39 : decode cX1_compareSides 39 = .ok (.if_icmp .le 7, 3) := by decide +kernel
theorem dX1_compareSides_42 : decode cX1_compareSides 42 = .ok (.iconst 1, 1) := by decide +kernel
theorem dX1_compareSides_43 : decode cX1_compareSides 43 = .ok (.goto 4, 3) := by decide +kernel
theorem dX1_compareSides_46 : decode cX1_compareSides 46 = .ok (.iconst (-1), 1) := by decide +kernel
theorem dX1_compareSides_47 : decode cX1_compareSides 47 = .ok (.ireturn, 1) := by decide +kernel
theorem dX1_compareSides_48 : decode cX1_compareSides 48 = .ok (.iinc 1 (-1), 3) := by decide +kernel
theorem dX1_compareSides_51 : decode cX1_compareSides 51 = .ok (.goto (-43), 3) := by decide +kernel
theorem dX1_compareSides_54 : decode cX1_compareSides 54 = .ok (.iconst 0, 1) := by decide +kernel
theorem dX1_compareSides_55 : decode cX1_compareSides 55 = .ok (.ireturn, 1) := by decide +kernel
set_option maxRecDepth 20000 in
theorem ggX1_divideBy_X0_lengthOf : GoodIn wsX1_divideBy wsX0_lengthOf := goodIn_r _ [9, 10, 59, 60, 61, 62] (by decide +kernel) (by decide +kernel)
set_option maxRecDepth 20000 in
theorem gX1_divideBy_X0_lengthOf : GoodIn wsX1_divideBy (wsV RX1 43 RX0 yX0_lengthOf wsX0_lengthOf) := goodIn_app (goodIn_of _ (by decide +kernel)) ggX1_divideBy_X0_lengthOf
set_option maxRecDepth 20000 in
theorem ggX1_divideBy_X0_limbOf : GoodIn wsX1_divideBy wsX0_limbOf := goodIn_r _ [14, 15, 16, 59, 60, 61, 62] (by decide +kernel) (by decide +kernel)
set_option maxRecDepth 20000 in
theorem gX1_divideBy_X0_limbOf : GoodIn wsX1_divideBy (wsV RX1 46 RX0 yX0_limbOf wsX0_limbOf) := goodIn_app (goodIn_of _ (by decide +kernel)) ggX1_divideBy_X0_limbOf
set_option maxRecDepth 20000 in
theorem ggX1_divideBy_X1_countZeroLimbs : GoodIn wsX1_divideBy wsX1_countZeroLimbs := goodIn_r _ [21, 2, 53, 54, 55, 56, 57, 58] (by decide +kernel) (by decide +kernel)
set_option maxRecDepth 20000 in
theorem gX1_divideBy_X1_countZeroLimbs : GoodIn wsX1_divideBy (wsV RX1 64 RX1 yX1_countZeroLimbs wsX1_countZeroLimbs) := goodIn_app (goodIn_of _ (by decide +kernel)) ggX1_divideBy_X1_countZeroLimbs
set_option maxRecDepth 20000 in
theorem ggX1_divideBy_X1_countZeroBits : GoodIn wsX1_divideBy wsX1_countZeroBits := goodIn_r _ [24] (by decide +kernel) (by decide +kernel)
set_option maxRecDepth 20000 in
theorem gX1_divideBy_X1_countZeroBits : GoodIn wsX1_divideBy (va_wsS RX1 67 yX1_countZeroBits wsX1_countZeroBits) := goodIn_app (goodIn_of _ (by decide +kernel)) ggX1_divideBy_X1_countZeroBits
set_option maxRecDepth 20000 in
theorem ggX1_divideBy_X1_shiftDown : GoodIn wsX1_divideBy wsX1_shiftDown := goodIn_r _ [27, 28] (by decide +kernel) (by decide +kernel)
set_option maxRecDepth 20000 in
theorem gX1_divideBy_X1_shiftDown : GoodIn wsX1_divideBy (va_wsS RX1 70 yX1_shiftDown wsX1_shiftDown) := goodIn_app (goodIn_of _ (by decide +kernel)) ggX1_divideBy_X1_shiftDown
set_option maxRecDepth 20000 in
theorem ggX1_divideBy_X1_trimmed : GoodIn wsX1_divideBy wsX1_trimmed := goodIn_r _ [31] (by decide +kernel) (by decide +kernel)
set_option maxRecDepth 20000 in
theorem gX1_divideBy_X1_trimmed : GoodIn wsX1_divideBy (va_wsS RX1 60 yX1_trimmed wsX1_trimmed) := goodIn_app (goodIn_of _ (by decide +kernel)) ggX1_divideBy_X1_trimmed
set_option maxRecDepth 20000 in
theorem ggX1_divideBy_X1_divideByOdd : GoodIn wsX1_divideBy wsX1_divideByOdd := goodIn_r _ [35, 36, 37, 38, 39, 2, 3, 40, 1, 41, 42, 20, 43, 44, 45, 46, 47, 28, 29, 30, 31, 53, 54, 55, 56, 57, 58] (by decide +kernel) (by decide +kernel)
set_option maxRecDepth 20000 in
theorem gX1_divideBy_X1_divideByOdd : GoodIn wsX1_divideBy (wsV RX1 74 RX1 yX1_divideByOdd wsX1_divideByOdd) := goodIn_app (goodIn_of _ (by decide +kernel)) ggX1_divideBy_X1_divideByOdd
set_option maxRecDepth 20000 in
theorem ggX1_divideBy_X0_signOf : GoodIn wsX1_divideBy wsX0_signOf := goodIn_r _ [51, 52, 59, 60, 61, 62] (by decide +kernel) (by decide +kernel)
set_option maxRecDepth 20000 in
theorem gX1_divideBy_X0_signOf : GoodIn wsX1_divideBy (wsV RX1 37 RX0 yX0_signOf wsX0_signOf) := goodIn_app (goodIn_of _ (by decide +kernel)) ggX1_divideBy_X0_signOf
theorem dX1_divideBy_0 : decode cX1_divideBy 0 = .ok (.aload_n 1, 1) := by decide +kernel
theorem dX1_divideBy_1 : decode cX1_divideBy 1 = .ok (.iload_n 2, 1) := by decide +kernel
theorem dX1_divideBy_2 : decode cX1_divideBy 2 = .ok (.invokevirtual 43, 3) := by decide +kernel
theorem dX1_divideBy_5 : decode cX1_divideBy 5 = .ok (.istore_n 3, 1) := by decide +kernel
theorem dX1_divideBy_6 : decode cX1_divideBy 6 = .ok (.iload_n 3, 1) := by decide +kernel
theorem dX1_divideBy_7 : decode cX1_divideBy 7 = .ok (.ifCond .eq 11, 3) := by decide +kernel
theorem dX1_divideBy_10 : decode cX1_divideBy 10 = .ok (.aload_n 0, 1) := by decide +kernel
theorem dX1_divideBy_11 : decode cX1_divideBy 11 = .ok (.getfield 34, 3) := by decide +kernel
theorem dX1_divideBy_14 : decode cX1_divideBy 14 = .ok (.iload_n 3, 1) := by decide +kernel
theorem dX1_divideBy_15 : decode cX1_divideBy 15 = .ok (.if_icmp .ge 4, 3) := by decide +kernel
theorem dX1_divideBy_18 : decode cX1_divideBy 18 = .ok (.return_, 1) := by decide +kernel
theorem dX1_divideBy_19 : decode cX1_divideBy 19 = .ok (.iconst 0, 1) := by decide +kernel
theorem dX1_divideBy_20 : decode cX1_divideBy 20 = .ok (.istore 4, 2) := by decide +kernel
theorem dX1_divideBy_22 : decode cX1_divideBy 22 = .ok (.iload 4, 2) := by decide +kernel
theorem dX1_divideBy_24 : decode cX1_divideBy 24 = .ok (.iload_n 3, 1) := by decide +kernel
theorem dX1_divideBy_25 : decode cX1_divideBy 25 = .ok (.if_icmp .ge 23, 3) := by decide +kernel
theorem dX1_divideBy_28 : decode cX1_divideBy 28 = .ok (.aload_n 0, 1) := by decide +kernel
theorem dX1_divideBy_29 : decode cX1_divideBy 29 = .ok (.getfield 22, 3) := by decide +kernel
theorem dX1_divideBy_32 : decode cX1_divideBy 32 = .ok (.iload 4, 2) := by decide +kernel
theorem dX1_divideBy_34 : decode cX1_divideBy 34 = .ok (.aload_n 1, 1) := by decide +kernel
theorem dX1_divideBy_35 : decode cX1_divideBy 35 = .ok (.iload_n 2, 1) := by decide +kernel
theorem dX1_divideBy_36 : decode cX1_divideBy 36 = .ok (.iload 4, 2) := by decide +kernel
theorem dX1_divideBy_38 : decode cX1_divideBy 38 = .ok (.invokevirtual 46, 3) := by decide +kernel
theorem dX1_divideBy_41 : decode cX1_divideBy 41 = .ok (.iastore, 1) := by decide +kernel
theorem dX1_divideBy_42 : decode cX1_divideBy 42 = .ok (.iinc 4 1, 3) := by decide +kernel
theorem dX1_divideBy_45 : decode cX1_divideBy 45 = .ok (.goto (-23), 3) := by decide +kernel
theorem dX1_divideBy_48 : decode cX1_divideBy 48 = .ok (.aload_n 0, 1) := by decide +kernel
theorem dX1_divideBy_49 : decode cX1_divideBy 49 = .ok (.iload_n 3, 1) := by decide +kernel
theorem dX1_divideBy_50 : decode cX1_divideBy 50 = .ok (.invokevirtual 64, 3) := by decide +kernel
theorem dX1_divideBy_53 : decode cX1_divideBy 53 = .ok (.istore 4, 2) := by decide +kernel
theorem dX1_divideBy_55 : decode cX1_divideBy 55 = .ok (.aload_n 0, 1) := by decide +kernel
theorem dX1_divideBy_56 : decode cX1_divideBy 56 = .ok (.getfield 22, 3) := by decide +kernel
theorem dX1_divideBy_59 : decode cX1_divideBy 59 = .ok (.iload 4, 2) := by decide +kernel
theorem dX1_divideBy_61 : decode cX1_divideBy 61 = .ok (.iaload, 1) := by decide +kernel
theorem dX1_divideBy_62 : decode cX1_divideBy 62 = .ok (.invokestatic 67, 3) := by decide +kernel
theorem dX1_divideBy_65 : decode cX1_divideBy 65 = .ok (.istore 5, 2) := by decide +kernel
theorem dX1_divideBy_67 : decode cX1_divideBy 67 = .ok (.aload_n 0, 1) := by decide +kernel
theorem dX1_divideBy_68 : decode cX1_divideBy 68 = .ok (.getfield 22, 3) := by decide +kernel
theorem dX1_divideBy_71 : decode cX1_divideBy 71 = .ok (.iload_n 3, 1) := by decide +kernel
theorem dX1_divideBy_72 : decode cX1_divideBy 72 = .ok (.iload 4, 2) := by decide +kernel
theorem dX1_divideBy_74 : decode cX1_divideBy 74 = .ok (.iload 5, 2) := by decide +kernel
theorem dX1_divideBy_76 : decode cX1_divideBy 76 = .ok (.invokestatic 70, 3) := by decide +kernel
theorem dX1_divideBy_79 : decode cX1_divideBy 79 = .ok (.aload_n 0, 1) := by decide +kernel
theorem dX1_divideBy_80 : decode cX1_divideBy 80 = .ok (.getfield 15, 3) := by decide +kernel
theorem dX1_divideBy_83 : decode cX1_divideBy 83 = .ok (.aload_n 0, 1) := by decide +kernel
theorem dX1_divideBy_84 : decode cX1_divideBy 84 = .ok (.getfield 34, 3) := by decide +kernel
theorem dX1_divideBy_87 : decode cX1_divideBy 87 = .ok (.iload 4, 2) := by decide +kernel
theorem dX1_divideBy_89 : decode cX1_divideBy 89 = .ok (.iload 5, 2) := by decide +kernel
theorem dX1_divideBy_91 : decode cX1_divideBy 91 = .ok (.invokestatic 70, 3) := by decide +kernel
theorem dX1_divideBy_94 : decode cX1_divideBy 94 = .ok (.aload_n 0, 1) := by decide +kernel
theorem dX1_divideBy_95 : decode cX1_divideBy 95 = .ok (.aload_n 0, 1) := by decide +kernel
theorem dX1_divideBy_96 : decode cX1_divideBy 96 = .ok (.getfield 22, 3) := by decide +kernel
theorem dX1_divideBy_99 : decode cX1_divideBy 99 = .ok (.iload_n 3, 1) := by decide +kernel
theorem dX1_divideBy_100 : decode cX1_divideBy 100 = .ok (.invokestatic 60, 3) := by decide +kernel
theorem dX1_divideBy_103 : decode cX1_divideBy 103 = .ok (.aload_n 0, 1) := by decide +kernel
theorem dX1_divideBy_104 : decode cX1_divideBy 104 = .ok (.getfield 15, 3) := by decide +kernel
theorem dX1_divideBy_107 : decode cX1_divideBy 107 = .ok (.aload_n 0, 1) := by decide +kernel
theorem dX1_divideBy_108 : decode cX1_divideBy 108 = .ok (.getfield 34, 3) := by decide +kernel
theorem dX1_divideBy_111 : decode cX1_divideBy 111 = .ok (.invokestatic 60, 3) := by decide +kernel
theorem dX1_divideBy_114 : decode cX1_divideBy 114 = .ok (.invokevirtual 74, 3) := by decide +kernel
theorem dX1_divideBy_117 : decode cX1_divideBy 117 = .ok (.aload_n 0, 1) := by decide +kernel
theorem dX1_divideBy_118 : decode cX1_divideBy 118 = .ok (.dup, 1) := by decide +kernel
theorem dX1_divideBy_119 : decode cX1_divideBy 119 = .ok (.getfield 31, 3) := by decide +kernel
theorem dX1_divideBy_122 : decode cX1_divideBy 122 = .ok (.aload_n 1, 1) := by decide +kernel
theorem dX1_divideBy_123 : decode cX1_divideBy 123 = .ok (.iload_n 2, 1) := by decide +kernel
theorem dX1_divideBy_124 : decode cX1_divideBy 124 = .ok (.invokevirtual 37, 3) := by decide +kernel
theorem dX1_divideBy_127 : decode cX1_divideBy 127 = .ok (.imul, 1) := by decide +kernel
theorem dX1_divideBy_128 : decode cX1_divideBy 128 = .ok (.putfield 31, 3) := by decide +kernel
theorem dX1_divideBy_131 : decode cX1_divideBy 131 = .ok (.return_, 1) := by decide +kernel
set_option maxRecDepth 20000 in
theorem ggX1_divideByOdd_X1_inverseOf : GoodIn wsX1_divideByOdd wsX1_inverseOf := goodIn_r _ [12] (by decide +kernel) (by decide +kernel)
set_option maxRecDepth 20000 in
theorem gX1_divideByOdd_X1_inverseOf : GoodIn wsX1_divideByOdd (va_wsS RX1 83 yX1_inverseOf wsX1_inverseOf) := goodIn_app (goodIn_of _ (by decide +kernel)) ggX1_divideByOdd_X1_inverseOf
set_option maxRecDepth 20000 in
theorem ggX1_divideByOdd_X1_takeMultiple : GoodIn wsX1_divideByOdd wsX1_takeMultiple := goodIn_r _ [16, 6, 5, 17, 21, 22, 23, 24, 25, 26] (by decide +kernel) (by decide +kernel)
set_option maxRecDepth 20000 in
theorem gX1_divideByOdd_X1_takeMultiple : GoodIn wsX1_divideByOdd (wsV RX1 87 RX1 yX1_takeMultiple wsX1_takeMultiple) := goodIn_app (goodIn_of _ (by decide +kernel)) ggX1_divideByOdd_X1_takeMultiple
set_option maxRecDepth 20000 in
theorem ggX1_divideByOdd_X1_trimmed : GoodIn wsX1_divideByOdd wsX1_trimmed := goodIn_r _ [20] (by decide +kernel) (by decide +kernel)
set_option maxRecDepth 20000 in
theorem gX1_divideByOdd_X1_trimmed : GoodIn wsX1_divideByOdd (va_wsS RX1 60 yX1_trimmed wsX1_trimmed) := goodIn_app (goodIn_of _ (by decide +kernel)) ggX1_divideByOdd_X1_trimmed
theorem dX1_divideByOdd_0 : decode cX1_divideByOdd 0 = .ok (.iconst 0, 1) := by decide +kernel
theorem dX1_divideByOdd_1 : decode cX1_divideByOdd 1 = .ok (.iload_n 2, 1) := by decide +kernel
theorem dX1_divideByOdd_2 : decode cX1_divideByOdd 2 = .ok (.iload_n 1, 1) := by decide +kernel
theorem dX1_divideByOdd_3 : decode cX1_divideByOdd 3 = .ok (.isub, 1) := by decide +kernel
theorem dX1_divideByOdd_4 : decode cX1_divideByOdd 4 = .ok (.iconst 1, 1) := by decide +kernel
theorem dX1_divideByOdd_5 : decode cX1_divideByOdd 5 = .ok (.iadd, 1) := by decide +kernel
theorem dX1_divideByOdd_6 : decode cX1_divideByOdd 6 = .ok (.invokestatic 78, 3) := by decide +kernel
theorem dX1_divideByOdd_9 : decode cX1_divideByOdd 9 = .ok (.istore_n 3, 1) := by decide +kernel
theorem dX1_divideByOdd_10 : decode cX1_divideByOdd 10 = .ok (.aload_n 0, 1) := by decide +kernel
theorem dX1_divideByOdd_11 : decode cX1_divideByOdd 11 = .ok (.getfield 22, 3) := by decide +kernel
theorem dX1_divideByOdd_14 : decode cX1_divideByOdd 14 = .ok (.iconst 0, 1) := by decide +kernel
theorem dX1_divideByOdd_15 : decode cX1_divideByOdd 15 = .ok (.iaload, 1) := by decide +kernel
theorem dX1_divideByOdd_16 : decode cX1_divideByOdd 16 = .ok (.invokestatic 83, 3) := by decide +kernel
theorem dX1_divideByOdd_19 : decode cX1_divideByOdd 19 = .ok (.istore 4, 2) := by decide +kernel
theorem dX1_divideByOdd_21 : decode cX1_divideByOdd 21 = .ok (.iconst 0, 1) := by decide +kernel
theorem dX1_divideByOdd_22 : decode cX1_divideByOdd 22 = .ok (.istore 5, 2) := by decide +kernel
theorem dX1_divideByOdd_24 : decode cX1_divideByOdd 24 = .ok (.iload 5, 2) := by decide +kernel
theorem dX1_divideByOdd_26 : decode cX1_divideByOdd 26 = .ok (.iload_n 3, 1) := by decide +kernel
theorem dX1_divideByOdd_27 : decode cX1_divideByOdd 27 = .ok (.if_icmp .ge 44, 3) := by decide +kernel
theorem dX1_divideByOdd_30 : decode cX1_divideByOdd 30 = .ok (.aload_n 0, 1) := by decide +kernel
theorem dX1_divideByOdd_31 : decode cX1_divideByOdd 31 = .ok (.getfield 15, 3) := by decide +kernel
theorem dX1_divideByOdd_34 : decode cX1_divideByOdd 34 = .ok (.iload 5, 2) := by decide +kernel
theorem dX1_divideByOdd_36 : decode cX1_divideByOdd 36 = .ok (.iaload, 1) := by decide +kernel
theorem dX1_divideByOdd_37 : decode cX1_divideByOdd 37 = .ok (.iload 4, 2) := by decide +kernel
theorem dX1_divideByOdd_39 : decode cX1_divideByOdd 39 = .ok (.imul, 1) := by decide +kernel
theorem dX1_divideByOdd_40 : decode cX1_divideByOdd 40 = .ok (.ldc 86, 2) := by decide +kernel
theorem dX1_divideByOdd_42 : decode cX1_divideByOdd 42 = .ok (.iand, 1) := by decide +kernel
theorem dX1_divideByOdd_43 : decode cX1_divideByOdd 43 = .ok (.istore 6, 2) := by decide +kernel
theorem dX1_divideByOdd_45 : decode cX1_divideByOdd 45 = .ok (.aload_n 0, 1) := by decide +kernel
theorem dX1_divideByOdd_46 : decode cX1_divideByOdd 46 = .ok (.iload 5, 2) := by decide +kernel
theorem dX1_divideByOdd_48 : decode cX1_divideByOdd 48 = .ok (.iload_n 3, 1) := by decide +kernel
theorem dX1_divideByOdd_49 : decode cX1_divideByOdd 49 = .ok (.iload_n 1, 1) := by decide +kernel
theorem dX1_divideByOdd_50 : decode cX1_divideByOdd 50 = .ok (.iload 6, 2) := by decide +kernel
theorem dX1_divideByOdd_52 : decode cX1_divideByOdd 52 = .ok (.i2l, 1) := by decide +kernel
theorem dX1_divideByOdd_53 : decode cX1_divideByOdd 53 = .ok (.invokevirtual 87, 3) := by decide +kernel
theorem dX1_divideByOdd_56 : decode cX1_divideByOdd 56 = .ok (.aload_n 0, 1) := by decide +kernel
theorem dX1_divideByOdd_57 : decode cX1_divideByOdd 57 = .ok (.getfield 15, 3) := by decide +kernel
theorem dX1_divideByOdd_60 : decode cX1_divideByOdd 60 = .ok (.iload 5, 2) := by decide +kernel
theorem dX1_divideByOdd_62 : decode cX1_divideByOdd 62 = .ok (.iload 6, 2) := by decide +kernel
theorem dX1_divideByOdd_64 : decode cX1_divideByOdd 64 = .ok (.iastore, 1) := by decide +kernel
theorem dX1_divideByOdd_65 : decode cX1_divideByOdd 65 = .ok (.iinc 5 1, 3) := by decide +kernel
theorem dX1_divideByOdd_68 : decode cX1_divideByOdd 68 = .ok (.goto (-44), 3) := by decide +kernel
theorem dX1_divideByOdd_71 : decode cX1_divideByOdd 71 = .ok (.aload_n 0, 1) := by decide +kernel
theorem dX1_divideByOdd_72 : decode cX1_divideByOdd 72 = .ok (.aload_n 0, 1) := by decide +kernel
theorem dX1_divideByOdd_73 : decode cX1_divideByOdd 73 = .ok (.getfield 15, 3) := by decide +kernel
theorem dX1_divideByOdd_76 : decode cX1_divideByOdd 76 = .ok (.iload_n 3, 1) := by decide +kernel
theorem dX1_divideByOdd_77 : decode cX1_divideByOdd 77 = .ok (.invokestatic 60, 3) := by decide +kernel
theorem dX1_divideByOdd_80 : decode cX1_divideByOdd 80 = .ok (.putfield 34, 3) := by decide +kernel
theorem dX1_divideByOdd_83 : decode cX1_divideByOdd 83 = .ok (.return_, 1) := by decide +kernel
theorem dX1_takeMultiple_0 : decode cX1_takeMultiple 0 = .ok (.lconst 0, 1) := by decide +kernel
theorem dX1_takeMultiple_1 : decode cX1_takeMultiple 1 = .ok (.lstore 6, 2) := by decide +kernel
theorem dX1_takeMultiple_3 : decode cX1_takeMultiple 3 = .ok (.iload_n 1, 1) := by decide +kernel
theorem dX1_takeMultiple_4 : decode cX1_takeMultiple 4 = .ok (.istore 8, 2) := by decide +kernel
theorem dX1_takeMultiple_6 : decode cX1_takeMultiple 6 = .ok (.iload 8, 2) := by decide +kernel
theorem dX1_takeMultiple_8 : decode cX1_takeMultiple 8 = .ok (.iload_n 2, 1) := by decide +kernel
theorem dX1_takeMultiple_9 : decode cX1_takeMultiple 9 = .ok (.if_icmp .ge 84, 3) := by decide +kernel
theorem dX1_takeMultiple_12 : decode cX1_takeMultiple 12 = .ok (.iload 8, 2) := by decide +kernel
theorem dX1_takeMultiple_14 : decode cX1_takeMultiple 14 = .ok (.iload_n 1, 1) := by decide +kernel
theorem dX1_takeMultiple_15 : decode cX1_takeMultiple 15 = .ok (.isub, 1) := by decide +kernel
theorem dX1_takeMultiple_16 : decode cX1_takeMultiple 16 = .ok (.iload_n 3, 1) := by decide +kernel
theorem dX1_takeMultiple_17 : decode cX1_takeMultiple 17 = .ok (.if_icmp .lt 10, 3) := by decide +kernel
theorem dX1_takeMultiple_20 : decode cX1_takeMultiple 20 = .ok (.lload 6, 2) := by decide +kernel
theorem dX1_takeMultiple_22 : decode cX1_takeMultiple 22 = .ok (.lconst 0, 1) := by decide +kernel
theorem dX1_takeMultiple_23 : decode cX1_takeMultiple 23 = .ok (.lcmp, 1) := by decide +kernel
theorem dX1_takeMultiple_24 : decode cX1_takeMultiple 24 = .ok (.ifCond .eq 69, 3) := by decide +kernel
theorem dX1_takeMultiple_27 : decode cX1_takeMultiple 27 = .ok (.lload 6, 2) := by decide +kernel
theorem dX1_takeMultiple_29 : decode cX1_takeMultiple 29 = .ok (.aload_n 0, 1) := by decide +kernel
theorem dX1_takeMultiple_30 : decode cX1_takeMultiple 30 = .ok (.getfield 15, 3) := by decide +kernel
theorem dX1_takeMultiple_33 : decode cX1_takeMultiple 33 = .ok (.iload 8, 2) := by decide +kernel
theorem dX1_takeMultiple_35 : decode cX1_takeMultiple 35 = .ok (.iaload, 1) := by decide +kernel
theorem dX1_takeMultiple_36 : decode cX1_takeMultiple 36 = .ok (.i2l, 1) := by decide +kernel
theorem dX1_takeMultiple_37 : decode cX1_takeMultiple 37 = .ok (.ladd, 1) := by decide +kernel
theorem dX1_takeMultiple_38 : decode cX1_takeMultiple 38 = .ok (.lstore 6, 2) := by decide +kernel
theorem dX1_takeMultiple_40 : decode cX1_takeMultiple 40 = .ok (.iload 8, 2) := by decide +kernel
theorem dX1_takeMultiple_42 : decode cX1_takeMultiple 42 = .ok (.iload_n 1, 1) := by decide +kernel
theorem dX1_takeMultiple_43 : decode cX1_takeMultiple 43 = .ok (.isub, 1) := by decide +kernel
theorem dX1_takeMultiple_44 : decode cX1_takeMultiple 44 = .ok (.iload_n 3, 1) := by decide +kernel
theorem dX1_takeMultiple_45 : decode cX1_takeMultiple 45 = .ok (.if_icmp .ge 21, 3) := by decide +kernel
theorem dX1_takeMultiple_48 : decode cX1_takeMultiple 48 = .ok (.lload 6, 2) := by decide +kernel
theorem dX1_takeMultiple_50 : decode cX1_takeMultiple 50 = .ok (.lload 4, 2) := by decide +kernel
theorem dX1_takeMultiple_52 : decode cX1_takeMultiple 52 = .ok (.aload_n 0, 1) := by decide +kernel
theorem dX1_takeMultiple_53 : decode cX1_takeMultiple 53 = .ok (.getfield 22, 3) := by decide +kernel
theorem dX1_takeMultiple_56 : decode cX1_takeMultiple 56 = .ok (.iload 8, 2) := by decide +kernel
theorem dX1_takeMultiple_58 : decode cX1_takeMultiple 58 = .ok (.iload_n 1, 1) := by decide +kernel
theorem dX1_takeMultiple_59 : decode cX1_takeMultiple 59 = .ok (.isub, 1) := by decide +kernel
theorem dX1_takeMultiple_60 : decode cX1_takeMultiple 60 = .ok (.iaload, 1) := by decide +kernel
theorem dX1_takeMultiple_61 : decode cX1_takeMultiple 61 = .ok (.i2l, 1) := by decide +kernel
theorem dX1_takeMultiple_62 : decode cX1_takeMultiple 62 = .ok (.lmul, 1) := by decide +kernel
theorem dX1_takeMultiple_63 : decode cX1_takeMultiple 63 = .ok (.lsub, 1) := by decide +kernel
theorem dX1_takeMultiple_64 : decode cX1_takeMultiple 64 = .ok (.lstore 6, 2) := by decide +kernel
theorem dX1_takeMultiple_66 : decode cX1_takeMultiple 66 = .ok (.aload_n 0, 1) := by decide +kernel
theorem dX1_takeMultiple_67 : decode cX1_takeMultiple 67 = .ok (.getfield 15, 3) := by decide +kernel
theorem dX1_takeMultiple_70 : decode cX1_takeMultiple 70 = .ok (.iload 8, 2) := by decide +kernel
theorem dX1_takeMultiple_72 : decode cX1_takeMultiple 72 = .ok (.lload 6, 2) := by decide +kernel
theorem dX1_takeMultiple_74 : decode cX1_takeMultiple 74 = .ok (.ldc2_w 54, 3) := by decide +kernel
theorem dX1_takeMultiple_77 : decode cX1_takeMultiple 77 = .ok (.land, 1) := by decide +kernel
theorem dX1_takeMultiple_78 : decode cX1_takeMultiple 78 = .ok (.l2i, 1) := by decide +kernel
theorem dX1_takeMultiple_79 : decode cX1_takeMultiple 79 = .ok (.iastore, 1) := by decide +kernel
theorem dX1_takeMultiple_80 : decode cX1_takeMultiple 80 = .ok (.lload 6, 2) := by decide +kernel
theorem dX1_takeMultiple_82 : decode cX1_takeMultiple 82 = .ok (.bipush 31, 2) := by decide +kernel
theorem dX1_takeMultiple_84 : decode cX1_takeMultiple 84 = .ok (.lshr, 1) := by decide +kernel
theorem dX1_takeMultiple_85 : decode cX1_takeMultiple 85 = .ok (.lstore 6, 2) := by decide +kernel
theorem dX1_takeMultiple_87 : decode cX1_takeMultiple 87 = .ok (.iinc 8 1, 3) := by decide +kernel
theorem dX1_takeMultiple_90 : decode cX1_takeMultiple 90 = .ok (.goto (-84), 3) := by decide +kernel
theorem dX1_takeMultiple_93 : decode cX1_takeMultiple 93 = .ok (.return_, 1) := by decide +kernel
theorem dX1_countZeroLimbs_0 : decode cX1_countZeroLimbs 0 = .ok (.iconst 0, 1) := by decide +kernel
theorem dX1_countZeroLimbs_1 : decode cX1_countZeroLimbs 1 = .ok (.istore_n 2, 1) := by decide +kernel
theorem dX1_countZeroLimbs_2 : decode cX1_countZeroLimbs 2 = .ok (.iload_n 2, 1) := by decide +kernel
theorem dX1_countZeroLimbs_3 : decode cX1_countZeroLimbs 3 = .ok (.iload_n 1, 1) := by decide +kernel
theorem dX1_countZeroLimbs_4 : decode cX1_countZeroLimbs 4 = .ok (.iconst 1, 1) := by decide +kernel
theorem dX1_countZeroLimbs_5 : decode cX1_countZeroLimbs 5 = .ok (.isub, 1) := by decide +kernel
theorem dX1_countZeroLimbs_6 : decode cX1_countZeroLimbs 6 = .ok (.if_icmp .ge 18, 3) := by decide +kernel
theorem dX1_countZeroLimbs_9 : decode cX1_countZeroLimbs 9 = .ok (.aload_n 0, 1) := by decide +kernel
theorem dX1_countZeroLimbs_10 : decode cX1_countZeroLimbs 10 = .ok (.getfield 22, 3) := by decide +kernel
theorem dX1_countZeroLimbs_13 : decode cX1_countZeroLimbs 13 = .ok (.iload_n 2, 1) := by decide +kernel
theorem dX1_countZeroLimbs_14 : decode cX1_countZeroLimbs 14 = .ok (.iaload, 1) := by decide +kernel
theorem dX1_countZeroLimbs_15 : decode cX1_countZeroLimbs 15 = .ok (.ifCond .ne 9, 3) := by decide +kernel
theorem dX1_countZeroLimbs_18 : decode cX1_countZeroLimbs 18 = .ok (.iinc 2 1, 3) := by decide +kernel
theorem dX1_countZeroLimbs_21 : decode cX1_countZeroLimbs 21 = .ok (.goto (-19), 3) := by decide +kernel
theorem dX1_countZeroLimbs_24 : decode cX1_countZeroLimbs 24 = .ok (.iload_n 2, 1) := by decide +kernel
theorem dX1_countZeroLimbs_25 : decode cX1_countZeroLimbs 25 = .ok (.ireturn, 1) := by decide +kernel
theorem dX1_countZeroBits_0 : decode cX1_countZeroBits 0 = .ok (.iconst 0, 1) := by decide +kernel
theorem dX1_countZeroBits_1 : decode cX1_countZeroBits 1 = .ok (.istore_n 1, 1) := by decide +kernel
theorem dX1_countZeroBits_2 : decode cX1_countZeroBits 2 = .ok (.iload_n 1, 1) := by decide +kernel
theorem dX1_countZeroBits_3 : decode cX1_countZeroBits 3 = .ok (.bipush 30, 2) := by decide +kernel
theorem dX1_countZeroBits_5 : decode cX1_countZeroBits 5 = .ok (.if_icmp .ge 17, 3) := by decide +kernel
theorem dX1_countZeroBits_8 : decode cX1_countZeroBits 8 = .ok (.iload_n 0, 1) := by decide +kernel
theorem dX1_countZeroBits_9 : decode cX1_countZeroBits 9 = .ok (.iload_n 1, 1) := by decide +kernel
theorem dX1_countZeroBits_10 : decode cX1_countZeroBits 10 = .ok (.ishr, 1) := by decide +kernel
theorem dX1_countZeroBits_11 : decode cX1_countZeroBits 11 = .ok (.iconst 1, 1) := by decide +kernel
theorem dX1_countZeroBits_12 : decode cX1_countZeroBits 12 = .ok (.iand, 1) := by decide +kernel
theorem dX1_countZeroBits_13 : decode cX1_countZeroBits 13 = .ok (.ifCond .ne 9, 3) := by decide +kernel
theorem dX1_countZeroBits_16 : decode cX1_countZeroBits 16 = .ok (.iinc 1 1, 3) := by decide +kernel
theorem dX1_countZeroBits_19 : decode cX1_countZeroBits 19 = .ok (.goto (-17), 3) := by decide +kernel
theorem dX1_countZeroBits_22 : decode cX1_countZeroBits 22 = .ok (.iload_n 1, 1) := by decide +kernel
theorem dX1_countZeroBits_23 : decode cX1_countZeroBits 23 = .ok (.ireturn, 1) := by decide +kernel
theorem dX1_shiftDown_0 : decode cX1_shiftDown 0 = .ok (.iconst 0, 1) := by decide +kernel
theorem dX1_shiftDown_1 : decode cX1_shiftDown 1 = .ok (.istore 4, 2) := by decide +kernel
theorem dX1_shiftDown_3 : decode cX1_shiftDown 3 = .ok (.iload 4, 2) := by decide +kernel
theorem dX1_shiftDown_5 : decode cX1_shiftDown 5 = .ok (.iload_n 1, 1) := by decide +kernel
theorem dX1_shiftDown_6 : decode cX1_shiftDown 6 = .ok (.if_icmp .ge 74, 3) := by decide +kernel
theorem dX1_shiftDown_9 : decode cX1_shiftDown 9 = .ok (.iload 4, 2) := by decide +kernel
theorem dX1_shiftDown_11 : decode cX1_shiftDown 11 = .ok (.iload_n 2, 1) := by decide +kernel
theorem dX1_shiftDown_12 : decode cX1_shiftDown 12 = .ok (.iadd, 1) := by decide +kernel
theorem dX1_shiftDown_13 : decode cX1_shiftDown 13 = .ok (.iload_n 1, 1) := by decide +kernel
theorem dX1_shiftDown_14 : decode cX1_shiftDown 14 = .ok (.if_icmp .ge 13, 3) := by decide +kernel
theorem dX1_shiftDown_17 : decode cX1_shiftDown 17 = .ok (.aload_n 0, 1) := by decide +kernel
theorem dX1_shiftDown_18 : decode cX1_shiftDown 18 = .ok (.iload 4, 2) := by decide +kernel
theorem dX1_shiftDown_20 : decode cX1_shiftDown 20 = .ok (.iload_n 2, 1) := by decide +kernel
theorem dX1_shiftDown_21 : decode cX1_shiftDown 21 = .ok (.iadd, 1) := by decide +kernel
theorem dX1_shiftDown_22 : decode cX1_shiftDown 22 = .ok (.iaload, 1) := by decide +kernel
theorem dX1_shiftDown_23 : decode cX1_shiftDown 23 = .ok (.i2l, 1) := by decide +kernel
theorem dX1_shiftDown_24 : decode cX1_shiftDown 24 = .ok (.goto 4, 3) := by decide +kernel
theorem dX1_shiftDown_27 : decode cX1_shiftDown 27 = .ok (.lconst 0, 1) := by decide +kernel
theorem dX1_shiftDown_28 : decode cX1_shiftDown 28 = .ok (.lstore 5, 2) := by decide +kernel
theorem dX1_shiftDown_30 : decode cX1_shiftDown 30 = .ok (.iload 4, 2) := by decide +kernel
theorem dX1_shiftDown_32 : decode cX1_shiftDown 32 = .ok (.iload_n 2, 1) := by decide +kernel
theorem dX1_shiftDown_33 : decode cX1_shiftDown 33 = .ok (.iadd, 1) := by decide +kernel
theorem dX1_shiftDown_34 : decode cX1_shiftDown 34 = .ok (.iconst 1, 1) := by decide +kernel
theorem dX1_shiftDown_35 : decode cX1_shiftDown 35 = .ok (.iadd, 1) := by decide +kernel
theorem dX1_shiftDown_36 : decode cX1_shiftDown 36 = .ok (.iload_n 1, 1) := by decide +kernel
theorem dX1_shiftDown_37 : decode cX1_shiftDown 37 = .ok (.if_icmp .ge 15, 3) := by decide +kernel
theorem dX1_shiftDown_40 : decode cX1_shiftDown 40 = .ok (.aload_n 0, 1) := by decide +kernel
theorem dX1_shiftDown_41 : decode cX1_shiftDown 41 = .ok (.iload 4, 2) := by decide +kernel
theorem dX1_shiftDown_43 : decode cX1_shiftDown 43 = .ok (.iload_n 2, 1) := by decide +kernel
theorem dX1_shiftDown_44 : decode cX1_shiftDown 44 = .ok (.iadd, 1) := by decide +kernel
theorem dX1_shiftDown_45 : decode cX1_shiftDown 45 = .ok (.iconst 1, 1) := by decide +kernel
theorem dX1_shiftDown_46 : decode cX1_shiftDown 46 = .ok (.iadd, 1) := by decide +kernel
theorem dX1_shiftDown_47 : decode cX1_shiftDown 47 = .ok (.iaload, 1) := by decide +kernel
theorem dX1_shiftDown_48 : decode cX1_shiftDown 48 = .ok (.i2l, 1) := by decide +kernel
theorem dX1_shiftDown_49 : decode cX1_shiftDown 49 = .ok (.goto 4, 3) := by decide +kernel
theorem dX1_shiftDown_52 : decode cX1_shiftDown 52 = .ok (.lconst 0, 1) := by decide +kernel
theorem dX1_shiftDown_53 : decode cX1_shiftDown 53 = .ok (.lstore 7, 2) := by decide +kernel
theorem dX1_shiftDown_55 : decode cX1_shiftDown 55 = .ok (.aload_n 0, 1) := by decide +kernel
theorem dX1_shiftDown_56 : decode cX1_shiftDown 56 = .ok (.iload 4, 2) := by decide +kernel
theorem dX1_shiftDown_58 : decode cX1_shiftDown 58 = .ok (.lload 7, 2) := by decide +kernel
theorem dX1_shiftDown_60 : decode cX1_shiftDown 60 = .ok (.bipush 31, 2) := by decide +kernel
theorem dX1_shiftDown_62 : decode cX1_shiftDown 62 = .ok (.lshl, 1) := by decide +kernel
theorem dX1_shiftDown_63 : decode cX1_shiftDown 63 = .ok (.lload 5, 2) := by decide +kernel
theorem dX1_shiftDown_65 : decode cX1_shiftDown 65 = .ok (.lor, 1) := by decide +kernel
theorem dX1_shiftDown_66 : decode cX1_shiftDown 66 = .ok (.iload_n 3, 1) := by decide +kernel
theorem dX1_shiftDown_67 : decode cX1_shiftDown 67 = .ok (.lshr, 1) := by decide +kernel
theorem dX1_shiftDown_68 : decode cX1_shiftDown 68 = .ok (.ldc2_w 54, 3) := by decide +kernel
theorem dX1_shiftDown_71 : decode cX1_shiftDown 71 = .ok (.land, 1) := by decide +kernel
theorem dX1_shiftDown_72 : decode cX1_shiftDown 72 = .ok (.l2i, 1) := by decide +kernel
theorem dX1_shiftDown_73 : decode cX1_shiftDown 73 = .ok (.iastore, 1) := by decide +kernel
theorem dX1_shiftDown_74 : decode cX1_shiftDown 74 = .ok (.iinc 4 1, 3) := by decide +kernel
theorem dX1_shiftDown_77 : decode cX1_shiftDown 77 = .ok (.goto (-74), 3) := by decide +kernel
theorem dX1_shiftDown_80 : decode cX1_shiftDown 80 = .ok (.return_, 1) := by decide +kernel
theorem dX1_inverseOf_0 : decode cX1_inverseOf 0 = .ok (.iload_n 0, 1) := by decide +kernel
theorem dX1_inverseOf_1 : decode cX1_inverseOf 1 = .ok (.istore_n 1, 1) := by decide +kernel
theorem dX1_inverseOf_2 : decode cX1_inverseOf 2 = .ok (.iconst 0, 1) := by decide +kernel
theorem dX1_inverseOf_3 : decode cX1_inverseOf 3 = .ok (.istore_n 2, 1) := by decide +kernel
theorem dX1_inverseOf_4 : decode cX1_inverseOf 4 = .ok (.iload_n 2, 1) := by decide +kernel
theorem dX1_inverseOf_5 : decode cX1_inverseOf 5 = .ok (.iconst 4, 1) := by decide +kernel
theorem dX1_inverseOf_6 : decode cX1_inverseOf 6 = .ok (.if_icmp .ge 17, 3) := by decide +kernel
theorem dX1_inverseOf_9 : decode cX1_inverseOf 9 = .ok (.iload_n 1, 1) := by decide +kernel
theorem dX1_inverseOf_10 : decode cX1_inverseOf 10 = .ok (.iconst 2, 1) := by decide +kernel
theorem dX1_inverseOf_11 : decode cX1_inverseOf 11 = .ok (.iload_n 0, 1) := by decide +kernel
theorem dX1_inverseOf_12 : decode cX1_inverseOf 12 = .ok (.iload_n 1, 1) := by decide +kernel
theorem dX1_inverseOf_13 : decode cX1_inverseOf 13 = .ok (.imul, 1) := by decide +kernel
theorem dX1_inverseOf_14 : decode cX1_inverseOf 14 = .ok (.isub, 1) := by decide +kernel
theorem dX1_inverseOf_15 : decode cX1_inverseOf 15 = .ok (.imul, 1) := by decide +kernel
theorem dX1_inverseOf_16 : decode cX1_inverseOf 16 = .ok (.istore_n 1, 1) := by decide +kernel
theorem dX1_inverseOf_17 : decode cX1_inverseOf 17 = .ok (.iinc 2 1, 3) := by decide +kernel
theorem dX1_inverseOf_20 : decode cX1_inverseOf 20 = .ok (.goto (-16), 3) := by decide +kernel
theorem dX1_inverseOf_23 : decode cX1_inverseOf 23 = .ok (.iload_n 1, 1) := by decide +kernel
theorem dX1_inverseOf_24 : decode cX1_inverseOf 24 = .ok (.ireturn, 1) := by decide +kernel
theorem dX1_trimmed_0 : decode cX1_trimmed 0 = .ok (.iload_n 1, 1) := by decide +kernel
theorem dX1_trimmed_1 : decode cX1_trimmed 1 = .ok (.istore_n 2, 1) := by decide +kernel
theorem dX1_trimmed_2 : decode cX1_trimmed 2 = .ok (.iload_n 2, 1) := by decide +kernel
theorem dX1_trimmed_3 : decode cX1_trimmed 3 = .ok (.ifCond .le 17, 3) := by decide +kernel
theorem dX1_trimmed_6 : decode cX1_trimmed 6 = .ok (.aload_n 0, 1) := by decide +kernel
theorem dX1_trimmed_7 : decode cX1_trimmed 7 = .ok (.iload_n 2, 1) := by decide +kernel
theorem dX1_trimmed_8 : decode cX1_trimmed 8 = .ok (.iconst 1, 1) := by decide +kernel
theorem dX1_trimmed_9 : decode cX1_trimmed 9 = .ok (.isub, 1) := by decide +kernel
theorem dX1_trimmed_10 : decode cX1_trimmed 10 = .ok (.iaload, 1) := by decide +kernel
theorem dX1_trimmed_11 : decode cX1_trimmed 11 = .ok (.ifCond .ne 9, 3) := by decide +kernel
theorem dX1_trimmed_14 : decode cX1_trimmed 14 = .ok (.iinc 2 (-1), 3) := by decide +kernel
theorem dX1_trimmed_17 : decode cX1_trimmed 17 = .ok (.goto (-15), 3) := by decide +kernel
theorem dX1_trimmed_20 : decode cX1_trimmed 20 = .ok (.iload_n 2, 1) := by decide +kernel
theorem dX1_trimmed_21 : decode cX1_trimmed 21 = .ok (.ireturn, 1) := by decide +kernel
set_option maxRecDepth 20000 in
theorem ggX1_storeIn_X0_put : GoodIn wsX1_storeIn wsX0_put := goodIn_r _ [9, 10, 11, 12, 13, 14, 15, 16, 17, 24, 25, 26, 27] (by decide +kernel) (by decide +kernel)
set_option maxRecDepth 20000 in
theorem gX1_storeIn_X0_put : GoodIn wsX1_storeIn (wsV RX1 91 RX0 yX0_put wsX0_put) := goodIn_app (goodIn_of _ (by decide +kernel)) ggX1_storeIn_X0_put
theorem dX1_storeIn_0 : decode cX1_storeIn 0 = .ok (.aload_n 0, 1) := by decide +kernel
theorem dX1_storeIn_1 : decode cX1_storeIn 1 = .ok (.getfield 34, 3) := by decide +kernel
theorem dX1_storeIn_4 : decode cX1_storeIn 4 = .ok (.aload_n 0, 1) := by decide +kernel
theorem dX1_storeIn_5 : decode cX1_storeIn 5 = .ok (.getfield 9, 3) := by decide +kernel
theorem dX1_storeIn_8 : decode cX1_storeIn 8 = .ok (.if_icmp .le 5, 3) := by decide +kernel
theorem dX1_storeIn_11 : decode cX1_storeIn 11 = .ok (.iconst 0, 1) := by decide +kernel
theorem dX1_storeIn_12 : decode cX1_storeIn 12 = .ok (.ireturn, 1) := by decide +kernel
theorem dX1_storeIn_13 : decode cX1_storeIn 13 = .ok (.aload_n 1, 1) := by decide +kernel
theorem dX1_storeIn_14 : decode cX1_storeIn 14 = .ok (.iload_n 2, 1) := by decide +kernel
theorem dX1_storeIn_15 : decode cX1_storeIn 15 = .ok (.aload_n 0, 1) := by decide +kernel
theorem dX1_storeIn_16 : decode cX1_storeIn 16 = .ok (.getfield 15, 3) := by decide +kernel
theorem dX1_storeIn_19 : decode cX1_storeIn 19 = .ok (.aload_n 0, 1) := by decide +kernel
theorem dX1_storeIn_20 : decode cX1_storeIn 20 = .ok (.getfield 34, 3) := by decide +kernel
theorem dX1_storeIn_23 : decode cX1_storeIn 23 = .ok (.aload_n 0, 1) := by decide +kernel
theorem dX1_storeIn_24 : decode cX1_storeIn 24 = .ok (.getfield 31, 3) := by decide +kernel
theorem dX1_storeIn_27 : decode cX1_storeIn 27 = .ok (.invokevirtual 91, 3) := by decide +kernel
theorem dX1_storeIn_30 : decode cX1_storeIn 30 = .ok (.iconst 1, 1) := by decide +kernel
theorem dX1_storeIn_31 : decode cX1_storeIn 31 = .ok (.ireturn, 1) := by decide +kernel
theorem dJ7_fill_53178_0 : decode cJ7_fill_53178 0 = .ok (.iconst 0, 1) := by decide +kernel
theorem dJ7_fill_53178_1 : decode cJ7_fill_53178 1 = .ok (.istore_n 2, 1) := by decide +kernel
theorem dJ7_fill_53178_2 : decode cJ7_fill_53178 2 = .ok (.aload_n 0, 1) := by decide +kernel
theorem dJ7_fill_53178_3 : decode cJ7_fill_53178 3 = .ok (.arraylength, 1) := by decide +kernel
theorem dJ7_fill_53178_4 : decode cJ7_fill_53178 4 = .ok (.istore_n 3, 1) := by decide +kernel
theorem dJ7_fill_53178_5 : decode cJ7_fill_53178 5 = .ok (.iload_n 2, 1) := by decide +kernel
theorem dJ7_fill_53178_6 : decode cJ7_fill_53178 6 = .ok (.iload_n 3, 1) := by decide +kernel
theorem dJ7_fill_53178_7 : decode cJ7_fill_53178 7 = .ok (.if_icmp .ge 13, 3) := by decide +kernel
theorem dJ7_fill_53178_10 : decode cJ7_fill_53178 10 = .ok (.aload_n 0, 1) := by decide +kernel
theorem dJ7_fill_53178_11 : decode cJ7_fill_53178 11 = .ok (.iload_n 2, 1) := by decide +kernel
theorem dJ7_fill_53178_12 : decode cJ7_fill_53178 12 = .ok (.iload_n 1, 1) := by decide +kernel
theorem dJ7_fill_53178_13 : decode cJ7_fill_53178 13 = .ok (.iastore, 1) := by decide +kernel
theorem dJ7_fill_53178_14 : decode cJ7_fill_53178 14 = .ok (.iinc 2 1, 3) := by decide +kernel
theorem dJ7_fill_53178_17 : decode cJ7_fill_53178 17 = .ok (.goto (-12), 3) := by decide +kernel
theorem dJ7_fill_53178_20 : decode cJ7_fill_53178 20 = .ok (.return_, 1) := by decide +kernel
theorem dJ9_max_7cf53_0 : decode cJ9_max_7cf53 0 = .ok (.iload_n 0, 1) := by decide +kernel
theorem dJ9_max_7cf53_1 : decode cJ9_max_7cf53 1 = .ok (.iload_n 1, 1) := by decide +kernel
theorem dJ9_max_7cf53_2 : decode cJ9_max_7cf53 2 = .ok (.if_icmp .lt 7, 3) := by decide +kernel
theorem dJ9_max_7cf53_5 : decode cJ9_max_7cf53 5 = .ok (.iload_n 0, 1) := by decide +kernel
theorem dJ9_max_7cf53_6 : decode cJ9_max_7cf53 6 = .ok (.goto 4, 3) := by decide +kernel
theorem dJ9_max_7cf53_9 : decode cJ9_max_7cf53 9 = .ok (.iload_n 1, 1) := by decide +kernel
theorem dJ9_max_7cf53_10 : decode cJ9_max_7cf53 10 = .ok (.ireturn, 1) := by decide +kernel
theorem dJ9_min_7cf53_0 : decode cJ9_min_7cf53 0 = .ok (.iload_n 0, 1) := by decide +kernel
theorem dJ9_min_7cf53_1 : decode cJ9_min_7cf53 1 = .ok (.iload_n 1, 1) := by decide +kernel
theorem dJ9_min_7cf53_2 : decode cJ9_min_7cf53 2 = .ok (.if_icmp .gt 7, 3) := by decide +kernel
theorem dJ9_min_7cf53_5 : decode cJ9_min_7cf53 5 = .ok (.iload_n 0, 1) := by decide +kernel
theorem dJ9_min_7cf53_6 : decode cJ9_min_7cf53 6 = .ok (.goto 4, 3) := by decide +kernel
theorem dJ9_min_7cf53_9 : decode cJ9_min_7cf53 9 = .ok (.iload_n 1, 1) := by decide +kernel
theorem dJ9_min_7cf53_10 : decode cJ9_min_7cf53 10 = .ok (.ireturn, 1) := by decide +kernel
set_option maxRecDepth 20000 in
theorem ggX2_init_X2_within : GoodIn wsX2_init wsX2_within := goodIn_r _ [21, 22, 23, 24, 25, 26, 27, 28] (by decide +kernel) (by decide +kernel)
set_option maxRecDepth 20000 in
theorem gX2_init_X2_within : GoodIn wsX2_init (va_wsS RX2 9 yX2_within wsX2_within) := goodIn_app (goodIn_of _ (by decide +kernel)) ggX2_init_X2_within
set_option maxRecDepth 20000 in
theorem ggX2_init_X0_init : GoodIn wsX2_init wsX0_init := goodIn_r _ [31, 32, 2, 3, 33, 16, 34, 35, 36, 78, 79, 80, 81] (by decide +kernel) (by decide +kernel)
set_option maxRecDepth 20000 in
theorem gX2_init_X0_init : GoodIn wsX2_init (wsX0_init) := ggX2_init_X0_init
set_option maxRecDepth 20000 in
theorem ggX2_init_X1_init : GoodIn wsX2_init wsX1_init := goodIn_r _ [39, 40, 2, 3, 41, 16, 42, 43, 44, 82, 83, 84, 85, 86, 87] (by decide +kernel) (by decide +kernel)
set_option maxRecDepth 20000 in
theorem gX2_init_X1_init : GoodIn wsX2_init (wsX1_init) := ggX2_init_X1_init
set_option maxRecDepth 20000 in
theorem ggX2_init_X2_startLoading : GoodIn wsX2_init wsX2_startLoading := goodIn_r _ [48, 9, 4, 17, 49, 50, 51, 52, 53, 54, 55, 56, 57, 58, 8, 59, 34, 35, 60, 61, 62, 63, 64, 65, 66, 67, 68, 69, 70, 71, 72, 73, 74, 75, 76, 77, 78, 79, 80, 81] (by decide +kernel) (by decide +kernel)
set_option maxRecDepth 20000 in
theorem gX2_init_X2_startLoading : GoodIn wsX2_init (wsV RX2 48 RX2 yX2_startLoading wsX2_startLoading) := goodIn_app (goodIn_of _ (by decide +kernel)) ggX2_init_X2_startLoading
theorem dX2_init_0 : decode cX2_init 0 = .ok (.aload_n 0, 1) := by decide +kernel
theorem dX2_init_1 : decode cX2_init 1 = .ok (.invokespecial 1, 3) := by decide +kernel
theorem dX2_init_4 : decode cX2_init 4 = .ok (.aload_n 0, 1) := by decide +kernel
theorem dX2_init_5 : decode cX2_init 5 = .ok (.iload_n 1, 1) := by decide +kernel
end
section
theorem dX2_init_6 : decode cX2_init 6 = .ok (.bipush 6, 2) := by decide +kernel
theorem dX2_init_8 : decode cX2_init 8 = .ok (.invokestatic 9, 3) := by decide +kernel
theorem dX2_init_11 : decode cX2_init 11 = .ok (.putfield 13, 3) := by decide +kernel
theorem dX2_init_14 : decode cX2_init 14 = .ok (.aload_n 0, 1) := by decide +kernel
theorem dX2_init_15 : decode cX2_init 15 = .ok (.iload_n 2, 1) := by decide +kernel
theorem dX2_init_16 : decode cX2_init 16 = .ok (.bipush 16, 2) := by decide +kernel
theorem dX2_init_18 : decode cX2_init 18 = .ok (.invokestatic 9, 3) := by decide +kernel
theorem dX2_init_21 : decode cX2_init 21 = .ok (.putfield 17, 3) := by decide +kernel
theorem dX2_init_24 : decode cX2_init 24 = .ok (.aload_n 0, 1) := by decide +kernel
theorem dX2_init_25 : decode cX2_init 25 = .ok (.new 20, 3) := by decide +kernel
theorem dX2_init_28 : decode cX2_init 28 = .ok (.dup, 1) := by decide +kernel
theorem dX2_init_29 : decode cX2_init 29 = .ok (.aload_n 0, 1) := by decide +kernel
theorem dX2_init_30 : decode cX2_init 30 = .ok (.getfield 13, 3) := by decide +kernel
theorem dX2_init_33 : decode cX2_init 33 = .ok (.aload_n 0, 1) := by decide +kernel
theorem dX2_init_34 : decode cX2_init 34 = .ok (.getfield 13, 3) := by decide +kernel
theorem dX2_init_37 : decode cX2_init 37 = .ok (.iconst 1, 1) := by decide +kernel
theorem dX2_init_38 : decode cX2_init 38 = .ok (.iadd, 1) := by decide +kernel
theorem dX2_init_39 : decode cX2_init 39 = .ok (.imul, 1) := by decide +kernel
theorem dX2_init_40 : decode cX2_init 40 = .ok (.aload_n 0, 1) := by decide +kernel
theorem dX2_init_41 : decode cX2_init 41 = .ok (.getfield 17, 3) := by decide +kernel
theorem dX2_init_44 : decode cX2_init 44 = .ok (.invokespecial 22, 3) := by decide +kernel
theorem dX2_init_47 : decode cX2_init 47 = .ok (.putfield 25, 3) := by decide +kernel
theorem dX2_init_50 : decode cX2_init 50 = .ok (.aload_n 0, 1) := by decide +kernel
theorem dX2_init_51 : decode cX2_init 51 = .ok (.new 20, 3) := by decide +kernel
theorem dX2_init_54 : decode cX2_init 54 = .ok (.dup, 1) := by decide +kernel
theorem dX2_init_55 : decode cX2_init 55 = .ok (.aload_n 0, 1) := by decide +kernel
theorem dX2_init_56 : decode cX2_init 56 = .ok (.getfield 13, 3) := by decide +kernel
theorem dX2_init_59 : decode cX2_init 59 = .ok (.aload_n 0, 1) := by decide +kernel
theorem dX2_init_60 : decode cX2_init 60 = .ok (.getfield 13, 3) := by decide +kernel
theorem dX2_init_63 : decode cX2_init 63 = .ok (.iconst 1, 1) := by decide +kernel
theorem dX2_init_64 : decode cX2_init 64 = .ok (.iadd, 1) := by decide +kernel
theorem dX2_init_65 : decode cX2_init 65 = .ok (.imul, 1) := by decide +kernel
theorem dX2_init_66 : decode cX2_init 66 = .ok (.aload_n 0, 1) := by decide +kernel
theorem dX2_init_67 : decode cX2_init 67 = .ok (.getfield 17, 3) := by decide +kernel
theorem dX2_init_70 : decode cX2_init 70 = .ok (.invokespecial 22, 3) := by decide +kernel
theorem dX2_init_73 : decode cX2_init 73 = .ok (.putfield 29, 3) := by decide +kernel
theorem dX2_init_76 : decode cX2_init 76 = .ok (.aload_n 0, 1) := by decide +kernel
theorem dX2_init_77 : decode cX2_init 77 = .ok (.new 20, 3) := by decide +kernel
theorem dX2_init_80 : decode cX2_init 80 = .ok (.dup, 1) := by decide +kernel
theorem dX2_init_81 : decode cX2_init 81 = .ok (.aload_n 0, 1) := by decide +kernel
theorem dX2_init_82 : decode cX2_init 82 = .ok (.getfield 13, 3) := by decide +kernel
theorem dX2_init_85 : decode cX2_init 85 = .ok (.iconst 1, 1) := by decide +kernel
theorem dX2_init_86 : decode cX2_init 86 = .ok (.iadd, 1) := by decide +kernel
theorem dX2_init_87 : decode cX2_init 87 = .ok (.aload_n 0, 1) := by decide +kernel
theorem dX2_init_88 : decode cX2_init 88 = .ok (.getfield 17, 3) := by decide +kernel
theorem dX2_init_91 : decode cX2_init 91 = .ok (.invokespecial 22, 3) := by decide +kernel
theorem dX2_init_94 : decode cX2_init 94 = .ok (.putfield 32, 3) := by decide +kernel
theorem dX2_init_97 : decode cX2_init 97 = .ok (.aload_n 0, 1) := by decide +kernel
theorem dX2_init_98 : decode cX2_init 98 = .ok (.new 35, 3) := by decide +kernel
theorem dX2_init_101 : decode cX2_init 101 = .ok (.dup, 1) := by decide +kernel
theorem dX2_init_102 : decode cX2_init 102 = .ok (.aload_n 0, 1) := by decide +kernel
theorem dX2_init_103 : decode cX2_init 103 = .ok (.getfield 17, 3) := by decide +kernel
theorem dX2_init_106 : decode cX2_init 106 = .ok (.invokespecial 37, 3) := by decide +kernel
theorem dX2_init_109 : decode cX2_init 109 = .ok (.putfield 40, 3) := by decide +kernel
theorem dX2_init_112 : decode cX2_init 112 = .ok (.aload_n 0, 1) := by decide +kernel
theorem dX2_init_113 : decode cX2_init 113 = .ok (.aload_n 0, 1) := by decide +kernel
theorem dX2_init_114 : decode cX2_init 114 = .ok (.getfield 13, 3) := by decide +kernel
theorem dX2_init_117 : decode cX2_init 117 = .ok (.newarray .int, 2) := by decide +kernel
theorem dX2_init_119 : decode cX2_init 119 = .ok (.putfield 44, 3) := by decide +kernel
theorem dX2_init_122 : decode cX2_init 122 = .ok (.aload_n 0, 1) := by decide +kernel
theorem dX2_init_123 : decode cX2_init 123 = .ok (.invokevirtual 48, 3) := by decide +kernel
theorem dX2_init_126 : decode cX2_init 126 = .ok (.return_, 1) := by decide +kernel
set_option maxRecDepth 20000 in
theorem ggX2_reset_X2_startLoading : GoodIn wsX2_reset wsX2_startLoading := goodIn_r _ [5, 6, 7, 8, 9, 10, 11, 12, 13, 14, 15, 16, 17, 18, 19, 20, 21, 22, 23, 24, 25, 26, 27, 28, 29, 30, 31, 32, 33, 34, 35, 36, 37, 38, 39, 40, 41, 42, 43, 44] (by decide +kernel) (by decide +kernel)
set_option maxRecDepth 20000 in
theorem gX2_reset_X2_startLoading : GoodIn wsX2_reset (wsV RX2 48 RX2 yX2_startLoading wsX2_startLoading) := goodIn_app (goodIn_of _ (by decide +kernel)) ggX2_reset_X2_startLoading
theorem dX2_reset_0 : decode cX2_reset 0 = .ok (.aload_n 0, 1) := by decide +kernel
theorem dX2_reset_1 : decode cX2_reset 1 = .ok (.invokevirtual 48, 3) := by decide +kernel
theorem dX2_reset_4 : decode cX2_reset 4 = .ok (.return_, 1) := by decide +kernel
set_option maxRecDepth 20000 in
theorem ggX2_entry_X2_isPlace : GoodIn wsX2_entry wsX2_isPlace := goodIn_r _ [10, 11, 24, 25, 26, 27, 28, 29, 30, 31, 32, 33, 34, 35, 36, 37] (by decide +kernel) (by decide +kernel)
set_option maxRecDepth 20000 in
theorem gX2_entry_X2_isPlace : GoodIn wsX2_entry (wsV RX2 54 RX2 yX2_isPlace wsX2_isPlace) := goodIn_app (goodIn_of _ (by decide +kernel)) ggX2_entry_X2_isPlace
set_option maxRecDepth 20000 in
theorem ggX2_entry_X2_slotAt : GoodIn wsX2_entry wsX2_slotAt := goodIn_r _ [15, 16, 11, 24, 25, 26, 27, 28, 29, 30, 31, 32, 33, 34, 35, 36, 37] (by decide +kernel) (by decide +kernel)
set_option maxRecDepth 20000 in
theorem gX2_entry_X2_slotAt : GoodIn wsX2_entry (wsV RX2 58 RX2 yX2_slotAt wsX2_slotAt) := goodIn_app (goodIn_of _ (by decide +kernel)) ggX2_entry_X2_slotAt
set_option maxRecDepth 20000 in
theorem ggX2_entry_X0_clear : GoodIn wsX2_entry wsX0_clear := goodIn_r _ [21, 22, 23, 38, 39, 40, 41] (by decide +kernel) (by decide +kernel)
set_option maxRecDepth 20000 in
theorem gX2_entry_X0_clear : GoodIn wsX2_entry (wsV RX2 70 RX0 yX0_clear wsX0_clear) := goodIn_app (goodIn_of _ (by decide +kernel)) ggX2_entry_X0_clear
theorem dX2_entry_0 : decode cX2_entry 0 = .ok (.aload_n 0, 1) := by decide +kernel
theorem dX2_entry_1 : decode cX2_entry 1 = .ok (.getfield 51, 3) := by decide +kernel
theorem dX2_entry_4 : decode cX2_entry 4 = .ok (.iconst 4, 1) := by decide +kernel
theorem dX2_entry_5 : decode cX2_entry 5 = .ok (.if_icmp .ne 22, 3) := by decide +kernel
theorem dX2_entry_8 : decode cX2_entry 8 = .ok (.aload_n 0, 1) := by decide +kernel
theorem dX2_entry_9 : decode cX2_entry 9 = .ok (.iload_n 1, 1) := by decide +kernel
theorem dX2_entry_10 : decode cX2_entry 10 = .ok (.iload_n 2, 1) := by decide +kernel
theorem dX2_entry_11 : decode cX2_entry 11 = .ok (.invokevirtual 54, 3) := by decide +kernel
theorem dX2_entry_14 : decode cX2_entry 14 = .ok (.ifCond .eq 13, 3) := by decide +kernel
theorem dX2_entry_17 : decode cX2_entry 17 = .ok (.iload_n 3, 1) := by decide +kernel
theorem dX2_entry_18 : decode cX2_entry 18 = .ok (.iconst (-1), 1) := by decide +kernel
theorem dX2_entry_19 : decode cX2_entry 19 = .ok (.if_icmp .lt 8, 3) := by decide +kernel
theorem dX2_entry_22 : decode cX2_entry 22 = .ok (.iload_n 3, 1) := by decide +kernel
theorem dX2_entry_23 : decode cX2_entry 23 = .ok (.iconst 1, 1) := by decide +kernel
theorem dX2_entry_24 : decode cX2_entry 24 = .ok (.if_icmp .le 5, 3) := by decide +kernel
theorem dX2_entry_27 : decode cX2_entry 27 = .ok (.iconst 0, 1) := by decide +kernel
theorem dX2_entry_28 : decode cX2_entry 28 = .ok (.ireturn, 1) := by decide +kernel
theorem dX2_entry_29 : decode cX2_entry 29 = .ok (.aload_n 0, 1) := by decide +kernel
theorem dX2_entry_30 : decode cX2_entry 30 = .ok (.aload_n 0, 1) := by decide +kernel
theorem dX2_entry_31 : decode cX2_entry 31 = .ok (.iload_n 1, 1) := by decide +kernel
theorem dX2_entry_32 : decode cX2_entry 32 = .ok (.iload_n 2, 1) := by decide +kernel
theorem dX2_entry_33 : decode cX2_entry 33 = .ok (.invokevirtual 58, 3) := by decide +kernel
theorem dX2_entry_36 : decode cX2_entry 36 = .ok (.putfield 61, 3) := by decide +kernel
theorem dX2_entry_39 : decode cX2_entry 39 = .ok (.aload_n 0, 1) := by decide +kernel
theorem dX2_entry_40 : decode cX2_entry 40 = .ok (.iload_n 3, 1) := by decide +kernel
theorem dX2_entry_41 : decode cX2_entry 41 = .ok (.putfield 64, 3) := by decide +kernel
theorem dX2_entry_44 : decode cX2_entry 44 = .ok (.aload_n 0, 1) := by decide +kernel
theorem dX2_entry_45 : decode cX2_entry 45 = .ok (.iconst 0, 1) := by decide +kernel
theorem dX2_entry_46 : decode cX2_entry 46 = .ok (.putfield 67, 3) := by decide +kernel
theorem dX2_entry_49 : decode cX2_entry 49 = .ok (.aload_n 0, 1) := by decide +kernel
theorem dX2_entry_50 : decode cX2_entry 50 = .ok (.getfield 25, 3) := by decide +kernel
theorem dX2_entry_53 : decode cX2_entry 53 = .ok (.aload_n 0, 1) := by decide +kernel
theorem dX2_entry_54 : decode cX2_entry 54 = .ok (.getfield 61, 3) := by decide +kernel
theorem dX2_entry_57 : decode cX2_entry 57 = .ok (.invokevirtual 70, 3) := by decide +kernel
theorem dX2_entry_60 : decode cX2_entry 60 = .ok (.iconst 1, 1) := by decide +kernel
theorem dX2_entry_61 : decode cX2_entry 61 = .ok (.ireturn, 1) := by decide +kernel
set_option maxRecDepth 20000 in
theorem ggX2_limb_X0_putLimb : GoodIn wsX2_limb wsX0_putLimb := goodIn_r _ [10, 11, 12, 13, 14, 29, 30, 31, 32] (by decide +kernel) (by decide +kernel)
set_option maxRecDepth 20000 in
theorem gX2_limb_X0_putLimb : GoodIn wsX2_limb (wsV RX2 73 RX0 yX0_putLimb wsX0_putLimb) := goodIn_app (goodIn_of _ (by decide +kernel)) ggX2_limb_X0_putLimb
theorem dX2_limb_0 : decode cX2_limb 0 = .ok (.aload_n 0, 1) := by decide +kernel
theorem dX2_limb_1 : decode cX2_limb 1 = .ok (.getfield 61, 3) := by decide +kernel
theorem dX2_limb_4 : decode cX2_limb 4 = .ok (.iconst (-1), 1) := by decide +kernel
theorem dX2_limb_5 : decode cX2_limb 5 = .ok (.if_icmp .eq 25, 3) := by decide +kernel
theorem dX2_limb_8 : decode cX2_limb 8 = .ok (.aload_n 0, 1) := by decide +kernel
theorem dX2_limb_9 : decode cX2_limb 9 = .ok (.getfield 64, 3) := by decide +kernel
theorem dX2_limb_12 : decode cX2_limb 12 = .ok (.ifCond .eq 18, 3) := by decide +kernel
theorem dX2_limb_15 : decode cX2_limb 15 = .ok (.iload_n 1, 1) := by decide +kernel
theorem dX2_limb_16 : decode cX2_limb 16 = .ok (.ifCond .lt 14, 3) := by decide +kernel
theorem dX2_limb_19 : decode cX2_limb 19 = .ok (.aload_n 0, 1) := by decide +kernel
theorem dX2_limb_20 : decode cX2_limb 20 = .ok (.getfield 67, 3) := by decide +kernel
theorem dX2_limb_23 : decode cX2_limb 23 = .ok (.aload_n 0, 1) := by decide +kernel
theorem dX2_limb_24 : decode cX2_limb 24 = .ok (.getfield 17, 3) := by decide +kernel
theorem dX2_limb_27 : decode cX2_limb 27 = .ok (.if_icmp .lt 5, 3) := by decide +kernel
theorem dX2_limb_30 : decode cX2_limb 30 = .ok (.iconst 0, 1) := by decide +kernel
theorem dX2_limb_31 : decode cX2_limb 31 = .ok (.ireturn, 1) := by decide +kernel
theorem dX2_limb_32 : decode cX2_limb 32 = .ok (.aload_n 0, 1) := by decide +kernel
theorem dX2_limb_33 : decode cX2_limb 33 = .ok (.getfield 25, 3) := by decide +kernel
theorem dX2_limb_36 : decode cX2_limb 36 = .ok (.aload_n 0, 1) := by decide +kernel
theorem dX2_limb_37 : decode cX2_limb 37 = .ok (.getfield 61, 3) := by decide +kernel
theorem dX2_limb_40 : decode cX2_limb 40 = .ok (.aload_n 0, 1) := by decide +kernel
theorem dX2_limb_41 : decode cX2_limb 41 = .ok (.getfield 67, 3) := by decide +kernel
theorem dX2_limb_44 : decode cX2_limb 44 = .ok (.iload_n 1, 1) := by decide +kernel
theorem dX2_limb_45 : decode cX2_limb 45 = .ok (.aload_n 0, 1) := by decide +kernel
theorem dX2_limb_46 : decode cX2_limb 46 = .ok (.getfield 64, 3) := by decide +kernel
theorem dX2_limb_49 : decode cX2_limb 49 = .ok (.invokevirtual 73, 3) := by decide +kernel
theorem dX2_limb_52 : decode cX2_limb 52 = .ok (.aload_n 0, 1) := by decide +kernel
theorem dX2_limb_53 : decode cX2_limb 53 = .ok (.dup, 1) := by decide +kernel
theorem dX2_limb_54 : decode cX2_limb 54 = .ok (.getfield 67, 3) := by decide +kernel
theorem dX2_limb_57 : decode cX2_limb 57 = .ok (.iconst 1, 1) := by decide +kernel
theorem dX2_limb_58 : decode cX2_limb 58 = .ok (.iadd, 1) := by decide +kernel
theorem dX2_limb_59 : decode cX2_limb 59 = .ok (.putfield 67, 3) := by decide +kernel
theorem dX2_limb_62 : decode cX2_limb 62 = .ok (.iconst 1, 1) := by decide +kernel
theorem dX2_limb_63 : decode cX2_limb 63 = .ok (.ireturn, 1) := by decide +kernel
set_option maxRecDepth 20000 in
theorem ggX2_step_X2_isEnded : GoodIn wsX2_step wsX2_isEnded := goodIn_r _ [8, 1, 151, 152, 153, 154, 155, 156, 157, 158, 159, 160, 161, 162, 163, 164] (by decide +kernel) (by decide +kernel)
set_option maxRecDepth 20000 in
theorem gX2_step_X2_isEnded : GoodIn wsX2_step (wsV RX2 77 RX2 yX2_isEnded wsX2_isEnded) := goodIn_app (goodIn_of _ (by decide +kernel)) ggX2_step_X2_isEnded
set_option maxRecDepth 20000 in
theorem ggX2_step_X2_endLoading : GoodIn wsX2_step wsX2_endLoading := goodIn_r _ [12, 13, 3, 14, 15, 16, 17, 18, 19, 20, 21, 22, 23, 24, 25, 26, 27, 28, 151, 152, 153, 154, 155, 156, 157, 158, 159, 160, 161, 162, 163, 164, 165, 166, 167, 168] (by decide +kernel) (by decide +kernel)
set_option maxRecDepth 20000 in
theorem gX2_step_X2_endLoading : GoodIn wsX2_step (wsV RX2 81 RX2 yX2_endLoading wsX2_endLoading) := goodIn_app (goodIn_of _ (by decide +kernel)) ggX2_step_X2_endLoading
set_option maxRecDepth 20000 in
theorem ggX2_step_X2_eliminateColumn : GoodIn wsX2_step wsX2_eliminateColumn := goodIn_r _ [32, 33, 3, 34, 35, 36, 7, 37, 15, 38, 39, 40, 41, 42, 43, 44, 45, 19, 46, 28, 47, 48, 49, 50, 51, 52, 53, 54, 55, 56, 57, 58, 59, 60, 61, 62, 63, 64, 65, 66, 67, 68, 69, 70, 71, 72, 73, 74, 75, 76, 77, 78, 23, 79, 80, 81, 82, 21, 22, 83, 84, 85, 86, 87, 88, 89, 90, 91, 92, 93, 94, 95, 96, 97, 98, 99, 100, 101, 102, 103, 104, 105, 106, 107, 108, 109, 110, 111, 112, 113, 114, 115, 116, 117, 118, 119, 120, 121, 122, 123, 124, 125, 126, 127, 128, 129, 130, 131, 132, 133, 134, 135, 136, 137, 24, 25, 26, 27, 151, 152, 153, 154, 155, 156, 157, 158, 159, 160, 161, 162, 163, 164, 165, 166, 167, 168, 169, 170, 171, 172, 173, 174] (by decide +kernel) (by decide +kernel)
set_option maxRecDepth 20000 in
theorem gX2_step_X2_eliminateColumn : GoodIn wsX2_step (wsV RX2 87 RX2 yX2_eliminateColumn wsX2_eliminateColumn) := goodIn_app (goodIn_of _ (by decide +kernel)) ggX2_step_X2_eliminateColumn
set_option maxRecDepth 20000 in
theorem ggX2_step_X2_solveRow : GoodIn wsX2_step wsX2_solveRow := goodIn_r _ [141, 56, 15, 3, 142, 57, 58, 59, 60, 61, 62, 63, 64, 65, 66, 67, 68, 69, 38, 39, 40, 7, 41, 42, 70, 71, 72, 73, 74, 44, 45, 19, 46, 28, 75, 76, 77, 78, 23, 79, 80, 81, 82, 21, 22, 83, 84, 85, 86, 87, 88, 89, 90, 91, 92, 93, 94, 95, 96, 97, 98, 99, 100, 101, 102, 103, 104, 105, 106, 107, 108, 109, 110, 111, 112, 113, 114, 115, 116, 117, 118, 119, 120, 121, 122, 123, 124, 125, 126, 127, 128, 129, 130, 131, 132, 133, 134, 135, 136, 137, 24, 25, 26, 27, 143, 144, 145, 146, 51, 16, 17, 18, 20, 147, 148, 149, 150, 151, 152, 153, 154, 155, 156, 157, 158, 159, 160, 161, 162, 163, 164, 169, 170, 171, 172, 173, 174, 165, 166, 167, 168] (by decide +kernel) (by decide +kernel)
set_option maxRecDepth 20000 in
theorem gX2_step_X2_solveRow : GoodIn wsX2_step (wsV RX2 91 RX2 yX2_solveRow wsX2_solveRow) := goodIn_app (goodIn_of _ (by decide +kernel)) ggX2_step_X2_solveRow
theorem dX2_step_0 : decode cX2_step 0 = .ok (.aload_n 0, 1) := by decide +kernel
theorem dX2_step_1 : decode cX2_step 1 = .ok (.invokevirtual 77, 3) := by decide +kernel
theorem dX2_step_4 : decode cX2_step 4 = .ok (.ifCond .eq 8, 3) := by decide +kernel
theorem dX2_step_7 : decode cX2_step 7 = .ok (.aload_n 0, 1) := by decide +kernel
theorem dX2_step_8 : decode cX2_step 8 = .ok (.getfield 51, 3) := by decide +kernel
theorem dX2_step_11 : decode cX2_step 11 = .ok (.ireturn, 1) := by decide +kernel
theorem dX2_step_12 : decode cX2_step 12 = .ok (.aload_n 0, 1) := by decide +kernel
theorem dX2_step_13 : decode cX2_step 13 = .ok (.getfield 51, 3) := by decide +kernel
theorem dX2_step_16 : decode cX2_step 16 = .ok (.iconst 4, 1) := by decide +kernel
theorem dX2_step_17 : decode cX2_step 17 = .ok (.if_icmp .ne 7, 3) := by decide +kernel
theorem dX2_step_20 : decode cX2_step 20 = .ok (.aload_n 0, 1) := by decide +kernel
theorem dX2_step_21 : decode cX2_step 21 = .ok (.invokevirtual 81, 3) := by decide +kernel
theorem dX2_step_24 : decode cX2_step 24 = .ok (.aload_n 0, 1) := by decide +kernel
theorem dX2_step_25 : decode cX2_step 25 = .ok (.getfield 84, 3) := by decide +kernel
theorem dX2_step_28 : decode cX2_step 28 = .ok (.istore_n 1, 1) := by decide +kernel
theorem dX2_step_29 : decode cX2_step 29 = .ok (.aload_n 0, 1) := by decide +kernel
theorem dX2_step_30 : decode cX2_step 30 = .ok (.dup, 1) := by decide +kernel
theorem dX2_step_31 : decode cX2_step 31 = .ok (.getfield 84, 3) := by decide +kernel
theorem dX2_step_34 : decode cX2_step 34 = .ok (.iconst 1, 1) := by decide +kernel
theorem dX2_step_35 : decode cX2_step 35 = .ok (.iadd, 1) := by decide +kernel
theorem dX2_step_36 : decode cX2_step 36 = .ok (.putfield 84, 3) := by decide +kernel
theorem dX2_step_39 : decode cX2_step 39 = .ok (.aload_n 0, 1) := by decide +kernel
theorem dX2_step_40 : decode cX2_step 40 = .ok (.iload_n 1, 1) := by decide +kernel
theorem dX2_step_41 : decode cX2_step 41 = .ok (.aload_n 0, 1) := by decide +kernel
theorem dX2_step_42 : decode cX2_step 42 = .ok (.getfield 13, 3) := by decide +kernel
theorem dX2_step_45 : decode cX2_step 45 = .ok (.if_icmp .ge 11, 3) := by decide +kernel
theorem dX2_step_48 : decode cX2_step 48 = .ok (.aload_n 0, 1) := by decide +kernel
theorem dX2_step_49 : decode cX2_step 49 = .ok (.iload_n 1, 1) := by decide +kernel
theorem dX2_step_50 : decode cX2_step 50 = .ok (.invokevirtual 87, 3) := by decide +kernel
theorem dX2_step_53 : decode cX2_step 53 = .ok (.goto 17, 3) := by decide +kernel
theorem dX2_step_56 : decode cX2_step 56 = .ok (.aload_n 0, 1) := by decide +kernel
theorem dX2_step_57 : decode cX2_step 57 = .ok (.iconst 2, 1) := by decide +kernel
theorem dX2_step_58 : decode cX2_step 58 = .ok (.aload_n 0, 1) := by decide +kernel
theorem dX2_step_59 : decode cX2_step 59 = .ok (.getfield 13, 3) := by decide +kernel
theorem dX2_step_62 : decode cX2_step 62 = .ok (.imul, 1) := by decide +kernel
theorem dX2_step_63 : decode cX2_step 63 = .ok (.iconst 1, 1) := by decide +kernel
theorem dX2_step_64 : decode cX2_step 64 = .ok (.isub, 1) := by decide +kernel
theorem dX2_step_65 : decode cX2_step 65 = .ok (.iload_n 1, 1) := by decide +kernel
theorem dX2_step_66 : decode cX2_step 66 = .ok (.isub, 1) := by decide +kernel
theorem dX2_step_67 : decode cX2_step 67 = .ok (.invokevirtual 91, 3) := by decide +kernel
theorem dX2_step_70 : decode cX2_step 70 = .ok (.putfield 51, 3) := by decide +kernel
theorem dX2_step_73 : decode cX2_step 73 = .ok (.aload_n 0, 1) := by decide +kernel
theorem dX2_step_74 : decode cX2_step 74 = .ok (.getfield 51, 3) := by decide +kernel
theorem dX2_step_77 : decode cX2_step 77 = .ok (.ireturn, 1) := by decide +kernel
theorem dX2_status_0 : decode cX2_status 0 = .ok (.aload_n 0, 1) := by decide +kernel
theorem dX2_status_1 : decode cX2_status 1 = .ok (.getfield 51, 3) := by decide +kernel
theorem dX2_status_4 : decode cX2_status 4 = .ok (.ireturn, 1) := by decide +kernel
theorem dX2_steps_0 : decode cX2_steps 0 = .ok (.aload_n 0, 1) := by decide +kernel
theorem dX2_steps_1 : decode cX2_steps 1 = .ok (.getfield 84, 3) := by decide +kernel
theorem dX2_steps_4 : decode cX2_steps 4 = .ok (.ireturn, 1) := by decide +kernel
set_option maxRecDepth 20000 in
theorem ggX2_determinant_X0_tell : GoodIn wsX2_determinant wsX0_tell := goodIn_r _ [8, 9, 10, 11, 12, 13, 7, 14, 15, 16, 31, 32, 33, 34] (by decide +kernel) (by decide +kernel)
set_option maxRecDepth 20000 in
theorem gX2_determinant_X0_tell : GoodIn wsX2_determinant (wsV RX2 94 RX0 yX0_tell wsX0_tell) := goodIn_app (goodIn_of _ (by decide +kernel)) ggX2_determinant_X0_tell
theorem dX2_determinant_0 : decode cX2_determinant 0 = .ok (.aload_n 0, 1) := by decide +kernel
theorem dX2_determinant_1 : decode cX2_determinant 1 = .ok (.getfield 51, 3) := by decide +kernel
theorem dX2_determinant_4 : decode cX2_determinant 4 = .ok (.iconst 2, 1) := by decide +kernel
theorem dX2_determinant_5 : decode cX2_determinant 5 = .ok (.if_icmp .ne 20, 3) := by decide +kernel
theorem dX2_determinant_8 : decode cX2_determinant 8 = .ok (.iload_n 1, 1) := by decide +kernel
theorem dX2_determinant_9 : decode cX2_determinant 9 = .ok (.bipush (-2), 2) := by decide +kernel
theorem dX2_determinant_11 : decode cX2_determinant 11 = .ok (.if_icmp .eq 8, 3) := by decide +kernel
theorem dX2_determinant_14 : decode cX2_determinant 14 = .ok (.iload_n 1, 1) := by decide +kernel
theorem dX2_determinant_15 : decode cX2_determinant 15 = .ok (.iconst (-1), 1) := by decide +kernel
theorem dX2_determinant_16 : decode cX2_determinant 16 = .ok (.if_icmp .ne 7, 3) := by decide +kernel
theorem dX2_determinant_19 : decode cX2_determinant 19 = .ok (.iconst 0, 1) := by decide +kernel
theorem dX2_determinant_20 : decode cX2_determinant 20 = .ok (.goto 4, 3) := by decide +kernel
theorem dX2_determinant_23 : decode cX2_determinant 23 = .ok (.iconst (-1), 1) := by decide +kernel
theorem dX2_determinant_24 : decode cX2_determinant 24 = .ok (.ireturn, 1) := by decide +kernel
theorem dX2_determinant_25 : decode cX2_determinant 25 = .ok (.aload_n 0, 1) := by decide +kernel
theorem dX2_determinant_26 : decode cX2_determinant 26 = .ok (.getfield 51, 3) := by decide +kernel
theorem dX2_determinant_29 : decode cX2_determinant 29 = .ok (.iconst 1, 1) := by decide +kernel
theorem dX2_determinant_30 : decode cX2_determinant 30 = .ok (.if_icmp .ne 18, 3) := by decide +kernel
theorem dX2_determinant_33 : decode cX2_determinant 33 = .ok (.aload_n 0, 1) := by decide +kernel
theorem dX2_determinant_34 : decode cX2_determinant 34 = .ok (.getfield 32, 3) := by decide +kernel
theorem dX2_determinant_37 : decode cX2_determinant 37 = .ok (.aload_n 0, 1) := by decide +kernel
theorem dX2_determinant_38 : decode cX2_determinant 38 = .ok (.getfield 13, 3) := by decide +kernel
theorem dX2_determinant_41 : decode cX2_determinant 41 = .ok (.iload_n 1, 1) := by decide +kernel
theorem dX2_determinant_42 : decode cX2_determinant 42 = .ok (.invokevirtual 94, 3) := by decide +kernel
theorem dX2_determinant_45 : decode cX2_determinant 45 = .ok (.goto 4, 3) := by decide +kernel
theorem dX2_determinant_48 : decode cX2_determinant 48 = .ok (.iconst (-1), 1) := by decide +kernel
theorem dX2_determinant_49 : decode cX2_determinant 49 = .ok (.ireturn, 1) := by decide +kernel
set_option maxRecDepth 20000 in
theorem ggX2_numerator_X0_tell : GoodIn wsX2_numerator wsX0_tell := goodIn_r _ [8, 9, 10, 11, 12, 13, 7, 14, 15, 16, 31, 32, 33, 34] (by decide +kernel) (by decide +kernel)
set_option maxRecDepth 20000 in
theorem gX2_numerator_X0_tell : GoodIn wsX2_numerator (wsV RX2 94 RX0 yX0_tell wsX0_tell) := goodIn_app (goodIn_of _ (by decide +kernel)) ggX2_numerator_X0_tell
theorem dX2_numerator_0 : decode cX2_numerator 0 = .ok (.aload_n 0, 1) := by decide +kernel
theorem dX2_numerator_1 : decode cX2_numerator 1 = .ok (.getfield 51, 3) := by decide +kernel
theorem dX2_numerator_4 : decode cX2_numerator 4 = .ok (.iconst 1, 1) := by decide +kernel
theorem dX2_numerator_5 : decode cX2_numerator 5 = .ok (.if_icmp .ne 27, 3) := by decide +kernel
theorem dX2_numerator_8 : decode cX2_numerator 8 = .ok (.iload_n 1, 1) := by decide +kernel
theorem dX2_numerator_9 : decode cX2_numerator 9 = .ok (.ifCond .lt 23, 3) := by decide +kernel
theorem dX2_numerator_12 : decode cX2_numerator 12 = .ok (.iload_n 1, 1) := by decide +kernel
theorem dX2_numerator_13 : decode cX2_numerator 13 = .ok (.aload_n 0, 1) := by decide +kernel
theorem dX2_numerator_14 : decode cX2_numerator 14 = .ok (.getfield 13, 3) := by decide +kernel
theorem dX2_numerator_17 : decode cX2_numerator 17 = .ok (.if_icmp .ge 15, 3) := by decide +kernel
theorem dX2_numerator_20 : decode cX2_numerator 20 = .ok (.aload_n 0, 1) := by decide +kernel
theorem dX2_numerator_21 : decode cX2_numerator 21 = .ok (.getfield 32, 3) := by decide +kernel
theorem dX2_numerator_24 : decode cX2_numerator 24 = .ok (.iload_n 1, 1) := by decide +kernel
theorem dX2_numerator_25 : decode cX2_numerator 25 = .ok (.iload_n 2, 1) := by decide +kernel
theorem dX2_numerator_26 : decode cX2_numerator 26 = .ok (.invokevirtual 94, 3) := by decide +kernel
theorem dX2_numerator_29 : decode cX2_numerator 29 = .ok (.goto 4, 3) := by decide +kernel
theorem dX2_numerator_32 : decode cX2_numerator 32 = .ok (.iconst (-1), 1) := by decide +kernel
theorem dX2_numerator_33 : decode cX2_numerator 33 = .ok (.ireturn, 1) := by decide +kernel
set_option maxRecDepth 20000 in
theorem ggX2_pivot_X2_slotAt : GoodIn wsX2_pivot wsX2_slotAt := goodIn_r _ [7, 8, 9, 23, 24, 25, 26, 27, 28, 29, 30, 31, 32, 33, 34, 35, 36] (by decide +kernel) (by decide +kernel)
set_option maxRecDepth 20000 in
theorem gX2_pivot_X2_slotAt : GoodIn wsX2_pivot (wsV RX2 58 RX2 yX2_slotAt wsX2_slotAt) := goodIn_app (goodIn_of _ (by decide +kernel)) ggX2_pivot_X2_slotAt
set_option maxRecDepth 20000 in
theorem ggX2_pivot_X0_tell : GoodIn wsX2_pivot wsX0_tell := goodIn_r _ [14, 15, 16, 17, 18, 19, 13, 20, 21, 22, 37, 38, 39, 40] (by decide +kernel) (by decide +kernel)
set_option maxRecDepth 20000 in
theorem gX2_pivot_X0_tell : GoodIn wsX2_pivot (wsV RX2 94 RX0 yX0_tell wsX0_tell) := goodIn_app (goodIn_of _ (by decide +kernel)) ggX2_pivot_X0_tell
theorem dX2_pivot_0 : decode cX2_pivot 0 = .ok (.iload_n 1, 1) := by decide +kernel
theorem dX2_pivot_1 : decode cX2_pivot 1 = .ok (.ifCond .lt 28, 3) := by decide +kernel
theorem dX2_pivot_4 : decode cX2_pivot 4 = .ok (.iload_n 1, 1) := by decide +kernel
theorem dX2_pivot_5 : decode cX2_pivot 5 = .ok (.aload_n 0, 1) := by decide +kernel
theorem dX2_pivot_6 : decode cX2_pivot 6 = .ok (.getfield 97, 3) := by decide +kernel
theorem dX2_pivot_9 : decode cX2_pivot 9 = .ok (.if_icmp .ge 20, 3) := by decide +kernel
theorem dX2_pivot_12 : decode cX2_pivot 12 = .ok (.aload_n 0, 1) := by decide +kernel
theorem dX2_pivot_13 : decode cX2_pivot 13 = .ok (.getfield 25, 3) := by decide +kernel
theorem dX2_pivot_16 : decode cX2_pivot 16 = .ok (.aload_n 0, 1) := by decide +kernel
theorem dX2_pivot_17 : decode cX2_pivot 17 = .ok (.iload_n 1, 1) := by decide +kernel
theorem dX2_pivot_18 : decode cX2_pivot 18 = .ok (.iload_n 1, 1) := by decide +kernel
theorem dX2_pivot_19 : decode cX2_pivot 19 = .ok (.invokevirtual 58, 3) := by decide +kernel
theorem dX2_pivot_22 : decode cX2_pivot 22 = .ok (.iload_n 2, 1) := by decide +kernel
theorem dX2_pivot_23 : decode cX2_pivot 23 = .ok (.invokevirtual 94, 3) := by decide +kernel
theorem dX2_pivot_26 : decode cX2_pivot 26 = .ok (.goto 4, 3) := by decide +kernel
theorem dX2_pivot_29 : decode cX2_pivot 29 = .ok (.iconst (-1), 1) := by decide +kernel
theorem dX2_pivot_30 : decode cX2_pivot 30 = .ok (.ireturn, 1) := by decide +kernel
set_option maxRecDepth 20000 in
theorem ggX2_number_X2_isPlace : GoodIn wsX2_number wsX2_isPlace := goodIn_r _ [6, 7, 26, 27, 28, 29, 30, 31, 32, 33, 34, 35, 36, 37, 38, 39] (by decide +kernel) (by decide +kernel)
set_option maxRecDepth 20000 in
theorem gX2_number_X2_isPlace : GoodIn wsX2_number (wsV RX2 54 RX2 yX2_isPlace wsX2_isPlace) := goodIn_app (goodIn_of _ (by decide +kernel)) ggX2_number_X2_isPlace
set_option maxRecDepth 20000 in
theorem ggX2_number_X2_slotAt : GoodIn wsX2_number wsX2_slotAt := goodIn_r _ [11, 12, 7, 26, 27, 28, 29, 30, 31, 32, 33, 34, 35, 36, 37, 38, 39] (by decide +kernel) (by decide +kernel)
set_option maxRecDepth 20000 in
theorem gX2_number_X2_slotAt : GoodIn wsX2_number (wsV RX2 58 RX2 yX2_slotAt wsX2_slotAt) := goodIn_app (goodIn_of _ (by decide +kernel)) ggX2_number_X2_slotAt
set_option maxRecDepth 20000 in
theorem ggX2_number_X0_tell : GoodIn wsX2_number wsX0_tell := goodIn_r _ [17, 18, 19, 20, 21, 22, 16, 23, 24, 25, 40, 41, 42, 43] (by decide +kernel) (by decide +kernel)
set_option maxRecDepth 20000 in
theorem gX2_number_X0_tell : GoodIn wsX2_number (wsV RX2 94 RX0 yX0_tell wsX0_tell) := goodIn_app (goodIn_of _ (by decide +kernel)) ggX2_number_X0_tell
theorem dX2_number_0 : decode cX2_number 0 = .ok (.aload_n 0, 1) := by decide +kernel
theorem dX2_number_1 : decode cX2_number 1 = .ok (.iload_n 1, 1) := by decide +kernel
theorem dX2_number_2 : decode cX2_number 2 = .ok (.iload_n 2, 1) := by decide +kernel
theorem dX2_number_3 : decode cX2_number 3 = .ok (.invokevirtual 54, 3) := by decide +kernel
theorem dX2_number_6 : decode cX2_number 6 = .ok (.ifCond .eq 20, 3) := by decide +kernel
theorem dX2_number_9 : decode cX2_number 9 = .ok (.aload_n 0, 1) := by decide +kernel
theorem dX2_number_10 : decode cX2_number 10 = .ok (.getfield 25, 3) := by decide +kernel
theorem dX2_number_13 : decode cX2_number 13 = .ok (.aload_n 0, 1) := by decide +kernel
theorem dX2_number_14 : decode cX2_number 14 = .ok (.iload_n 1, 1) := by decide +kernel
theorem dX2_number_15 : decode cX2_number 15 = .ok (.iload_n 2, 1) := by decide +kernel
theorem dX2_number_16 : decode cX2_number 16 = .ok (.invokevirtual 58, 3) := by decide +kernel
theorem dX2_number_19 : decode cX2_number 19 = .ok (.iload_n 3, 1) := by decide +kernel
theorem dX2_number_20 : decode cX2_number 20 = .ok (.invokevirtual 94, 3) := by decide +kernel
theorem dX2_number_23 : decode cX2_number 23 = .ok (.goto 4, 3) := by decide +kernel
theorem dX2_number_26 : decode cX2_number 26 = .ok (.iconst (-1), 1) := by decide +kernel
theorem dX2_number_27 : decode cX2_number 27 = .ok (.ireturn, 1) := by decide +kernel
theorem dX2_row_0 : decode cX2_row 0 = .ok (.iload_n 1, 1) := by decide +kernel
theorem dX2_row_1 : decode cX2_row 1 = .ok (.ifCond .lt 20, 3) := by decide +kernel
theorem dX2_row_4 : decode cX2_row 4 = .ok (.iload_n 1, 1) := by decide +kernel
theorem dX2_row_5 : decode cX2_row 5 = .ok (.aload_n 0, 1) := by decide +kernel
theorem dX2_row_6 : decode cX2_row 6 = .ok (.getfield 13, 3) := by decide +kernel
theorem dX2_row_9 : decode cX2_row 9 = .ok (.if_icmp .ge 12, 3) := by decide +kernel
theorem dX2_row_12 : decode cX2_row 12 = .ok (.aload_n 0, 1) := by decide +kernel
theorem dX2_row_13 : decode cX2_row 13 = .ok (.getfield 44, 3) := by decide +kernel
theorem dX2_row_16 : decode cX2_row 16 = .ok (.iload_n 1, 1) := by decide +kernel
theorem dX2_row_17 : decode cX2_row 17 = .ok (.iaload, 1) := by decide +kernel
theorem dX2_row_18 : decode cX2_row 18 = .ok (.goto 4, 3) := by decide +kernel
theorem dX2_row_21 : decode cX2_row 21 = .ok (.iconst (-1), 1) := by decide +kernel
theorem dX2_row_22 : decode cX2_row 22 = .ok (.ireturn, 1) := by decide +kernel
set_option maxRecDepth 20000 in
theorem ggX2_holds_X2_equationHolds : GoodIn wsX2_holds wsX2_equationHolds := goodIn_r _ [7, 2, 8, 9, 10, 11, 12, 13, 14, 15, 16, 17, 18, 19, 20, 21, 22, 23, 24, 25, 26, 27, 28, 29, 30, 31, 32, 33, 34, 35, 36, 37, 38, 39, 40, 41, 42, 43, 44, 45, 46, 47, 48, 49, 50, 51, 52, 53, 54, 55, 56, 57, 58, 59, 60, 61, 62, 63, 64, 65, 66, 67, 68, 69, 70, 71, 72, 73, 74, 75, 76, 77, 78, 79, 80] (by decide +kernel) (by decide +kernel)
set_option maxRecDepth 20000 in
theorem gX2_holds_X2_equationHolds : GoodIn wsX2_holds (wsV RX2 100 RX2 yX2_equationHolds wsX2_equationHolds) := goodIn_app (goodIn_of _ (by decide +kernel)) ggX2_holds_X2_equationHolds
theorem dX2_holds_0 : decode cX2_holds 0 = .ok (.aload_n 0, 1) := by decide +kernel
theorem dX2_holds_1 : decode cX2_holds 1 = .ok (.getfield 51, 3) := by decide +kernel
theorem dX2_holds_4 : decode cX2_holds 4 = .ok (.iconst 1, 1) := by decide +kernel
theorem dX2_holds_5 : decode cX2_holds 5 = .ok (.if_icmp .eq 5, 3) := by decide +kernel
theorem dX2_holds_8 : decode cX2_holds 8 = .ok (.iconst 0, 1) := by decide +kernel
theorem dX2_holds_9 : decode cX2_holds 9 = .ok (.ireturn, 1) := by decide +kernel
theorem dX2_holds_10 : decode cX2_holds 10 = .ok (.iconst 0, 1) := by decide +kernel
theorem dX2_holds_11 : decode cX2_holds 11 = .ok (.istore_n 1, 1) := by decide +kernel
theorem dX2_holds_12 : decode cX2_holds 12 = .ok (.iload_n 1, 1) := by decide +kernel
theorem dX2_holds_13 : decode cX2_holds 13 = .ok (.aload_n 0, 1) := by decide +kernel
theorem dX2_holds_14 : decode cX2_holds 14 = .ok (.getfield 13, 3) := by decide +kernel
theorem dX2_holds_17 : decode cX2_holds 17 = .ok (.if_icmp .ge 19, 3) := by decide +kernel
theorem dX2_holds_20 : decode cX2_holds 20 = .ok (.aload_n 0, 1) := by decide +kernel
theorem dX2_holds_21 : decode cX2_holds 21 = .ok (.iload_n 1, 1) := by decide +kernel
theorem dX2_holds_22 : decode cX2_holds 22 = .ok (.invokevirtual 100, 3) := by decide +kernel
theorem dX2_holds_25 : decode cX2_holds 25 = .ok (.ifCond .ne 5, 3) := by decide +kernel
theorem dX2_holds_28 : decode cX2_holds 28 = .ok (.iconst 0, 1) := by decide +kernel
theorem dX2_holds_29 : decode cX2_holds 29 = .ok (.ireturn, 1) := by decide +kernel
theorem dX2_holds_30 : decode cX2_holds 30 = .ok (.iinc 1 1, 3) := by decide +kernel
theorem dX2_holds_33 : decode cX2_holds 33 = .ok (.goto (-21), 3) := by decide +kernel
theorem dX2_holds_36 : decode cX2_holds 36 = .ok (.iconst 1, 1) := by decide +kernel
theorem dX2_holds_37 : decode cX2_holds 37 = .ok (.ireturn, 1) := by decide +kernel
theorem dX2_within_0 : decode cX2_within 0 = .ok (.iconst 1, 1) := by decide +kernel
theorem dX2_within_1 : decode cX2_within 1 = .ok (.iload_n 0, 1) := by decide +kernel
theorem dX2_within_2 : decode cX2_within 2 = .ok (.iload_n 1, 1) := by decide +kernel
theorem dX2_within_3 : decode cX2_within 3 = .ok (.invokestatic 104, 3) := by decide +kernel
theorem dX2_within_6 : decode cX2_within 6 = .ok (.invokestatic 109, 3) := by decide +kernel
theorem dX2_within_9 : decode cX2_within 9 = .ok (.ireturn, 1) := by decide +kernel
set_option maxRecDepth 20000 in
theorem ggX2_startLoading_X0_clearAll : GoodIn wsX2_startLoading wsX0_clearAll := goodIn_r _ [15, 16, 17, 18, 19, 20, 21, 36, 37, 38, 39] (by decide +kernel) (by decide +kernel)
set_option maxRecDepth 20000 in
theorem gX2_startLoading_X0_clearAll : GoodIn wsX2_startLoading (wsV RX2 112 RX0 yX0_clearAll wsX0_clearAll) := goodIn_app (goodIn_of _ (by decide +kernel)) ggX2_startLoading_X0_clearAll
theorem dX2_startLoading_0 : decode cX2_startLoading 0 = .ok (.aload_n 0, 1) := by decide +kernel
theorem dX2_startLoading_1 : decode cX2_startLoading 1 = .ok (.getfield 25, 3) := by decide +kernel
theorem dX2_startLoading_4 : decode cX2_startLoading 4 = .ok (.invokevirtual 112, 3) := by decide +kernel
theorem dX2_startLoading_7 : decode cX2_startLoading 7 = .ok (.iconst 0, 1) := by decide +kernel
theorem dX2_startLoading_8 : decode cX2_startLoading 8 = .ok (.istore_n 1, 1) := by decide +kernel
theorem dX2_startLoading_9 : decode cX2_startLoading 9 = .ok (.iload_n 1, 1) := by decide +kernel
theorem dX2_startLoading_10 : decode cX2_startLoading 10 = .ok (.aload_n 0, 1) := by decide +kernel
theorem dX2_startLoading_11 : decode cX2_startLoading 11 = .ok (.getfield 13, 3) := by decide +kernel
theorem dX2_startLoading_14 : decode cX2_startLoading 14 = .ok (.if_icmp .ge 16, 3) := by decide +kernel
theorem dX2_startLoading_17 : decode cX2_startLoading 17 = .ok (.aload_n 0, 1) := by decide +kernel
theorem dX2_startLoading_18 : decode cX2_startLoading 18 = .ok (.getfield 44, 3) := by decide +kernel
theorem dX2_startLoading_21 : decode cX2_startLoading 21 = .ok (.iload_n 1, 1) := by decide +kernel
theorem dX2_startLoading_22 : decode cX2_startLoading 22 = .ok (.iload_n 1, 1) := by decide +kernel
theorem dX2_startLoading_23 : decode cX2_startLoading 23 = .ok (.iastore, 1) := by decide +kernel
theorem dX2_startLoading_24 : decode cX2_startLoading 24 = .ok (.iinc 1 1, 3) := by decide +kernel
theorem dX2_startLoading_27 : decode cX2_startLoading 27 = .ok (.goto (-18), 3) := by decide +kernel
theorem dX2_startLoading_30 : decode cX2_startLoading 30 = .ok (.aload_n 0, 1) := by decide +kernel
theorem dX2_startLoading_31 : decode cX2_startLoading 31 = .ok (.iconst 4, 1) := by decide +kernel
theorem dX2_startLoading_32 : decode cX2_startLoading 32 = .ok (.putfield 51, 3) := by decide +kernel
theorem dX2_startLoading_35 : decode cX2_startLoading 35 = .ok (.aload_n 0, 1) := by decide +kernel
theorem dX2_startLoading_36 : decode cX2_startLoading 36 = .ok (.iconst 0, 1) := by decide +kernel
theorem dX2_startLoading_37 : decode cX2_startLoading 37 = .ok (.putfield 84, 3) := by decide +kernel
theorem dX2_startLoading_40 : decode cX2_startLoading 40 = .ok (.aload_n 0, 1) := by decide +kernel
theorem dX2_startLoading_41 : decode cX2_startLoading 41 = .ok (.iconst 0, 1) := by decide +kernel
theorem dX2_startLoading_42 : decode cX2_startLoading 42 = .ok (.putfield 97, 3) := by decide +kernel
theorem dX2_startLoading_45 : decode cX2_startLoading 45 = .ok (.aload_n 0, 1) := by decide +kernel
theorem dX2_startLoading_46 : decode cX2_startLoading 46 = .ok (.iconst 0, 1) := by decide +kernel
theorem dX2_startLoading_47 : decode cX2_startLoading 47 = .ok (.putfield 115, 3) := by decide +kernel
theorem dX2_startLoading_50 : decode cX2_startLoading 50 = .ok (.aload_n 0, 1) := by decide +kernel
theorem dX2_startLoading_51 : decode cX2_startLoading 51 = .ok (.iconst (-1), 1) := by decide +kernel
theorem dX2_startLoading_52 : decode cX2_startLoading 52 = .ok (.putfield 61, 3) := by decide +kernel
theorem dX2_startLoading_55 : decode cX2_startLoading 55 = .ok (.aload_n 0, 1) := by decide +kernel
theorem dX2_startLoading_56 : decode cX2_startLoading 56 = .ok (.iconst 0, 1) := by decide +kernel
theorem dX2_startLoading_57 : decode cX2_startLoading 57 = .ok (.putfield 64, 3) := by decide +kernel
theorem dX2_startLoading_60 : decode cX2_startLoading 60 = .ok (.aload_n 0, 1) := by decide +kernel
theorem dX2_startLoading_61 : decode cX2_startLoading 61 = .ok (.iconst 0, 1) := by decide +kernel
theorem dX2_startLoading_62 : decode cX2_startLoading 62 = .ok (.putfield 67, 3) := by decide +kernel
theorem dX2_startLoading_65 : decode cX2_startLoading 65 = .ok (.return_, 1) := by decide +kernel
set_option maxRecDepth 20000 in
theorem ggX2_endLoading_X0_copy : GoodIn wsX2_endLoading wsX0_copy := goodIn_r _ [9, 10, 11, 12, 13, 14, 15, 16, 17, 32, 33, 34, 35] (by decide +kernel) (by decide +kernel)
set_option maxRecDepth 20000 in
theorem gX2_endLoading_X0_copy : GoodIn wsX2_endLoading (wsV RX2 119 RX0 yX0_copy wsX0_copy) := goodIn_app (goodIn_of _ (by decide +kernel)) ggX2_endLoading_X0_copy
theorem dX2_endLoading_0 : decode cX2_endLoading 0 = .ok (.aload_n 0, 1) := by decide +kernel
theorem dX2_endLoading_1 : decode cX2_endLoading 1 = .ok (.iconst (-1), 1) := by decide +kernel
theorem dX2_endLoading_2 : decode cX2_endLoading 2 = .ok (.putfield 61, 3) := by decide +kernel
theorem dX2_endLoading_5 : decode cX2_endLoading 5 = .ok (.iconst 0, 1) := by decide +kernel
theorem dX2_endLoading_6 : decode cX2_endLoading 6 = .ok (.istore_n 1, 1) := by decide +kernel
theorem dX2_endLoading_7 : decode cX2_endLoading 7 = .ok (.iload_n 1, 1) := by decide +kernel
end
section
theorem dX2_endLoading_8 : decode cX2_endLoading 8 = .ok (.aload_n 0, 1) := by decide +kernel
theorem dX2_endLoading_9 : decode cX2_endLoading 9 = .ok (.getfield 13, 3) := by decide +kernel
theorem dX2_endLoading_12 : decode cX2_endLoading 12 = .ok (.aload_n 0, 1) := by decide +kernel
theorem dX2_endLoading_13 : decode cX2_endLoading 13 = .ok (.getfield 13, 3) := by decide +kernel
theorem dX2_endLoading_16 : decode cX2_endLoading 16 = .ok (.iconst 1, 1) := by decide +kernel
theorem dX2_endLoading_17 : decode cX2_endLoading 17 = .ok (.iadd, 1) := by decide +kernel
theorem dX2_endLoading_18 : decode cX2_endLoading 18 = .ok (.imul, 1) := by decide +kernel
theorem dX2_endLoading_19 : decode cX2_endLoading 19 = .ok (.if_icmp .ge 22, 3) := by decide +kernel
theorem dX2_endLoading_22 : decode cX2_endLoading 22 = .ok (.aload_n 0, 1) := by decide +kernel
theorem dX2_endLoading_23 : decode cX2_endLoading 23 = .ok (.getfield 29, 3) := by decide +kernel
theorem dX2_endLoading_26 : decode cX2_endLoading 26 = .ok (.iload_n 1, 1) := by decide +kernel
theorem dX2_endLoading_27 : decode cX2_endLoading 27 = .ok (.aload_n 0, 1) := by decide +kernel
theorem dX2_endLoading_28 : decode cX2_endLoading 28 = .ok (.getfield 25, 3) := by decide +kernel
theorem dX2_endLoading_31 : decode cX2_endLoading 31 = .ok (.iload_n 1, 1) := by decide +kernel
theorem dX2_endLoading_32 : decode cX2_endLoading 32 = .ok (.invokevirtual 119, 3) := by decide +kernel
theorem dX2_endLoading_35 : decode cX2_endLoading 35 = .ok (.iinc 1 1, 3) := by decide +kernel
theorem dX2_endLoading_38 : decode cX2_endLoading 38 = .ok (.goto (-31), 3) := by decide +kernel
theorem dX2_endLoading_41 : decode cX2_endLoading 41 = .ok (.return_, 1) := by decide +kernel
theorem dX2_isEnded_0 : decode cX2_isEnded 0 = .ok (.aload_n 0, 1) := by decide +kernel
theorem dX2_isEnded_1 : decode cX2_isEnded 1 = .ok (.getfield 51, 3) := by decide +kernel
theorem dX2_isEnded_4 : decode cX2_isEnded 4 = .ok (.iconst 1, 1) := by decide +kernel
theorem dX2_isEnded_5 : decode cX2_isEnded 5 = .ok (.if_icmp .eq 19, 3) := by decide +kernel
theorem dX2_isEnded_8 : decode cX2_isEnded 8 = .ok (.aload_n 0, 1) := by decide +kernel
theorem dX2_isEnded_9 : decode cX2_isEnded 9 = .ok (.getfield 51, 3) := by decide +kernel
theorem dX2_isEnded_12 : decode cX2_isEnded 12 = .ok (.iconst 2, 1) := by decide +kernel
theorem dX2_isEnded_13 : decode cX2_isEnded 13 = .ok (.if_icmp .eq 11, 3) := by decide +kernel
theorem dX2_isEnded_16 : decode cX2_isEnded 16 = .ok (.aload_n 0, 1) := by decide +kernel
theorem dX2_isEnded_17 : decode cX2_isEnded 17 = .ok (.getfield 51, 3) := by decide +kernel
theorem dX2_isEnded_20 : decode cX2_isEnded 20 = .ok (.iconst 3, 1) := by decide +kernel
theorem dX2_isEnded_21 : decode cX2_isEnded 21 = .ok (.if_icmp .ne 7, 3) := by decide +kernel
theorem dX2_isEnded_24 : decode cX2_isEnded 24 = .ok (.iconst 1, 1) := by decide +kernel
theorem dX2_isEnded_25 : decode cX2_isEnded 25 = .ok (.goto 4, 3) := by decide +kernel
theorem dX2_isEnded_28 : decode cX2_isEnded 28 = .ok (.iconst 0, 1) := by decide +kernel
theorem dX2_isEnded_29 : decode cX2_isEnded 29 = .ok (.ireturn, 1) := by decide +kernel
theorem dX2_isPlace_0 : decode cX2_isPlace 0 = .ok (.iload_n 1, 1) := by decide +kernel
theorem dX2_isPlace_1 : decode cX2_isPlace 1 = .ok (.ifCond .lt 27, 3) := by decide +kernel
theorem dX2_isPlace_4 : decode cX2_isPlace 4 = .ok (.iload_n 1, 1) := by decide +kernel
theorem dX2_isPlace_5 : decode cX2_isPlace 5 = .ok (.aload_n 0, 1) := by decide +kernel
theorem dX2_isPlace_6 : decode cX2_isPlace 6 = .ok (.getfield 13, 3) := by decide +kernel
theorem dX2_isPlace_9 : decode cX2_isPlace 9 = .ok (.if_icmp .ge 19, 3) := by decide +kernel
theorem dX2_isPlace_12 : decode cX2_isPlace 12 = .ok (.iload_n 2, 1) := by decide +kernel
theorem dX2_isPlace_13 : decode cX2_isPlace 13 = .ok (.ifCond .lt 15, 3) := by decide +kernel
theorem dX2_isPlace_16 : decode cX2_isPlace 16 = .ok (.iload_n 2, 1) := by decide +kernel
theorem dX2_isPlace_17 : decode cX2_isPlace 17 = .ok (.aload_n 0, 1) := by decide +kernel
theorem dX2_isPlace_18 : decode cX2_isPlace 18 = .ok (.getfield 13, 3) := by decide +kernel
theorem dX2_isPlace_21 : decode cX2_isPlace 21 = .ok (.if_icmp .gt 7, 3) := by decide +kernel
theorem dX2_isPlace_24 : decode cX2_isPlace 24 = .ok (.iconst 1, 1) := by decide +kernel
theorem dX2_isPlace_25 : decode cX2_isPlace 25 = .ok (.goto 4, 3) := by decide +kernel
theorem dX2_isPlace_28 : decode cX2_isPlace 28 = .ok (.iconst 0, 1) := by decide +kernel
theorem dX2_isPlace_29 : decode cX2_isPlace 29 = .ok (.ireturn, 1) := by decide +kernel
theorem dX2_slotAt_0 : decode cX2_slotAt 0 = .ok (.aload_n 0, 1) := by decide +kernel
theorem dX2_slotAt_1 : decode cX2_slotAt 1 = .ok (.getfield 44, 3) := by decide +kernel
theorem dX2_slotAt_4 : decode cX2_slotAt 4 = .ok (.iload_n 1, 1) := by decide +kernel
theorem dX2_slotAt_5 : decode cX2_slotAt 5 = .ok (.iaload, 1) := by decide +kernel
theorem dX2_slotAt_6 : decode cX2_slotAt 6 = .ok (.aload_n 0, 1) := by decide +kernel
theorem dX2_slotAt_7 : decode cX2_slotAt 7 = .ok (.getfield 13, 3) := by decide +kernel
theorem dX2_slotAt_10 : decode cX2_slotAt 10 = .ok (.iconst 1, 1) := by decide +kernel
theorem dX2_slotAt_11 : decode cX2_slotAt 11 = .ok (.iadd, 1) := by decide +kernel
theorem dX2_slotAt_12 : decode cX2_slotAt 12 = .ok (.imul, 1) := by decide +kernel
theorem dX2_slotAt_13 : decode cX2_slotAt 13 = .ok (.iload_n 2, 1) := by decide +kernel
theorem dX2_slotAt_14 : decode cX2_slotAt 14 = .ok (.iadd, 1) := by decide +kernel
theorem dX2_slotAt_15 : decode cX2_slotAt 15 = .ok (.ireturn, 1) := by decide +kernel
set_option maxRecDepth 20000 in
theorem ggX2_eliminateColumn_X2_findPivotRow : GoodIn wsX2_eliminateColumn wsX2_findPivotRow := goodIn_r _ [7, 2, 8, 9, 10, 11, 6, 12, 13, 14, 15, 16, 17, 18, 19, 118, 119, 120, 121, 122, 123, 124, 125, 126, 127, 128, 129, 130, 131, 132, 133, 134, 135] (by decide +kernel) (by decide +kernel)
set_option maxRecDepth 20000 in
theorem gX2_eliminateColumn_X2_findPivotRow : GoodIn wsX2_eliminateColumn (wsV RX2 123 RX2 yX2_findPivotRow wsX2_findPivotRow) := goodIn_app (goodIn_of _ (by decide +kernel)) ggX2_eliminateColumn_X2_findPivotRow
set_option maxRecDepth 20000 in
theorem ggX2_eliminateColumn_X2_swapRows : GoodIn wsX2_eliminateColumn wsX2_swapRows := goodIn_r _ [23, 13, 24, 118, 119, 120, 121, 122, 123, 124, 125, 126, 127, 128, 129, 130, 131] (by decide +kernel) (by decide +kernel)
set_option maxRecDepth 20000 in
theorem gX2_eliminateColumn_X2_swapRows : GoodIn wsX2_eliminateColumn (wsV RX2 126 RX2 yX2_swapRows wsX2_swapRows) := goodIn_app (goodIn_of _ (by decide +kernel)) ggX2_eliminateColumn_X2_swapRows
set_option maxRecDepth 20000 in
theorem ggX2_eliminateColumn_X2_makeMinor : GoodIn wsX2_eliminateColumn wsX2_makeMinor := goodIn_r _ [28, 29, 8, 30, 31, 32, 33, 34, 35, 36, 37, 38, 39, 40, 41, 42, 9, 10, 11, 6, 12, 13, 2, 43, 44, 45, 46, 47, 15, 16, 17, 18, 19, 48, 49, 50, 51, 52, 53, 54, 55, 56, 57, 58, 59, 60, 61, 62, 63, 64, 65, 66, 67, 68, 69, 70, 71, 72, 73, 74, 75, 76, 77, 78, 79, 80, 81, 82, 83, 84, 85, 86, 87, 88, 89, 90, 91, 92, 93, 94, 95, 96, 97, 98, 99, 100, 101, 102, 103, 104, 105, 106, 107, 108, 109, 110, 111, 112, 113, 114, 115, 116, 117, 118, 119, 120, 121, 122, 123, 124, 125, 126, 127, 128, 129, 130, 131, 136, 137, 138, 139, 140, 141, 132, 133, 134, 135] (by decide +kernel) (by decide +kernel)
set_option maxRecDepth 20000 in
theorem gX2_eliminateColumn_X2_makeMinor : GoodIn wsX2_eliminateColumn (wsV RX2 129 RX2 yX2_makeMinor wsX2_makeMinor) := goodIn_app (goodIn_of _ (by decide +kernel)) ggX2_eliminateColumn_X2_makeMinor
theorem dX2_eliminateColumn_0 : decode cX2_eliminateColumn 0 = .ok (.aload_n 0, 1) := by decide +kernel
theorem dX2_eliminateColumn_1 : decode cX2_eliminateColumn 1 = .ok (.iload_n 1, 1) := by decide +kernel
theorem dX2_eliminateColumn_2 : decode cX2_eliminateColumn 2 = .ok (.invokevirtual 123, 3) := by decide +kernel
theorem dX2_eliminateColumn_5 : decode cX2_eliminateColumn 5 = .ok (.istore_n 2, 1) := by decide +kernel
theorem dX2_eliminateColumn_6 : decode cX2_eliminateColumn 6 = .ok (.iload_n 2, 1) := by decide +kernel
theorem dX2_eliminateColumn_7 : decode cX2_eliminateColumn 7 = .ok (.iconst (-1), 1) := by decide +kernel
theorem dX2_eliminateColumn_8 : decode cX2_eliminateColumn 8 = .ok (.if_icmp .ne 5, 3) := by decide +kernel
theorem dX2_eliminateColumn_11 : decode cX2_eliminateColumn 11 = .ok (.iconst 2, 1) := by decide +kernel
theorem dX2_eliminateColumn_12 : decode cX2_eliminateColumn 12 = .ok (.ireturn, 1) := by decide +kernel
theorem dX2_eliminateColumn_13 : decode cX2_eliminateColumn 13 = .ok (.iload_n 2, 1) := by decide +kernel
theorem dX2_eliminateColumn_14 : decode cX2_eliminateColumn 14 = .ok (.iload_n 1, 1) := by decide +kernel
theorem dX2_eliminateColumn_15 : decode cX2_eliminateColumn 15 = .ok (.if_icmp .eq 9, 3) := by decide +kernel
theorem dX2_eliminateColumn_18 : decode cX2_eliminateColumn 18 = .ok (.aload_n 0, 1) := by decide +kernel
theorem dX2_eliminateColumn_19 : decode cX2_eliminateColumn 19 = .ok (.iload_n 1, 1) := by decide +kernel
theorem dX2_eliminateColumn_20 : decode cX2_eliminateColumn 20 = .ok (.iload_n 2, 1) := by decide +kernel
theorem dX2_eliminateColumn_21 : decode cX2_eliminateColumn 21 = .ok (.invokevirtual 126, 3) := by decide +kernel
theorem dX2_eliminateColumn_24 : decode cX2_eliminateColumn 24 = .ok (.aload_n 0, 1) := by decide +kernel
theorem dX2_eliminateColumn_25 : decode cX2_eliminateColumn 25 = .ok (.iload_n 1, 1) := by decide +kernel
theorem dX2_eliminateColumn_26 : decode cX2_eliminateColumn 26 = .ok (.iconst 1, 1) := by decide +kernel
theorem dX2_eliminateColumn_27 : decode cX2_eliminateColumn 27 = .ok (.iadd, 1) := by decide +kernel
theorem dX2_eliminateColumn_28 : decode cX2_eliminateColumn 28 = .ok (.putfield 97, 3) := by decide +kernel
theorem dX2_eliminateColumn_31 : decode cX2_eliminateColumn 31 = .ok (.iload_n 1, 1) := by decide +kernel
theorem dX2_eliminateColumn_32 : decode cX2_eliminateColumn 32 = .ok (.iconst 1, 1) := by decide +kernel
theorem dX2_eliminateColumn_33 : decode cX2_eliminateColumn 33 = .ok (.iadd, 1) := by decide +kernel
theorem dX2_eliminateColumn_34 : decode cX2_eliminateColumn 34 = .ok (.istore_n 3, 1) := by decide +kernel
theorem dX2_eliminateColumn_35 : decode cX2_eliminateColumn 35 = .ok (.iload_n 3, 1) := by decide +kernel
theorem dX2_eliminateColumn_36 : decode cX2_eliminateColumn 36 = .ok (.aload_n 0, 1) := by decide +kernel
theorem dX2_eliminateColumn_37 : decode cX2_eliminateColumn 37 = .ok (.getfield 13, 3) := by decide +kernel
theorem dX2_eliminateColumn_40 : decode cX2_eliminateColumn 40 = .ok (.if_icmp .ge 42, 3) := by decide +kernel
theorem dX2_eliminateColumn_43 : decode cX2_eliminateColumn 43 = .ok (.iload_n 1, 1) := by decide +kernel
theorem dX2_eliminateColumn_44 : decode cX2_eliminateColumn 44 = .ok (.iconst 1, 1) := by decide +kernel
theorem dX2_eliminateColumn_45 : decode cX2_eliminateColumn 45 = .ok (.iadd, 1) := by decide +kernel
theorem dX2_eliminateColumn_46 : decode cX2_eliminateColumn 46 = .ok (.istore 4, 2) := by decide +kernel
theorem dX2_eliminateColumn_48 : decode cX2_eliminateColumn 48 = .ok (.iload 4, 2) := by decide +kernel
theorem dX2_eliminateColumn_50 : decode cX2_eliminateColumn 50 = .ok (.aload_n 0, 1) := by decide +kernel
theorem dX2_eliminateColumn_51 : decode cX2_eliminateColumn 51 = .ok (.getfield 13, 3) := by decide +kernel
theorem dX2_eliminateColumn_54 : decode cX2_eliminateColumn 54 = .ok (.if_icmp .gt 22, 3) := by decide +kernel
theorem dX2_eliminateColumn_57 : decode cX2_eliminateColumn 57 = .ok (.aload_n 0, 1) := by decide +kernel
theorem dX2_eliminateColumn_58 : decode cX2_eliminateColumn 58 = .ok (.iload_n 1, 1) := by decide +kernel
theorem dX2_eliminateColumn_59 : decode cX2_eliminateColumn 59 = .ok (.iload_n 3, 1) := by decide +kernel
theorem dX2_eliminateColumn_60 : decode cX2_eliminateColumn 60 = .ok (.iload 4, 2) := by decide +kernel
theorem dX2_eliminateColumn_62 : decode cX2_eliminateColumn 62 = .ok (.invokevirtual 129, 3) := by decide +kernel
theorem dX2_eliminateColumn_65 : decode cX2_eliminateColumn 65 = .ok (.ifCond .ne 5, 3) := by decide +kernel
theorem dX2_eliminateColumn_68 : decode cX2_eliminateColumn 68 = .ok (.iconst 3, 1) := by decide +kernel
theorem dX2_eliminateColumn_69 : decode cX2_eliminateColumn 69 = .ok (.ireturn, 1) := by decide +kernel
theorem dX2_eliminateColumn_70 : decode cX2_eliminateColumn 70 = .ok (.iinc 4 1, 3) := by decide +kernel
theorem dX2_eliminateColumn_73 : decode cX2_eliminateColumn 73 = .ok (.goto (-25), 3) := by decide +kernel
theorem dX2_eliminateColumn_76 : decode cX2_eliminateColumn 76 = .ok (.iinc 3 1, 3) := by decide +kernel
theorem dX2_eliminateColumn_79 : decode cX2_eliminateColumn 79 = .ok (.goto (-44), 3) := by decide +kernel
theorem dX2_eliminateColumn_82 : decode cX2_eliminateColumn 82 = .ok (.iconst 0, 1) := by decide +kernel
theorem dX2_eliminateColumn_83 : decode cX2_eliminateColumn 83 = .ok (.ireturn, 1) := by decide +kernel
set_option maxRecDepth 20000 in
theorem ggX2_findPivotRow_X2_slotAt : GoodIn wsX2_findPivotRow wsX2_slotAt := goodIn_r _ [7, 8, 1, 15, 16, 17, 18, 19, 20, 21, 22, 23, 24, 25, 26, 27, 28] (by decide +kernel) (by decide +kernel)
set_option maxRecDepth 20000 in
theorem gX2_findPivotRow_X2_slotAt : GoodIn wsX2_findPivotRow (wsV RX2 58 RX2 yX2_slotAt wsX2_slotAt) := goodIn_app (goodIn_of _ (by decide +kernel)) ggX2_findPivotRow_X2_slotAt
set_option maxRecDepth 20000 in
theorem ggX2_findPivotRow_X0_signOf : GoodIn wsX2_findPivotRow wsX0_signOf := goodIn_r _ [13, 14, 29, 30, 31, 32] (by decide +kernel) (by decide +kernel)
set_option maxRecDepth 20000 in
theorem gX2_findPivotRow_X0_signOf : GoodIn wsX2_findPivotRow (wsV RX2 133 RX0 yX0_signOf wsX0_signOf) := goodIn_app (goodIn_of _ (by decide +kernel)) ggX2_findPivotRow_X0_signOf
theorem dX2_findPivotRow_0 : decode cX2_findPivotRow 0 = .ok (.iload_n 1, 1) := by decide +kernel
theorem dX2_findPivotRow_1 : decode cX2_findPivotRow 1 = .ok (.istore_n 2, 1) := by decide +kernel
theorem dX2_findPivotRow_2 : decode cX2_findPivotRow 2 = .ok (.iload_n 2, 1) := by decide +kernel
theorem dX2_findPivotRow_3 : decode cX2_findPivotRow 3 = .ok (.aload_n 0, 1) := by decide +kernel
theorem dX2_findPivotRow_4 : decode cX2_findPivotRow 4 = .ok (.getfield 13, 3) := by decide +kernel
theorem dX2_findPivotRow_7 : decode cX2_findPivotRow 7 = .ok (.if_icmp .ge 27, 3) := by decide +kernel
theorem dX2_findPivotRow_10 : decode cX2_findPivotRow 10 = .ok (.aload_n 0, 1) := by decide +kernel
theorem dX2_findPivotRow_11 : decode cX2_findPivotRow 11 = .ok (.getfield 25, 3) := by decide +kernel
theorem dX2_findPivotRow_14 : decode cX2_findPivotRow 14 = .ok (.aload_n 0, 1) := by decide +kernel
theorem dX2_findPivotRow_15 : decode cX2_findPivotRow 15 = .ok (.iload_n 2, 1) := by decide +kernel
theorem dX2_findPivotRow_16 : decode cX2_findPivotRow 16 = .ok (.iload_n 1, 1) := by decide +kernel
theorem dX2_findPivotRow_17 : decode cX2_findPivotRow 17 = .ok (.invokevirtual 58, 3) := by decide +kernel
theorem dX2_findPivotRow_20 : decode cX2_findPivotRow 20 = .ok (.invokevirtual 133, 3) := by decide +kernel
theorem dX2_findPivotRow_23 : decode cX2_findPivotRow 23 = .ok (.ifCond .eq 5, 3) := by decide +kernel
theorem dX2_findPivotRow_26 : decode cX2_findPivotRow 26 = .ok (.iload_n 2, 1) := by decide +kernel
theorem dX2_findPivotRow_27 : decode cX2_findPivotRow 27 = .ok (.ireturn, 1) := by decide +kernel
theorem dX2_findPivotRow_28 : decode cX2_findPivotRow 28 = .ok (.iinc 2 1, 3) := by decide +kernel
theorem dX2_findPivotRow_31 : decode cX2_findPivotRow 31 = .ok (.goto (-29), 3) := by decide +kernel
theorem dX2_findPivotRow_34 : decode cX2_findPivotRow 34 = .ok (.iconst (-1), 1) := by decide +kernel
theorem dX2_findPivotRow_35 : decode cX2_findPivotRow 35 = .ok (.ireturn, 1) := by decide +kernel
theorem dX2_swapRows_0 : decode cX2_swapRows 0 = .ok (.aload_n 0, 1) := by decide +kernel
theorem dX2_swapRows_1 : decode cX2_swapRows 1 = .ok (.getfield 44, 3) := by decide +kernel
theorem dX2_swapRows_4 : decode cX2_swapRows 4 = .ok (.iload_n 1, 1) := by decide +kernel
theorem dX2_swapRows_5 : decode cX2_swapRows 5 = .ok (.iaload, 1) := by decide +kernel
theorem dX2_swapRows_6 : decode cX2_swapRows 6 = .ok (.istore_n 3, 1) := by decide +kernel
theorem dX2_swapRows_7 : decode cX2_swapRows 7 = .ok (.aload_n 0, 1) := by decide +kernel
theorem dX2_swapRows_8 : decode cX2_swapRows 8 = .ok (.getfield 44, 3) := by decide +kernel
theorem dX2_swapRows_11 : decode cX2_swapRows 11 = .ok (.iload_n 1, 1) := by decide +kernel
theorem dX2_swapRows_12 : decode cX2_swapRows 12 = .ok (.aload_n 0, 1) := by decide +kernel
theorem dX2_swapRows_13 : decode cX2_swapRows 13 = .ok (.getfield 44, 3) := by decide +kernel
theorem dX2_swapRows_16 : decode cX2_swapRows 16 = .ok (.iload_n 2, 1) := by decide +kernel
theorem dX2_swapRows_17 : decode cX2_swapRows 17 = .ok (.iaload, 1) := by decide +kernel
theorem dX2_swapRows_18 : decode cX2_swapRows 18 = .ok (.iastore, 1) := by decide +kernel
theorem dX2_swapRows_19 : decode cX2_swapRows 19 = .ok (.aload_n 0, 1) := by decide +kernel
theorem dX2_swapRows_20 : decode cX2_swapRows 20 = .ok (.getfield 44, 3) := by decide +kernel
theorem dX2_swapRows_23 : decode cX2_swapRows 23 = .ok (.iload_n 2, 1) := by decide +kernel
theorem dX2_swapRows_24 : decode cX2_swapRows 24 = .ok (.iload_n 3, 1) := by decide +kernel
theorem dX2_swapRows_25 : decode cX2_swapRows 25 = .ok (.iastore, 1) := by decide +kernel
theorem dX2_swapRows_26 : decode cX2_swapRows 26 = .ok (.aload_n 0, 1) := by decide +kernel
theorem dX2_swapRows_27 : decode cX2_swapRows 27 = .ok (.aload_n 0, 1) := by decide +kernel
theorem dX2_swapRows_28 : decode cX2_swapRows 28 = .ok (.getfield 115, 3) := by decide +kernel
theorem dX2_swapRows_31 : decode cX2_swapRows 31 = .ok (.ifCond .ne 7, 3) := by decide +kernel
theorem dX2_swapRows_34 : decode cX2_swapRows 34 = .ok (.iconst 1, 1) := by decide +kernel
theorem dX2_swapRows_35 : decode cX2_swapRows 35 = .ok (.goto 4, 3) := by decide +kernel
theorem dX2_swapRows_38 : decode cX2_swapRows 38 = .ok (.iconst 0, 1) := by decide +kernel
theorem dX2_swapRows_39 : decode cX2_swapRows 39 = .ok (.putfield 115, 3) := by decide +kernel
theorem dX2_swapRows_42 : decode cX2_swapRows 42 = .ok (.return_, 1) := by decide +kernel
set_option maxRecDepth 20000 in
theorem ggX2_makeMinor_X1_clear : GoodIn wsX2_makeMinor wsX1_clear := goodIn_r _ [7, 8, 9, 10, 11, 12, 13, 14, 15, 117, 118, 119, 120, 121, 122] (by decide +kernel) (by decide +kernel)
set_option maxRecDepth 20000 in
theorem gX2_makeMinor_X1_clear : GoodIn wsX2_makeMinor (wsV RX2 136 RX1 yX1_clear wsX1_clear) := goodIn_app (goodIn_of _ (by decide +kernel)) ggX2_makeMinor_X1_clear
set_option maxRecDepth 20000 in
theorem ggX2_makeMinor_X2_slotAt : GoodIn wsX2_makeMinor wsX2_slotAt := goodIn_r _ [20, 21, 22, 103, 104, 105, 106, 107, 108, 109, 110, 111, 112, 113, 114, 115, 116] (by decide +kernel) (by decide +kernel)
set_option maxRecDepth 20000 in
theorem gX2_makeMinor_X2_slotAt : GoodIn wsX2_makeMinor (wsV RX2 58 RX2 yX2_slotAt wsX2_slotAt) := goodIn_app (goodIn_of _ (by decide +kernel)) ggX2_makeMinor_X2_slotAt
set_option maxRecDepth 20000 in
theorem ggX2_makeMinor_X1_addProduct : GoodIn wsX2_makeMinor wsX1_addProduct := goodIn_r _ [26, 8, 9, 27, 28, 29, 30, 31, 32, 33, 34, 35, 36, 37, 38, 39, 40, 41, 42, 43, 44, 45, 6, 46, 47, 117, 118, 119, 120, 121, 122, 123, 124, 125, 126] (by decide +kernel) (by decide +kernel)
set_option maxRecDepth 20000 in
theorem gX2_makeMinor_X1_addProduct : GoodIn wsX2_makeMinor (wsV RX2 138 RX1 yX1_addProduct wsX1_addProduct) := goodIn_app (goodIn_of _ (by decide +kernel)) ggX2_makeMinor_X1_addProduct
set_option maxRecDepth 20000 in
theorem ggX2_makeMinor_X1_settle : GoodIn wsX2_makeMinor wsX1_settle := goodIn_r _ [51, 10, 8, 9, 47, 11, 52, 53, 54, 6, 55, 56, 57, 58, 117, 118, 119, 120, 121, 122] (by decide +kernel) (by decide +kernel)
set_option maxRecDepth 20000 in
theorem gX2_makeMinor_X1_settle : GoodIn wsX2_makeMinor (wsV RX2 142 RX1 yX1_settle wsX1_settle) := goodIn_app (goodIn_of _ (by decide +kernel)) ggX2_makeMinor_X1_settle
set_option maxRecDepth 20000 in
theorem ggX2_makeMinor_X1_divideBy : GoodIn wsX2_makeMinor wsX1_divideBy := goodIn_r _ [62, 11, 63, 8, 10, 33, 34, 35, 30, 36, 37, 38, 39, 40, 41, 42, 43, 64, 65, 66, 6, 67, 68, 69, 70, 71, 72, 73, 47, 56, 57, 58, 74, 75, 76, 77, 78, 79, 80, 81, 82, 83, 84, 85, 86, 87, 88, 89, 27, 28, 29, 31, 32, 117, 118, 119, 120, 121, 122, 123, 124, 125, 126] (by decide +kernel) (by decide +kernel)
set_option maxRecDepth 20000 in
theorem gX2_makeMinor_X1_divideBy : GoodIn wsX2_makeMinor (wsV RX2 145 RX1 yX1_divideBy wsX1_divideBy) := goodIn_app (goodIn_of _ (by decide +kernel)) ggX2_makeMinor_X1_divideBy
set_option maxRecDepth 20000 in
theorem ggX2_makeMinor_X1_storeIn : GoodIn wsX2_makeMinor wsX1_storeIn := goodIn_r _ [93, 11, 94, 8, 10, 95, 96, 97, 30, 98, 42, 43, 99, 100, 101, 102, 37, 32, 117, 118, 119, 120, 121, 122, 123, 124, 125, 126] (by decide +kernel) (by decide +kernel)
set_option maxRecDepth 20000 in
theorem gX2_makeMinor_X1_storeIn : GoodIn wsX2_makeMinor (wsV RX2 149 RX1 yX1_storeIn wsX1_storeIn) := goodIn_app (goodIn_of _ (by decide +kernel)) ggX2_makeMinor_X1_storeIn
theorem dX2_makeMinor_0 : decode cX2_makeMinor 0 = .ok (.aload_n 0, 1) := by decide +kernel
theorem dX2_makeMinor_1 : decode cX2_makeMinor 1 = .ok (.getfield 40, 3) := by decide +kernel
theorem dX2_makeMinor_4 : decode cX2_makeMinor 4 = .ok (.invokevirtual 136, 3) := by decide +kernel
theorem dX2_makeMinor_7 : decode cX2_makeMinor 7 = .ok (.aload_n 0, 1) := by decide +kernel
theorem dX2_makeMinor_8 : decode cX2_makeMinor 8 = .ok (.getfield 40, 3) := by decide +kernel
theorem dX2_makeMinor_11 : decode cX2_makeMinor 11 = .ok (.aload_n 0, 1) := by decide +kernel
theorem dX2_makeMinor_12 : decode cX2_makeMinor 12 = .ok (.getfield 25, 3) := by decide +kernel
theorem dX2_makeMinor_15 : decode cX2_makeMinor 15 = .ok (.aload_n 0, 1) := by decide +kernel
theorem dX2_makeMinor_16 : decode cX2_makeMinor 16 = .ok (.iload_n 1, 1) := by decide +kernel
theorem dX2_makeMinor_17 : decode cX2_makeMinor 17 = .ok (.iload_n 1, 1) := by decide +kernel
theorem dX2_makeMinor_18 : decode cX2_makeMinor 18 = .ok (.invokevirtual 58, 3) := by decide +kernel
theorem dX2_makeMinor_21 : decode cX2_makeMinor 21 = .ok (.aload_n 0, 1) := by decide +kernel
theorem dX2_makeMinor_22 : decode cX2_makeMinor 22 = .ok (.getfield 25, 3) := by decide +kernel
theorem dX2_makeMinor_25 : decode cX2_makeMinor 25 = .ok (.aload_n 0, 1) := by decide +kernel
theorem dX2_makeMinor_26 : decode cX2_makeMinor 26 = .ok (.iload_n 2, 1) := by decide +kernel
theorem dX2_makeMinor_27 : decode cX2_makeMinor 27 = .ok (.iload_n 3, 1) := by decide +kernel
theorem dX2_makeMinor_28 : decode cX2_makeMinor 28 = .ok (.invokevirtual 58, 3) := by decide +kernel
theorem dX2_makeMinor_31 : decode cX2_makeMinor 31 = .ok (.iconst 1, 1) := by decide +kernel
theorem dX2_makeMinor_32 : decode cX2_makeMinor 32 = .ok (.invokevirtual 138, 3) := by decide +kernel
theorem dX2_makeMinor_35 : decode cX2_makeMinor 35 = .ok (.aload_n 0, 1) := by decide +kernel
theorem dX2_makeMinor_36 : decode cX2_makeMinor 36 = .ok (.getfield 40, 3) := by decide +kernel
theorem dX2_makeMinor_39 : decode cX2_makeMinor 39 = .ok (.aload_n 0, 1) := by decide +kernel
theorem dX2_makeMinor_40 : decode cX2_makeMinor 40 = .ok (.getfield 25, 3) := by decide +kernel
theorem dX2_makeMinor_43 : decode cX2_makeMinor 43 = .ok (.aload_n 0, 1) := by decide +kernel
theorem dX2_makeMinor_44 : decode cX2_makeMinor 44 = .ok (.iload_n 2, 1) := by decide +kernel
theorem dX2_makeMinor_45 : decode cX2_makeMinor 45 = .ok (.iload_n 1, 1) := by decide +kernel
theorem dX2_makeMinor_46 : decode cX2_makeMinor 46 = .ok (.invokevirtual 58, 3) := by decide +kernel
theorem dX2_makeMinor_49 : decode cX2_makeMinor 49 = .ok (.aload_n 0, 1) := by decide +kernel
theorem dX2_makeMinor_50 : decode cX2_makeMinor 50 = .ok (.getfield 25, 3) := by decide +kernel
theorem dX2_makeMinor_53 : decode cX2_makeMinor 53 = .ok (.aload_n 0, 1) := by decide +kernel
theorem dX2_makeMinor_54 : decode cX2_makeMinor 54 = .ok (.iload_n 1, 1) := by decide +kernel
theorem dX2_makeMinor_55 : decode cX2_makeMinor 55 = .ok (.iload_n 3, 1) := by decide +kernel
theorem dX2_makeMinor_56 : decode cX2_makeMinor 56 = .ok (.invokevirtual 58, 3) := by decide +kernel
theorem dX2_makeMinor_59 : decode cX2_makeMinor 59 = .ok (.iconst (-1), 1) := by decide +kernel
theorem dX2_makeMinor_60 : decode cX2_makeMinor 60 = .ok (.invokevirtual 138, 3) := by decide +kernel
theorem dX2_makeMinor_63 : decode cX2_makeMinor 63 = .ok (.aload_n 0, 1) := by decide +kernel
theorem dX2_makeMinor_64 : decode cX2_makeMinor 64 = .ok (.getfield 40, 3) := by decide +kernel
theorem dX2_makeMinor_67 : decode cX2_makeMinor 67 = .ok (.invokevirtual 142, 3) := by decide +kernel
theorem dX2_makeMinor_70 : decode cX2_makeMinor 70 = .ok (.iload_n 1, 1) := by decide +kernel
theorem dX2_makeMinor_71 : decode cX2_makeMinor 71 = .ok (.ifCond .le 24, 3) := by decide +kernel
theorem dX2_makeMinor_74 : decode cX2_makeMinor 74 = .ok (.aload_n 0, 1) := by decide +kernel
theorem dX2_makeMinor_75 : decode cX2_makeMinor 75 = .ok (.getfield 40, 3) := by decide +kernel
theorem dX2_makeMinor_78 : decode cX2_makeMinor 78 = .ok (.aload_n 0, 1) := by decide +kernel
theorem dX2_makeMinor_79 : decode cX2_makeMinor 79 = .ok (.getfield 25, 3) := by decide +kernel
theorem dX2_makeMinor_82 : decode cX2_makeMinor 82 = .ok (.aload_n 0, 1) := by decide +kernel
theorem dX2_makeMinor_83 : decode cX2_makeMinor 83 = .ok (.iload_n 1, 1) := by decide +kernel
theorem dX2_makeMinor_84 : decode cX2_makeMinor 84 = .ok (.iconst 1, 1) := by decide +kernel
theorem dX2_makeMinor_85 : decode cX2_makeMinor 85 = .ok (.isub, 1) := by decide +kernel
theorem dX2_makeMinor_86 : decode cX2_makeMinor 86 = .ok (.iload_n 1, 1) := by decide +kernel
theorem dX2_makeMinor_87 : decode cX2_makeMinor 87 = .ok (.iconst 1, 1) := by decide +kernel
theorem dX2_makeMinor_88 : decode cX2_makeMinor 88 = .ok (.isub, 1) := by decide +kernel
theorem dX2_makeMinor_89 : decode cX2_makeMinor 89 = .ok (.invokevirtual 58, 3) := by decide +kernel
theorem dX2_makeMinor_92 : decode cX2_makeMinor 92 = .ok (.invokevirtual 145, 3) := by decide +kernel
theorem dX2_makeMinor_95 : decode cX2_makeMinor 95 = .ok (.aload_n 0, 1) := by decide +kernel
theorem dX2_makeMinor_96 : decode cX2_makeMinor 96 = .ok (.getfield 40, 3) := by decide +kernel
theorem dX2_makeMinor_99 : decode cX2_makeMinor 99 = .ok (.aload_n 0, 1) := by decide +kernel
theorem dX2_makeMinor_100 : decode cX2_makeMinor 100 = .ok (.getfield 25, 3) := by decide +kernel
theorem dX2_makeMinor_103 : decode cX2_makeMinor 103 = .ok (.aload_n 0, 1) := by decide +kernel
theorem dX2_makeMinor_104 : decode cX2_makeMinor 104 = .ok (.iload_n 2, 1) := by decide +kernel
theorem dX2_makeMinor_105 : decode cX2_makeMinor 105 = .ok (.iload_n 3, 1) := by decide +kernel
theorem dX2_makeMinor_106 : decode cX2_makeMinor 106 = .ok (.invokevirtual 58, 3) := by decide +kernel
theorem dX2_makeMinor_109 : decode cX2_makeMinor 109 = .ok (.invokevirtual 149, 3) := by decide +kernel
theorem dX2_makeMinor_112 : decode cX2_makeMinor 112 = .ok (.ireturn, 1) := by decide +kernel
set_option maxRecDepth 20000 in
theorem ggX2_solveRow_X1_clear : GoodIn wsX2_solveRow wsX1_clear := goodIn_r _ [9, 10, 11, 12, 13, 14, 15, 16, 17, 131, 132, 133, 134, 135, 136] (by decide +kernel) (by decide +kernel)
set_option maxRecDepth 20000 in
theorem gX2_solveRow_X1_clear : GoodIn wsX2_solveRow (wsV RX2 136 RX1 yX1_clear wsX1_clear) := goodIn_app (goodIn_of _ (by decide +kernel)) ggX2_solveRow_X1_clear
set_option maxRecDepth 20000 in
theorem ggX2_solveRow_X2_slotAt : GoodIn wsX2_solveRow wsX2_slotAt := goodIn_r _ [22, 23, 3, 117, 118, 119, 120, 121, 122, 123, 124, 125, 126, 127, 128, 129, 130] (by decide +kernel) (by decide +kernel)
set_option maxRecDepth 20000 in
theorem gX2_solveRow_X2_slotAt : GoodIn wsX2_solveRow (wsV RX2 58 RX2 yX2_slotAt wsX2_slotAt) := goodIn_app (goodIn_of _ (by decide +kernel)) ggX2_solveRow_X2_slotAt
set_option maxRecDepth 20000 in
theorem ggX2_solveRow_X1_addProduct : GoodIn wsX2_solveRow wsX1_addProduct := goodIn_r _ [27, 10, 11, 28, 29, 30, 31, 32, 33, 34, 35, 36, 37, 38, 39, 40, 41, 42, 43, 44, 45, 46, 8, 47, 48, 131, 132, 133, 134, 135, 136, 137, 138, 139, 140] (by decide +kernel) (by decide +kernel)
set_option maxRecDepth 20000 in
theorem gX2_solveRow_X1_addProduct : GoodIn wsX2_solveRow (wsV RX2 138 RX1 yX1_addProduct wsX1_addProduct) := goodIn_app (goodIn_of _ (by decide +kernel)) ggX2_solveRow_X1_addProduct
set_option maxRecDepth 20000 in
theorem ggX2_solveRow_X1_settle : GoodIn wsX2_solveRow wsX1_settle := goodIn_r _ [52, 12, 10, 11, 48, 13, 53, 54, 55, 8, 56, 57, 58, 59, 131, 132, 133, 134, 135, 136] (by decide +kernel) (by decide +kernel)
set_option maxRecDepth 20000 in
theorem gX2_solveRow_X1_settle : GoodIn wsX2_solveRow (wsV RX2 142 RX1 yX1_settle wsX1_settle) := goodIn_app (goodIn_of _ (by decide +kernel)) ggX2_solveRow_X1_settle
set_option maxRecDepth 20000 in
theorem ggX2_solveRow_X1_divideBy : GoodIn wsX2_solveRow wsX1_divideBy := goodIn_r _ [63, 13, 64, 10, 12, 34, 35, 36, 31, 37, 38, 39, 40, 41, 42, 43, 44, 65, 66, 67, 8, 68, 69, 70, 71, 72, 73, 74, 48, 57, 58, 59, 75, 76, 77, 78, 79, 80, 81, 82, 83, 84, 85, 86, 87, 88, 89, 90, 28, 29, 30, 32, 33, 131, 132, 133, 134, 135, 136, 137, 138, 139, 140] (by decide +kernel) (by decide +kernel)
set_option maxRecDepth 20000 in
theorem gX2_solveRow_X1_divideBy : GoodIn wsX2_solveRow (wsV RX2 145 RX1 yX1_divideBy wsX1_divideBy) := goodIn_app (goodIn_of _ (by decide +kernel)) ggX2_solveRow_X1_divideBy
set_option maxRecDepth 20000 in
theorem ggX2_solveRow_X1_storeIn : GoodIn wsX2_solveRow wsX1_storeIn := goodIn_r _ [94, 13, 95, 10, 12, 96, 97, 98, 31, 99, 43, 44, 100, 101, 102, 103, 38, 33, 131, 132, 133, 134, 135, 136, 137, 138, 139, 140] (by decide +kernel) (by decide +kernel)
set_option maxRecDepth 20000 in
theorem gX2_solveRow_X1_storeIn : GoodIn wsX2_solveRow (wsV RX2 149 RX1 yX1_storeIn wsX1_storeIn) := goodIn_app (goodIn_of _ (by decide +kernel)) ggX2_solveRow_X1_storeIn
set_option maxRecDepth 20000 in
theorem ggX2_solveRow_X2_finishOutcome : GoodIn wsX2_solveRow wsX2_finishOutcome := goodIn_r _ [107, 4, 3, 2, 108, 18, 19, 20, 21, 22, 23, 109, 110, 111, 31, 112, 43, 44, 38, 100, 101, 102, 103, 33, 113, 114, 115, 116, 117, 118, 119, 120, 121, 122, 123, 124, 125, 126, 127, 128, 129, 130, 137, 138, 139, 140] (by decide +kernel) (by decide +kernel)
set_option maxRecDepth 20000 in
theorem gX2_solveRow_X2_finishOutcome : GoodIn wsX2_solveRow (wsV RX2 153 RX2 yX2_finishOutcome wsX2_finishOutcome) := goodIn_app (goodIn_of _ (by decide +kernel)) ggX2_solveRow_X2_finishOutcome
theorem dX2_solveRow_0 : decode cX2_solveRow 0 = .ok (.aload_n 0, 1) := by decide +kernel
theorem dX2_solveRow_1 : decode cX2_solveRow 1 = .ok (.getfield 40, 3) := by decide +kernel
theorem dX2_solveRow_4 : decode cX2_solveRow 4 = .ok (.invokevirtual 136, 3) := by decide +kernel
theorem dX2_solveRow_7 : decode cX2_solveRow 7 = .ok (.aload_n 0, 1) := by decide +kernel
theorem dX2_solveRow_8 : decode cX2_solveRow 8 = .ok (.getfield 40, 3) := by decide +kernel
theorem dX2_solveRow_11 : decode cX2_solveRow 11 = .ok (.aload_n 0, 1) := by decide +kernel
theorem dX2_solveRow_12 : decode cX2_solveRow 12 = .ok (.getfield 25, 3) := by decide +kernel
theorem dX2_solveRow_15 : decode cX2_solveRow 15 = .ok (.aload_n 0, 1) := by decide +kernel
theorem dX2_solveRow_16 : decode cX2_solveRow 16 = .ok (.aload_n 0, 1) := by decide +kernel
theorem dX2_solveRow_17 : decode cX2_solveRow 17 = .ok (.getfield 13, 3) := by decide +kernel
theorem dX2_solveRow_20 : decode cX2_solveRow 20 = .ok (.iconst 1, 1) := by decide +kernel
theorem dX2_solveRow_21 : decode cX2_solveRow 21 = .ok (.isub, 1) := by decide +kernel
theorem dX2_solveRow_22 : decode cX2_solveRow 22 = .ok (.aload_n 0, 1) := by decide +kernel
theorem dX2_solveRow_23 : decode cX2_solveRow 23 = .ok (.getfield 13, 3) := by decide +kernel
theorem dX2_solveRow_26 : decode cX2_solveRow 26 = .ok (.iconst 1, 1) := by decide +kernel
theorem dX2_solveRow_27 : decode cX2_solveRow 27 = .ok (.isub, 1) := by decide +kernel
theorem dX2_solveRow_28 : decode cX2_solveRow 28 = .ok (.invokevirtual 58, 3) := by decide +kernel
theorem dX2_solveRow_31 : decode cX2_solveRow 31 = .ok (.aload_n 0, 1) := by decide +kernel
theorem dX2_solveRow_32 : decode cX2_solveRow 32 = .ok (.getfield 25, 3) := by decide +kernel
theorem dX2_solveRow_35 : decode cX2_solveRow 35 = .ok (.aload_n 0, 1) := by decide +kernel
theorem dX2_solveRow_36 : decode cX2_solveRow 36 = .ok (.iload_n 1, 1) := by decide +kernel
theorem dX2_solveRow_37 : decode cX2_solveRow 37 = .ok (.aload_n 0, 1) := by decide +kernel
theorem dX2_solveRow_38 : decode cX2_solveRow 38 = .ok (.getfield 13, 3) := by decide +kernel
theorem dX2_solveRow_41 : decode cX2_solveRow 41 = .ok (.invokevirtual 58, 3) := by decide +kernel
theorem dX2_solveRow_44 : decode cX2_solveRow 44 = .ok (.iconst 1, 1) := by decide +kernel
theorem dX2_solveRow_45 : decode cX2_solveRow 45 = .ok (.invokevirtual 138, 3) := by decide +kernel
theorem dX2_solveRow_48 : decode cX2_solveRow 48 = .ok (.iload_n 1, 1) := by decide +kernel
theorem dX2_solveRow_49 : decode cX2_solveRow 49 = .ok (.iconst 1, 1) := by decide +kernel
theorem dX2_solveRow_50 : decode cX2_solveRow 50 = .ok (.iadd, 1) := by decide +kernel
theorem dX2_solveRow_51 : decode cX2_solveRow 51 = .ok (.istore_n 2, 1) := by decide +kernel
theorem dX2_solveRow_52 : decode cX2_solveRow 52 = .ok (.iload_n 2, 1) := by decide +kernel
theorem dX2_solveRow_53 : decode cX2_solveRow 53 = .ok (.aload_n 0, 1) := by decide +kernel
theorem dX2_solveRow_54 : decode cX2_solveRow 54 = .ok (.getfield 13, 3) := by decide +kernel
theorem dX2_solveRow_57 : decode cX2_solveRow 57 = .ok (.if_icmp .ge 32, 3) := by decide +kernel
theorem dX2_solveRow_60 : decode cX2_solveRow 60 = .ok (.aload_n 0, 1) := by decide +kernel
theorem dX2_solveRow_61 : decode cX2_solveRow 61 = .ok (.getfield 40, 3) := by decide +kernel
theorem dX2_solveRow_64 : decode cX2_solveRow 64 = .ok (.aload_n 0, 1) := by decide +kernel
theorem dX2_solveRow_65 : decode cX2_solveRow 65 = .ok (.getfield 25, 3) := by decide +kernel
theorem dX2_solveRow_68 : decode cX2_solveRow 68 = .ok (.aload_n 0, 1) := by decide +kernel
theorem dX2_solveRow_69 : decode cX2_solveRow 69 = .ok (.iload_n 1, 1) := by decide +kernel
theorem dX2_solveRow_70 : decode cX2_solveRow 70 = .ok (.iload_n 2, 1) := by decide +kernel
theorem dX2_solveRow_71 : decode cX2_solveRow 71 = .ok (.invokevirtual 58, 3) := by decide +kernel
theorem dX2_solveRow_74 : decode cX2_solveRow 74 = .ok (.aload_n 0, 1) := by decide +kernel
theorem dX2_solveRow_75 : decode cX2_solveRow 75 = .ok (.getfield 32, 3) := by decide +kernel
theorem dX2_solveRow_78 : decode cX2_solveRow 78 = .ok (.iload_n 2, 1) := by decide +kernel
theorem dX2_solveRow_79 : decode cX2_solveRow 79 = .ok (.iconst (-1), 1) := by decide +kernel
theorem dX2_solveRow_80 : decode cX2_solveRow 80 = .ok (.invokevirtual 138, 3) := by decide +kernel
theorem dX2_solveRow_83 : decode cX2_solveRow 83 = .ok (.iinc 2 1, 3) := by decide +kernel
theorem dX2_solveRow_86 : decode cX2_solveRow 86 = .ok (.goto (-34), 3) := by decide +kernel
theorem dX2_solveRow_89 : decode cX2_solveRow 89 = .ok (.aload_n 0, 1) := by decide +kernel
theorem dX2_solveRow_90 : decode cX2_solveRow 90 = .ok (.getfield 40, 3) := by decide +kernel
theorem dX2_solveRow_93 : decode cX2_solveRow 93 = .ok (.invokevirtual 142, 3) := by decide +kernel
theorem dX2_solveRow_96 : decode cX2_solveRow 96 = .ok (.aload_n 0, 1) := by decide +kernel
theorem dX2_solveRow_97 : decode cX2_solveRow 97 = .ok (.getfield 40, 3) := by decide +kernel
theorem dX2_solveRow_100 : decode cX2_solveRow 100 = .ok (.aload_n 0, 1) := by decide +kernel
theorem dX2_solveRow_101 : decode cX2_solveRow 101 = .ok (.getfield 25, 3) := by decide +kernel
theorem dX2_solveRow_104 : decode cX2_solveRow 104 = .ok (.aload_n 0, 1) := by decide +kernel
theorem dX2_solveRow_105 : decode cX2_solveRow 105 = .ok (.iload_n 1, 1) := by decide +kernel
theorem dX2_solveRow_106 : decode cX2_solveRow 106 = .ok (.iload_n 1, 1) := by decide +kernel
theorem dX2_solveRow_107 : decode cX2_solveRow 107 = .ok (.invokevirtual 58, 3) := by decide +kernel
theorem dX2_solveRow_110 : decode cX2_solveRow 110 = .ok (.invokevirtual 145, 3) := by decide +kernel
theorem dX2_solveRow_113 : decode cX2_solveRow 113 = .ok (.aload_n 0, 1) := by decide +kernel
theorem dX2_solveRow_114 : decode cX2_solveRow 114 = .ok (.getfield 40, 3) := by decide +kernel
theorem dX2_solveRow_117 : decode cX2_solveRow 117 = .ok (.aload_n 0, 1) := by decide +kernel
theorem dX2_solveRow_118 : decode cX2_solveRow 118 = .ok (.getfield 32, 3) := by decide +kernel
theorem dX2_solveRow_121 : decode cX2_solveRow 121 = .ok (.iload_n 1, 1) := by decide +kernel
theorem dX2_solveRow_122 : decode cX2_solveRow 122 = .ok (.invokevirtual 149, 3) := by decide +kernel
theorem dX2_solveRow_125 : decode cX2_solveRow 125 = .ok (.ifCond .ne 5, 3) := by decide +kernel
theorem dX2_solveRow_128 : decode cX2_solveRow 128 = .ok (.iconst 3, 1) := by decide +kernel
theorem dX2_solveRow_129 : decode cX2_solveRow 129 = .ok (.ireturn, 1) := by decide +kernel
theorem dX2_solveRow_130 : decode cX2_solveRow 130 = .ok (.iload_n 1, 1) := by decide +kernel
theorem dX2_solveRow_131 : decode cX2_solveRow 131 = .ok (.ifCond .le 5, 3) := by decide +kernel
theorem dX2_solveRow_134 : decode cX2_solveRow 134 = .ok (.iconst 0, 1) := by decide +kernel
theorem dX2_solveRow_135 : decode cX2_solveRow 135 = .ok (.ireturn, 1) := by decide +kernel
theorem dX2_solveRow_136 : decode cX2_solveRow 136 = .ok (.aload_n 0, 1) := by decide +kernel
theorem dX2_solveRow_137 : decode cX2_solveRow 137 = .ok (.invokevirtual 153, 3) := by decide +kernel
theorem dX2_solveRow_140 : decode cX2_solveRow 140 = .ok (.iconst 1, 1) := by decide +kernel
theorem dX2_solveRow_141 : decode cX2_solveRow 141 = .ok (.ireturn, 1) := by decide +kernel
set_option maxRecDepth 20000 in
theorem ggX2_finishOutcome_X2_slotAt : GoodIn wsX2_finishOutcome wsX2_slotAt := goodIn_r _ [9, 10, 2, 28, 29, 30, 31, 32, 33, 34, 35, 36, 37, 38, 39, 40, 41] (by decide +kernel) (by decide +kernel)
set_option maxRecDepth 20000 in
theorem gX2_finishOutcome_X2_slotAt : GoodIn wsX2_finishOutcome (wsV RX2 58 RX2 yX2_slotAt wsX2_slotAt) := goodIn_app (goodIn_of _ (by decide +kernel)) ggX2_finishOutcome_X2_slotAt
set_option maxRecDepth 20000 in
theorem ggX2_finishOutcome_X0_copy : GoodIn wsX2_finishOutcome wsX0_copy := goodIn_r _ [15, 16, 17, 18, 19, 20, 21, 22, 23, 42, 43, 44, 45] (by decide +kernel) (by decide +kernel)
set_option maxRecDepth 20000 in
theorem gX2_finishOutcome_X0_copy : GoodIn wsX2_finishOutcome (wsV RX2 119 RX0 yX0_copy wsX0_copy) := goodIn_app (goodIn_of _ (by decide +kernel)) ggX2_finishOutcome_X0_copy
set_option maxRecDepth 20000 in
theorem ggX2_finishOutcome_X0_negate : GoodIn wsX2_finishOutcome wsX0_negate := goodIn_r _ [27, 23, 42, 43, 44, 45] (by decide +kernel) (by decide +kernel)
set_option maxRecDepth 20000 in
theorem gX2_finishOutcome_X0_negate : GoodIn wsX2_finishOutcome (wsV RX2 156 RX0 yX0_negate wsX0_negate) := goodIn_app (goodIn_of _ (by decide +kernel)) ggX2_finishOutcome_X0_negate
theorem dX2_finishOutcome_0 : decode cX2_finishOutcome 0 = .ok (.aload_n 0, 1) := by decide +kernel
theorem dX2_finishOutcome_1 : decode cX2_finishOutcome 1 = .ok (.getfield 32, 3) := by decide +kernel
theorem dX2_finishOutcome_4 : decode cX2_finishOutcome 4 = .ok (.aload_n 0, 1) := by decide +kernel
theorem dX2_finishOutcome_5 : decode cX2_finishOutcome 5 = .ok (.getfield 13, 3) := by decide +kernel
theorem dX2_finishOutcome_8 : decode cX2_finishOutcome 8 = .ok (.aload_n 0, 1) := by decide +kernel
theorem dX2_finishOutcome_9 : decode cX2_finishOutcome 9 = .ok (.getfield 25, 3) := by decide +kernel
theorem dX2_finishOutcome_12 : decode cX2_finishOutcome 12 = .ok (.aload_n 0, 1) := by decide +kernel
theorem dX2_finishOutcome_13 : decode cX2_finishOutcome 13 = .ok (.aload_n 0, 1) := by decide +kernel
theorem dX2_finishOutcome_14 : decode cX2_finishOutcome 14 = .ok (.getfield 13, 3) := by decide +kernel
theorem dX2_finishOutcome_17 : decode cX2_finishOutcome 17 = .ok (.iconst 1, 1) := by decide +kernel
theorem dX2_finishOutcome_18 : decode cX2_finishOutcome 18 = .ok (.isub, 1) := by decide +kernel
theorem dX2_finishOutcome_19 : decode cX2_finishOutcome 19 = .ok (.aload_n 0, 1) := by decide +kernel
theorem dX2_finishOutcome_20 : decode cX2_finishOutcome 20 = .ok (.getfield 13, 3) := by decide +kernel
theorem dX2_finishOutcome_23 : decode cX2_finishOutcome 23 = .ok (.iconst 1, 1) := by decide +kernel
theorem dX2_finishOutcome_24 : decode cX2_finishOutcome 24 = .ok (.isub, 1) := by decide +kernel
theorem dX2_finishOutcome_25 : decode cX2_finishOutcome 25 = .ok (.invokevirtual 58, 3) := by decide +kernel
theorem dX2_finishOutcome_28 : decode cX2_finishOutcome 28 = .ok (.invokevirtual 119, 3) := by decide +kernel
theorem dX2_finishOutcome_31 : decode cX2_finishOutcome 31 = .ok (.aload_n 0, 1) := by decide +kernel
theorem dX2_finishOutcome_32 : decode cX2_finishOutcome 32 = .ok (.getfield 115, 3) := by decide +kernel
theorem dX2_finishOutcome_35 : decode cX2_finishOutcome 35 = .ok (.ifCond .eq 27, 3) := by decide +kernel
theorem dX2_finishOutcome_38 : decode cX2_finishOutcome 38 = .ok (.iconst 0, 1) := by decide +kernel
theorem dX2_finishOutcome_39 : decode cX2_finishOutcome 39 = .ok (.istore_n 1, 1) := by decide +kernel
theorem dX2_finishOutcome_40 : decode cX2_finishOutcome 40 = .ok (.iload_n 1, 1) := by decide +kernel
theorem dX2_finishOutcome_41 : decode cX2_finishOutcome 41 = .ok (.aload_n 0, 1) := by decide +kernel
theorem dX2_finishOutcome_42 : decode cX2_finishOutcome 42 = .ok (.getfield 13, 3) := by decide +kernel
theorem dX2_finishOutcome_45 : decode cX2_finishOutcome 45 = .ok (.if_icmp .gt 17, 3) := by decide +kernel
theorem dX2_finishOutcome_48 : decode cX2_finishOutcome 48 = .ok (.aload_n 0, 1) := by decide +kernel
theorem dX2_finishOutcome_49 : decode cX2_finishOutcome 49 = .ok (.getfield 32, 3) := by decide +kernel
theorem dX2_finishOutcome_52 : decode cX2_finishOutcome 52 = .ok (.iload_n 1, 1) := by decide +kernel
theorem dX2_finishOutcome_53 : decode cX2_finishOutcome 53 = .ok (.invokevirtual 156, 3) := by decide +kernel
theorem dX2_finishOutcome_56 : decode cX2_finishOutcome 56 = .ok (.iinc 1 1, 3) := by decide +kernel
end
section
theorem dX2_finishOutcome_59 : decode cX2_finishOutcome 59 = .ok (.goto (-19), 3) := by decide +kernel
theorem dX2_finishOutcome_62 : decode cX2_finishOutcome 62 = .ok (.return_, 1) := by decide +kernel
set_option maxRecDepth 20000 in
theorem ggX2_equationHolds_X1_clear : GoodIn wsX2_equationHolds wsX1_clear := goodIn_r _ [9, 10, 11, 12, 13, 14, 15, 16, 17, 65, 66, 67, 68, 69, 70] (by decide +kernel) (by decide +kernel)
set_option maxRecDepth 20000 in
theorem gX2_equationHolds_X1_clear : GoodIn wsX2_equationHolds (wsV RX2 136 RX1 yX1_clear wsX1_clear) := goodIn_app (goodIn_of _ (by decide +kernel)) ggX2_equationHolds_X1_clear
set_option maxRecDepth 20000 in
theorem ggX2_equationHolds_X1_addProduct : GoodIn wsX2_equationHolds wsX1_addProduct := goodIn_r _ [21, 10, 11, 22, 23, 24, 25, 26, 27, 28, 29, 30, 31, 32, 33, 34, 35, 36, 37, 38, 39, 40, 8, 41, 42, 65, 66, 67, 68, 69, 70, 71, 72, 73, 74] (by decide +kernel) (by decide +kernel)
set_option maxRecDepth 20000 in
theorem gX2_equationHolds_X1_addProduct : GoodIn wsX2_equationHolds (wsV RX2 138 RX1 yX1_addProduct wsX1_addProduct) := goodIn_app (goodIn_of _ (by decide +kernel)) ggX2_equationHolds_X1_addProduct
set_option maxRecDepth 20000 in
theorem ggX2_equationHolds_X1_isZero : GoodIn wsX2_equationHolds wsX1_isZero := goodIn_r _ [46, 47, 48, 49, 8, 50, 10, 11, 65, 66, 67, 68, 69, 70] (by decide +kernel) (by decide +kernel)
set_option maxRecDepth 20000 in
theorem gX2_equationHolds_X1_isZero : GoodIn wsX2_equationHolds (wsV RX2 159 RX1 yX1_isZero wsX1_isZero) := goodIn_app (goodIn_of _ (by decide +kernel)) ggX2_equationHolds_X1_isZero
theorem dX2_equationHolds_0 : decode cX2_equationHolds 0 = .ok (.iload_n 1, 1) := by decide +kernel
theorem dX2_equationHolds_1 : decode cX2_equationHolds 1 = .ok (.aload_n 0, 1) := by decide +kernel
theorem dX2_equationHolds_2 : decode cX2_equationHolds 2 = .ok (.getfield 13, 3) := by decide +kernel
theorem dX2_equationHolds_5 : decode cX2_equationHolds 5 = .ok (.iconst 1, 1) := by decide +kernel
theorem dX2_equationHolds_6 : decode cX2_equationHolds 6 = .ok (.iadd, 1) := by decide +kernel
theorem dX2_equationHolds_7 : decode cX2_equationHolds 7 = .ok (.imul, 1) := by decide +kernel
theorem dX2_equationHolds_8 : decode cX2_equationHolds 8 = .ok (.istore_n 2, 1) := by decide +kernel
theorem dX2_equationHolds_9 : decode cX2_equationHolds 9 = .ok (.aload_n 0, 1) := by decide +kernel
theorem dX2_equationHolds_10 : decode cX2_equationHolds 10 = .ok (.getfield 40, 3) := by decide +kernel
theorem dX2_equationHolds_13 : decode cX2_equationHolds 13 = .ok (.invokevirtual 136, 3) := by decide +kernel
theorem dX2_equationHolds_16 : decode cX2_equationHolds 16 = .ok (.iconst 0, 1) := by decide +kernel
theorem dX2_equationHolds_17 : decode cX2_equationHolds 17 = .ok (.istore_n 3, 1) := by decide +kernel
theorem dX2_equationHolds_18 : decode cX2_equationHolds 18 = .ok (.iload_n 3, 1) := by decide +kernel
theorem dX2_equationHolds_19 : decode cX2_equationHolds 19 = .ok (.aload_n 0, 1) := by decide +kernel
theorem dX2_equationHolds_20 : decode cX2_equationHolds 20 = .ok (.getfield 13, 3) := by decide +kernel
theorem dX2_equationHolds_23 : decode cX2_equationHolds 23 = .ok (.if_icmp .ge 29, 3) := by decide +kernel
theorem dX2_equationHolds_26 : decode cX2_equationHolds 26 = .ok (.aload_n 0, 1) := by decide +kernel
theorem dX2_equationHolds_27 : decode cX2_equationHolds 27 = .ok (.getfield 40, 3) := by decide +kernel
theorem dX2_equationHolds_30 : decode cX2_equationHolds 30 = .ok (.aload_n 0, 1) := by decide +kernel
theorem dX2_equationHolds_31 : decode cX2_equationHolds 31 = .ok (.getfield 29, 3) := by decide +kernel
theorem dX2_equationHolds_34 : decode cX2_equationHolds 34 = .ok (.iload_n 2, 1) := by decide +kernel
theorem dX2_equationHolds_35 : decode cX2_equationHolds 35 = .ok (.iload_n 3, 1) := by decide +kernel
theorem dX2_equationHolds_36 : decode cX2_equationHolds 36 = .ok (.iadd, 1) := by decide +kernel
theorem dX2_equationHolds_37 : decode cX2_equationHolds 37 = .ok (.aload_n 0, 1) := by decide +kernel
theorem dX2_equationHolds_38 : decode cX2_equationHolds 38 = .ok (.getfield 32, 3) := by decide +kernel
theorem dX2_equationHolds_41 : decode cX2_equationHolds 41 = .ok (.iload_n 3, 1) := by decide +kernel
theorem dX2_equationHolds_42 : decode cX2_equationHolds 42 = .ok (.iconst 1, 1) := by decide +kernel
theorem dX2_equationHolds_43 : decode cX2_equationHolds 43 = .ok (.invokevirtual 138, 3) := by decide +kernel
theorem dX2_equationHolds_46 : decode cX2_equationHolds 46 = .ok (.iinc 3 1, 3) := by decide +kernel
theorem dX2_equationHolds_49 : decode cX2_equationHolds 49 = .ok (.goto (-31), 3) := by decide +kernel
theorem dX2_equationHolds_52 : decode cX2_equationHolds 52 = .ok (.aload_n 0, 1) := by decide +kernel
theorem dX2_equationHolds_53 : decode cX2_equationHolds 53 = .ok (.getfield 40, 3) := by decide +kernel
theorem dX2_equationHolds_56 : decode cX2_equationHolds 56 = .ok (.aload_n 0, 1) := by decide +kernel
theorem dX2_equationHolds_57 : decode cX2_equationHolds 57 = .ok (.getfield 29, 3) := by decide +kernel
theorem dX2_equationHolds_60 : decode cX2_equationHolds 60 = .ok (.iload_n 2, 1) := by decide +kernel
theorem dX2_equationHolds_61 : decode cX2_equationHolds 61 = .ok (.aload_n 0, 1) := by decide +kernel
theorem dX2_equationHolds_62 : decode cX2_equationHolds 62 = .ok (.getfield 13, 3) := by decide +kernel
theorem dX2_equationHolds_65 : decode cX2_equationHolds 65 = .ok (.iadd, 1) := by decide +kernel
theorem dX2_equationHolds_66 : decode cX2_equationHolds 66 = .ok (.aload_n 0, 1) := by decide +kernel
theorem dX2_equationHolds_67 : decode cX2_equationHolds 67 = .ok (.getfield 32, 3) := by decide +kernel
theorem dX2_equationHolds_70 : decode cX2_equationHolds 70 = .ok (.aload_n 0, 1) := by decide +kernel
theorem dX2_equationHolds_71 : decode cX2_equationHolds 71 = .ok (.getfield 13, 3) := by decide +kernel
theorem dX2_equationHolds_74 : decode cX2_equationHolds 74 = .ok (.iconst (-1), 1) := by decide +kernel
theorem dX2_equationHolds_75 : decode cX2_equationHolds 75 = .ok (.invokevirtual 138, 3) := by decide +kernel
theorem dX2_equationHolds_78 : decode cX2_equationHolds 78 = .ok (.aload_n 0, 1) := by decide +kernel
theorem dX2_equationHolds_79 : decode cX2_equationHolds 79 = .ok (.getfield 40, 3) := by decide +kernel
theorem dX2_equationHolds_82 : decode cX2_equationHolds 82 = .ok (.invokevirtual 159, 3) := by decide +kernel
theorem dX2_equationHolds_85 : decode cX2_equationHolds 85 = .ok (.ireturn, 1) := by decide +kernel
set_option maxRecDepth 20000 in
theorem ggX3_init_X3_reset : GoodIn wsX3_init wsX3_reset := goodIn_r _ [14, 5, 6, 7, 15, 16, 17, 18, 19, 20, 21, 22, 23, 24, 25, 26, 27, 28, 29, 30, 31] (by decide +kernel) (by decide +kernel)
set_option maxRecDepth 20000 in
theorem gX3_init_X3_reset : GoodIn wsX3_init (wsV RX3 26 RX3 yX3_reset wsX3_reset) := goodIn_app (goodIn_of _ (by decide +kernel)) ggX3_init_X3_reset
theorem dX3_init_0 : decode cX3_init 0 = .ok (.aload_n 0, 1) := by decide +kernel
theorem dX3_init_1 : decode cX3_init 1 = .ok (.invokespecial 1, 3) := by decide +kernel
theorem dX3_init_4 : decode cX3_init 4 = .ok (.aload_n 0, 1) := by decide +kernel
theorem dX3_init_5 : decode cX3_init 5 = .ok (.sipush 2160, 3) := by decide +kernel
theorem dX3_init_8 : decode cX3_init 8 = .ok (.newarray .int, 2) := by decide +kernel
theorem dX3_init_10 : decode cX3_init 10 = .ok (.putfield 7, 3) := by decide +kernel
theorem dX3_init_13 : decode cX3_init 13 = .ok (.aload_n 0, 1) := by decide +kernel
theorem dX3_init_14 : decode cX3_init 14 = .ok (.bipush 54, 2) := by decide +kernel
theorem dX3_init_16 : decode cX3_init 16 = .ok (.newarray .int, 2) := by decide +kernel
theorem dX3_init_18 : decode cX3_init 18 = .ok (.putfield 13, 3) := by decide +kernel
theorem dX3_init_21 : decode cX3_init 21 = .ok (.aload_n 0, 1) := by decide +kernel
theorem dX3_init_22 : decode cX3_init 22 = .ok (.bipush 6, 2) := by decide +kernel
theorem dX3_init_24 : decode cX3_init 24 = .ok (.newarray .int, 2) := by decide +kernel
theorem dX3_init_26 : decode cX3_init 26 = .ok (.putfield 16, 3) := by decide +kernel
theorem dX3_init_29 : decode cX3_init 29 = .ok (.aload_n 0, 1) := by decide +kernel
theorem dX3_init_30 : decode cX3_init 30 = .ok (.iload_n 1, 1) := by decide +kernel
theorem dX3_init_31 : decode cX3_init 31 = .ok (.iconst 1, 1) := by decide +kernel
theorem dX3_init_32 : decode cX3_init 32 = .ok (.if_icmp .ge 7, 3) := by decide +kernel
theorem dX3_init_35 : decode cX3_init 35 = .ok (.iconst 1, 1) := by decide +kernel
theorem dX3_init_36 : decode cX3_init 36 = .ok (.goto 15, 3) := by decide +kernel
theorem dX3_init_39 : decode cX3_init 39 = .ok (.iload_n 1, 1) := by decide +kernel
theorem dX3_init_40 : decode cX3_init 40 = .ok (.bipush 6, 2) := by decide +kernel
theorem dX3_init_42 : decode cX3_init 42 = .ok (.if_icmp .le 8, 3) := by decide +kernel
theorem dX3_init_45 : decode cX3_init 45 = .ok (.bipush 6, 2) := by decide +kernel
theorem dX3_init_47 : decode cX3_init 47 = .ok (.goto 4, 3) := by decide +kernel
theorem dX3_init_50 : decode cX3_init 50 = .ok (.iload_n 1, 1) := by decide +kernel
theorem dX3_init_51 : decode cX3_init 51 = .ok (.putfield 19, 3) := by decide +kernel
theorem dX3_init_54 : decode cX3_init 54 = .ok (.aload_n 0, 1) := by decide +kernel
theorem dX3_init_55 : decode cX3_init 55 = .ok (.iload_n 2, 1) := by decide +kernel
theorem dX3_init_56 : decode cX3_init 56 = .ok (.iconst 1, 1) := by decide +kernel
theorem dX3_init_57 : decode cX3_init 57 = .ok (.if_icmp .ge 7, 3) := by decide +kernel
theorem dX3_init_60 : decode cX3_init 60 = .ok (.iconst 1, 1) := by decide +kernel
theorem dX3_init_61 : decode cX3_init 61 = .ok (.goto 15, 3) := by decide +kernel
theorem dX3_init_64 : decode cX3_init 64 = .ok (.iload_n 2, 1) := by decide +kernel
theorem dX3_init_65 : decode cX3_init 65 = .ok (.bipush 16, 2) := by decide +kernel
theorem dX3_init_67 : decode cX3_init 67 = .ok (.if_icmp .le 8, 3) := by decide +kernel
theorem dX3_init_70 : decode cX3_init 70 = .ok (.bipush 16, 2) := by decide +kernel
theorem dX3_init_72 : decode cX3_init 72 = .ok (.goto 4, 3) := by decide +kernel
theorem dX3_init_75 : decode cX3_init 75 = .ok (.iload_n 2, 1) := by decide +kernel
theorem dX3_init_76 : decode cX3_init 76 = .ok (.putfield 23, 3) := by decide +kernel
theorem dX3_init_79 : decode cX3_init 79 = .ok (.aload_n 0, 1) := by decide +kernel
theorem dX3_init_80 : decode cX3_init 80 = .ok (.invokevirtual 26, 3) := by decide +kernel
theorem dX3_init_83 : decode cX3_init 83 = .ok (.return_, 1) := by decide +kernel
theorem dX3_reset_0 : decode cX3_reset 0 = .ok (.iconst 0, 1) := by decide +kernel
theorem dX3_reset_1 : decode cX3_reset 1 = .ok (.istore_n 1, 1) := by decide +kernel
theorem dX3_reset_2 : decode cX3_reset 2 = .ok (.iload_n 1, 1) := by decide +kernel
theorem dX3_reset_3 : decode cX3_reset 3 = .ok (.sipush 2160, 3) := by decide +kernel
theorem dX3_reset_6 : decode cX3_reset 6 = .ok (.if_icmp .ge 16, 3) := by decide +kernel
theorem dX3_reset_9 : decode cX3_reset 9 = .ok (.aload_n 0, 1) := by decide +kernel
theorem dX3_reset_10 : decode cX3_reset 10 = .ok (.getfield 7, 3) := by decide +kernel
theorem dX3_reset_13 : decode cX3_reset 13 = .ok (.iload_n 1, 1) := by decide +kernel
theorem dX3_reset_14 : decode cX3_reset 14 = .ok (.iconst 0, 1) := by decide +kernel
theorem dX3_reset_15 : decode cX3_reset 15 = .ok (.iastore, 1) := by decide +kernel
theorem dX3_reset_16 : decode cX3_reset 16 = .ok (.iinc 1 1, 3) := by decide +kernel
theorem dX3_reset_19 : decode cX3_reset 19 = .ok (.goto (-17), 3) := by decide +kernel
theorem dX3_reset_22 : decode cX3_reset 22 = .ok (.iconst 0, 1) := by decide +kernel
theorem dX3_reset_23 : decode cX3_reset 23 = .ok (.istore_n 1, 1) := by decide +kernel
theorem dX3_reset_24 : decode cX3_reset 24 = .ok (.iload_n 1, 1) := by decide +kernel
theorem dX3_reset_25 : decode cX3_reset 25 = .ok (.bipush 54, 2) := by decide +kernel
theorem dX3_reset_27 : decode cX3_reset 27 = .ok (.if_icmp .ge 16, 3) := by decide +kernel
theorem dX3_reset_30 : decode cX3_reset 30 = .ok (.aload_n 0, 1) := by decide +kernel
theorem dX3_reset_31 : decode cX3_reset 31 = .ok (.getfield 13, 3) := by decide +kernel
theorem dX3_reset_34 : decode cX3_reset 34 = .ok (.iload_n 1, 1) := by decide +kernel
theorem dX3_reset_35 : decode cX3_reset 35 = .ok (.iconst 0, 1) := by decide +kernel
theorem dX3_reset_36 : decode cX3_reset 36 = .ok (.iastore, 1) := by decide +kernel
theorem dX3_reset_37 : decode cX3_reset 37 = .ok (.iinc 1 1, 3) := by decide +kernel
theorem dX3_reset_40 : decode cX3_reset 40 = .ok (.goto (-16), 3) := by decide +kernel
theorem dX3_reset_43 : decode cX3_reset 43 = .ok (.iconst 0, 1) := by decide +kernel
theorem dX3_reset_44 : decode cX3_reset 44 = .ok (.istore_n 1, 1) := by decide +kernel
theorem dX3_reset_45 : decode cX3_reset 45 = .ok (.iload_n 1, 1) := by decide +kernel
theorem dX3_reset_46 : decode cX3_reset 46 = .ok (.bipush 6, 2) := by decide +kernel
theorem dX3_reset_48 : decode cX3_reset 48 = .ok (.if_icmp .ge 16, 3) := by decide +kernel
theorem dX3_reset_51 : decode cX3_reset 51 = .ok (.aload_n 0, 1) := by decide +kernel
theorem dX3_reset_52 : decode cX3_reset 52 = .ok (.getfield 16, 3) := by decide +kernel
theorem dX3_reset_55 : decode cX3_reset 55 = .ok (.iload_n 1, 1) := by decide +kernel
theorem dX3_reset_56 : decode cX3_reset 56 = .ok (.iload_n 1, 1) := by decide +kernel
theorem dX3_reset_57 : decode cX3_reset 57 = .ok (.iastore, 1) := by decide +kernel
theorem dX3_reset_58 : decode cX3_reset 58 = .ok (.iinc 1 1, 3) := by decide +kernel
theorem dX3_reset_61 : decode cX3_reset 61 = .ok (.goto (-16), 3) := by decide +kernel
theorem dX3_reset_64 : decode cX3_reset 64 = .ok (.aload_n 0, 1) := by decide +kernel
theorem dX3_reset_65 : decode cX3_reset 65 = .ok (.iconst (-1), 1) := by decide +kernel
theorem dX3_reset_66 : decode cX3_reset 66 = .ok (.putfield 29, 3) := by decide +kernel
theorem dX3_reset_69 : decode cX3_reset 69 = .ok (.aload_n 0, 1) := by decide +kernel
theorem dX3_reset_70 : decode cX3_reset 70 = .ok (.iconst 4, 1) := by decide +kernel
theorem dX3_reset_71 : decode cX3_reset 71 = .ok (.putfield 32, 3) := by decide +kernel
theorem dX3_reset_74 : decode cX3_reset 74 = .ok (.aload_n 0, 1) := by decide +kernel
theorem dX3_reset_75 : decode cX3_reset 75 = .ok (.iconst 0, 1) := by decide +kernel
theorem dX3_reset_76 : decode cX3_reset 76 = .ok (.putfield 35, 3) := by decide +kernel
theorem dX3_reset_79 : decode cX3_reset 79 = .ok (.aload_n 0, 1) := by decide +kernel
theorem dX3_reset_80 : decode cX3_reset 80 = .ok (.iconst 0, 1) := by decide +kernel
theorem dX3_reset_81 : decode cX3_reset 81 = .ok (.putfield 38, 3) := by decide +kernel
theorem dX3_reset_84 : decode cX3_reset 84 = .ok (.aload_n 0, 1) := by decide +kernel
theorem dX3_reset_85 : decode cX3_reset 85 = .ok (.iconst 0, 1) := by decide +kernel
theorem dX3_reset_86 : decode cX3_reset 86 = .ok (.putfield 41, 3) := by decide +kernel
theorem dX3_reset_89 : decode cX3_reset 89 = .ok (.return_, 1) := by decide +kernel
theorem dX3_isPlace_0 : decode cX3_isPlace 0 = .ok (.iload_n 1, 1) := by decide +kernel
theorem dX3_isPlace_1 : decode cX3_isPlace 1 = .ok (.ifCond .lt 27, 3) := by decide +kernel
theorem dX3_isPlace_4 : decode cX3_isPlace 4 = .ok (.iload_n 1, 1) := by decide +kernel
theorem dX3_isPlace_5 : decode cX3_isPlace 5 = .ok (.aload_n 0, 1) := by decide +kernel
theorem dX3_isPlace_6 : decode cX3_isPlace 6 = .ok (.getfield 19, 3) := by decide +kernel
theorem dX3_isPlace_9 : decode cX3_isPlace 9 = .ok (.if_icmp .ge 19, 3) := by decide +kernel
theorem dX3_isPlace_12 : decode cX3_isPlace 12 = .ok (.iload_n 2, 1) := by decide +kernel
theorem dX3_isPlace_13 : decode cX3_isPlace 13 = .ok (.ifCond .lt 15, 3) := by decide +kernel
theorem dX3_isPlace_16 : decode cX3_isPlace 16 = .ok (.iload_n 2, 1) := by decide +kernel
theorem dX3_isPlace_17 : decode cX3_isPlace 17 = .ok (.aload_n 0, 1) := by decide +kernel
theorem dX3_isPlace_18 : decode cX3_isPlace 18 = .ok (.getfield 19, 3) := by decide +kernel
theorem dX3_isPlace_21 : decode cX3_isPlace 21 = .ok (.if_icmp .gt 7, 3) := by decide +kernel
theorem dX3_isPlace_24 : decode cX3_isPlace 24 = .ok (.iconst 1, 1) := by decide +kernel
theorem dX3_isPlace_25 : decode cX3_isPlace 25 = .ok (.goto 4, 3) := by decide +kernel
theorem dX3_isPlace_28 : decode cX3_isPlace 28 = .ok (.iconst 0, 1) := by decide +kernel
theorem dX3_isPlace_29 : decode cX3_isPlace 29 = .ok (.ireturn, 1) := by decide +kernel
theorem dX3_place_0 : decode cX3_place 0 = .ok (.bipush 7, 2) := by decide +kernel
theorem dX3_place_2 : decode cX3_place 2 = .ok (.iload_n 1, 1) := by decide +kernel
theorem dX3_place_3 : decode cX3_place 3 = .ok (.imul, 1) := by decide +kernel
theorem dX3_place_4 : decode cX3_place 4 = .ok (.iload_n 2, 1) := by decide +kernel
theorem dX3_place_5 : decode cX3_place 5 = .ok (.aload_n 0, 1) := by decide +kernel
theorem dX3_place_6 : decode cX3_place 6 = .ok (.getfield 19, 3) := by decide +kernel
theorem dX3_place_9 : decode cX3_place 9 = .ok (.if_icmp .ne 8, 3) := by decide +kernel
theorem dX3_place_12 : decode cX3_place 12 = .ok (.bipush 6, 2) := by decide +kernel
theorem dX3_place_14 : decode cX3_place 14 = .ok (.goto 4, 3) := by decide +kernel
theorem dX3_place_17 : decode cX3_place 17 = .ok (.iload_n 2, 1) := by decide +kernel
theorem dX3_place_18 : decode cX3_place 18 = .ok (.iadd, 1) := by decide +kernel
theorem dX3_place_19 : decode cX3_place 19 = .ok (.ireturn, 1) := by decide +kernel
set_option maxRecDepth 20000 in
theorem ggX3_entry_X3_isPlace : GoodIn wsX3_entry wsX3_isPlace := goodIn_r _ [9, 10, 21, 22, 23, 24, 25, 26, 27, 28, 29, 30, 31, 32] (by decide +kernel) (by decide +kernel)
set_option maxRecDepth 20000 in
theorem gX3_entry_X3_isPlace : GoodIn wsX3_entry (wsV RX3 45 RX3 yX3_isPlace wsX3_isPlace) := goodIn_app (goodIn_of _ (by decide +kernel)) ggX3_entry_X3_isPlace
set_option maxRecDepth 20000 in
theorem ggX3_entry_X3_place : GoodIn wsX3_entry wsX3_place := goodIn_r _ [14, 10, 21, 22, 23, 24, 25, 26, 27, 28, 29, 30, 31, 32] (by decide +kernel) (by decide +kernel)
set_option maxRecDepth 20000 in
theorem gX3_entry_X3_place : GoodIn wsX3_entry (wsV RX3 49 RX3 yX3_place wsX3_place) := goodIn_app (goodIn_of _ (by decide +kernel)) ggX3_entry_X3_place
set_option maxRecDepth 20000 in
theorem ggX3_entry_X3_clear : GoodIn wsX3_entry wsX3_clear := goodIn_r _ [18, 19, 20, 21, 22, 23, 24, 25, 26, 27, 28, 29, 30, 31, 32] (by decide +kernel) (by decide +kernel)
set_option maxRecDepth 20000 in
theorem gX3_entry_X3_clear : GoodIn wsX3_entry (wsV RX3 59 RX3 yX3_clear wsX3_clear) := goodIn_app (goodIn_of _ (by decide +kernel)) ggX3_entry_X3_clear
theorem dX3_entry_0 : decode cX3_entry 0 = .ok (.aload_n 0, 1) := by decide +kernel
theorem dX3_entry_1 : decode cX3_entry 1 = .ok (.getfield 32, 3) := by decide +kernel
theorem dX3_entry_4 : decode cX3_entry 4 = .ok (.iconst 4, 1) := by decide +kernel
theorem dX3_entry_5 : decode cX3_entry 5 = .ok (.if_icmp .ne 22, 3) := by decide +kernel
theorem dX3_entry_8 : decode cX3_entry 8 = .ok (.aload_n 0, 1) := by decide +kernel
theorem dX3_entry_9 : decode cX3_entry 9 = .ok (.iload_n 1, 1) := by decide +kernel
theorem dX3_entry_10 : decode cX3_entry 10 = .ok (.iload_n 2, 1) := by decide +kernel
theorem dX3_entry_11 : decode cX3_entry 11 = .ok (.invokevirtual 45, 3) := by decide +kernel
theorem dX3_entry_14 : decode cX3_entry 14 = .ok (.ifCond .eq 13, 3) := by decide +kernel
theorem dX3_entry_17 : decode cX3_entry 17 = .ok (.iload_n 3, 1) := by decide +kernel
theorem dX3_entry_18 : decode cX3_entry 18 = .ok (.iconst (-1), 1) := by decide +kernel
theorem dX3_entry_19 : decode cX3_entry 19 = .ok (.if_icmp .lt 8, 3) := by decide +kernel
theorem dX3_entry_22 : decode cX3_entry 22 = .ok (.iload_n 3, 1) := by decide +kernel
theorem dX3_entry_23 : decode cX3_entry 23 = .ok (.iconst 1, 1) := by decide +kernel
theorem dX3_entry_24 : decode cX3_entry 24 = .ok (.if_icmp .le 5, 3) := by decide +kernel
theorem dX3_entry_27 : decode cX3_entry 27 = .ok (.iconst 0, 1) := by decide +kernel
theorem dX3_entry_28 : decode cX3_entry 28 = .ok (.ireturn, 1) := by decide +kernel
theorem dX3_entry_29 : decode cX3_entry 29 = .ok (.aload_n 0, 1) := by decide +kernel
theorem dX3_entry_30 : decode cX3_entry 30 = .ok (.aload_n 0, 1) := by decide +kernel
theorem dX3_entry_31 : decode cX3_entry 31 = .ok (.iload_n 1, 1) := by decide +kernel
theorem dX3_entry_32 : decode cX3_entry 32 = .ok (.iload_n 2, 1) := by decide +kernel
theorem dX3_entry_33 : decode cX3_entry 33 = .ok (.invokevirtual 49, 3) := by decide +kernel
theorem dX3_entry_36 : decode cX3_entry 36 = .ok (.putfield 29, 3) := by decide +kernel
theorem dX3_entry_39 : decode cX3_entry 39 = .ok (.aload_n 0, 1) := by decide +kernel
theorem dX3_entry_40 : decode cX3_entry 40 = .ok (.iload_n 3, 1) := by decide +kernel
theorem dX3_entry_41 : decode cX3_entry 41 = .ok (.putfield 53, 3) := by decide +kernel
theorem dX3_entry_44 : decode cX3_entry 44 = .ok (.aload_n 0, 1) := by decide +kernel
theorem dX3_entry_45 : decode cX3_entry 45 = .ok (.iconst 0, 1) := by decide +kernel
theorem dX3_entry_46 : decode cX3_entry 46 = .ok (.putfield 56, 3) := by decide +kernel
theorem dX3_entry_49 : decode cX3_entry 49 = .ok (.aload_n 0, 1) := by decide +kernel
theorem dX3_entry_50 : decode cX3_entry 50 = .ok (.aload_n 0, 1) := by decide +kernel
theorem dX3_entry_51 : decode cX3_entry 51 = .ok (.getfield 29, 3) := by decide +kernel
theorem dX3_entry_54 : decode cX3_entry 54 = .ok (.invokevirtual 59, 3) := by decide +kernel
theorem dX3_entry_57 : decode cX3_entry 57 = .ok (.iconst 1, 1) := by decide +kernel
theorem dX3_entry_58 : decode cX3_entry 58 = .ok (.ireturn, 1) := by decide +kernel
theorem dX3_limb_0 : decode cX3_limb 0 = .ok (.aload_n 0, 1) := by decide +kernel
theorem dX3_limb_1 : decode cX3_limb 1 = .ok (.getfield 32, 3) := by decide +kernel
theorem dX3_limb_4 : decode cX3_limb 4 = .ok (.iconst 4, 1) := by decide +kernel
theorem dX3_limb_5 : decode cX3_limb 5 = .ok (.if_icmp .ne 32, 3) := by decide +kernel
theorem dX3_limb_8 : decode cX3_limb 8 = .ok (.aload_n 0, 1) := by decide +kernel
theorem dX3_limb_9 : decode cX3_limb 9 = .ok (.getfield 29, 3) := by decide +kernel
theorem dX3_limb_12 : decode cX3_limb 12 = .ok (.ifCond .lt 25, 3) := by decide +kernel
theorem dX3_limb_15 : decode cX3_limb 15 = .ok (.aload_n 0, 1) := by decide +kernel
theorem dX3_limb_16 : decode cX3_limb 16 = .ok (.getfield 53, 3) := by decide +kernel
theorem dX3_limb_19 : decode cX3_limb 19 = .ok (.ifCond .eq 18, 3) := by decide +kernel
theorem dX3_limb_22 : decode cX3_limb 22 = .ok (.iload_n 1, 1) := by decide +kernel
theorem dX3_limb_23 : decode cX3_limb 23 = .ok (.ifCond .lt 14, 3) := by decide +kernel
theorem dX3_limb_26 : decode cX3_limb 26 = .ok (.aload_n 0, 1) := by decide +kernel
theorem dX3_limb_27 : decode cX3_limb 27 = .ok (.getfield 56, 3) := by decide +kernel
theorem dX3_limb_30 : decode cX3_limb 30 = .ok (.aload_n 0, 1) := by decide +kernel
theorem dX3_limb_31 : decode cX3_limb 31 = .ok (.getfield 23, 3) := by decide +kernel
theorem dX3_limb_34 : decode cX3_limb 34 = .ok (.if_icmp .ne 5, 3) := by decide +kernel
theorem dX3_limb_37 : decode cX3_limb 37 = .ok (.iconst 0, 1) := by decide +kernel
theorem dX3_limb_38 : decode cX3_limb 38 = .ok (.ireturn, 1) := by decide +kernel
theorem dX3_limb_39 : decode cX3_limb 39 = .ok (.aload_n 0, 1) := by decide +kernel
theorem dX3_limb_40 : decode cX3_limb 40 = .ok (.getfield 7, 3) := by decide +kernel
theorem dX3_limb_43 : decode cX3_limb 43 = .ok (.bipush 40, 2) := by decide +kernel
theorem dX3_limb_45 : decode cX3_limb 45 = .ok (.aload_n 0, 1) := by decide +kernel
theorem dX3_limb_46 : decode cX3_limb 46 = .ok (.getfield 29, 3) := by decide +kernel
theorem dX3_limb_49 : decode cX3_limb 49 = .ok (.imul, 1) := by decide +kernel
theorem dX3_limb_50 : decode cX3_limb 50 = .ok (.aload_n 0, 1) := by decide +kernel
theorem dX3_limb_51 : decode cX3_limb 51 = .ok (.getfield 56, 3) := by decide +kernel
theorem dX3_limb_54 : decode cX3_limb 54 = .ok (.iadd, 1) := by decide +kernel
theorem dX3_limb_55 : decode cX3_limb 55 = .ok (.iload_n 1, 1) := by decide +kernel
theorem dX3_limb_56 : decode cX3_limb 56 = .ok (.iastore, 1) := by decide +kernel
theorem dX3_limb_57 : decode cX3_limb 57 = .ok (.aload_n 0, 1) := by decide +kernel
theorem dX3_limb_58 : decode cX3_limb 58 = .ok (.dup, 1) := by decide +kernel
theorem dX3_limb_59 : decode cX3_limb 59 = .ok (.getfield 56, 3) := by decide +kernel
theorem dX3_limb_62 : decode cX3_limb 62 = .ok (.iconst 1, 1) := by decide +kernel
theorem dX3_limb_63 : decode cX3_limb 63 = .ok (.iadd, 1) := by decide +kernel
theorem dX3_limb_64 : decode cX3_limb 64 = .ok (.putfield 56, 3) := by decide +kernel
theorem dX3_limb_67 : decode cX3_limb 67 = .ok (.aload_n 0, 1) := by decide +kernel
theorem dX3_limb_68 : decode cX3_limb 68 = .ok (.getfield 13, 3) := by decide +kernel
theorem dX3_limb_71 : decode cX3_limb 71 = .ok (.aload_n 0, 1) := by decide +kernel
theorem dX3_limb_72 : decode cX3_limb 72 = .ok (.getfield 29, 3) := by decide +kernel
theorem dX3_limb_75 : decode cX3_limb 75 = .ok (.iload_n 1, 1) := by decide +kernel
theorem dX3_limb_76 : decode cX3_limb 76 = .ok (.ifCond .le 10, 3) := by decide +kernel
theorem dX3_limb_79 : decode cX3_limb 79 = .ok (.aload_n 0, 1) := by decide +kernel
theorem dX3_limb_80 : decode cX3_limb 80 = .ok (.getfield 53, 3) := by decide +kernel
theorem dX3_limb_83 : decode cX3_limb 83 = .ok (.goto 12, 3) := by decide +kernel
theorem dX3_limb_86 : decode cX3_limb 86 = .ok (.aload_n 0, 1) := by decide +kernel
theorem dX3_limb_87 : decode cX3_limb 87 = .ok (.getfield 13, 3) := by decide +kernel
theorem dX3_limb_90 : decode cX3_limb 90 = .ok (.aload_n 0, 1) := by decide +kernel
theorem dX3_limb_91 : decode cX3_limb 91 = .ok (.getfield 29, 3) := by decide +kernel
theorem dX3_limb_94 : decode cX3_limb 94 = .ok (.iaload, 1) := by decide +kernel
theorem dX3_limb_95 : decode cX3_limb 95 = .ok (.iastore, 1) := by decide +kernel
theorem dX3_limb_96 : decode cX3_limb 96 = .ok (.iconst 1, 1) := by decide +kernel
theorem dX3_limb_97 : decode cX3_limb 97 = .ok (.ireturn, 1) := by decide +kernel
theorem dX3_clear_0 : decode cX3_clear 0 = .ok (.iconst 0, 1) := by decide +kernel
theorem dX3_clear_1 : decode cX3_clear 1 = .ok (.istore_n 2, 1) := by decide +kernel
theorem dX3_clear_2 : decode cX3_clear 2 = .ok (.iload_n 2, 1) := by decide +kernel
theorem dX3_clear_3 : decode cX3_clear 3 = .ok (.bipush 40, 2) := by decide +kernel
theorem dX3_clear_5 : decode cX3_clear 5 = .ok (.if_icmp .ge 21, 3) := by decide +kernel
theorem dX3_clear_8 : decode cX3_clear 8 = .ok (.aload_n 0, 1) := by decide +kernel
theorem dX3_clear_9 : decode cX3_clear 9 = .ok (.getfield 7, 3) := by decide +kernel
theorem dX3_clear_12 : decode cX3_clear 12 = .ok (.bipush 40, 2) := by decide +kernel
theorem dX3_clear_14 : decode cX3_clear 14 = .ok (.iload_n 1, 1) := by decide +kernel
theorem dX3_clear_15 : decode cX3_clear 15 = .ok (.imul, 1) := by decide +kernel
theorem dX3_clear_16 : decode cX3_clear 16 = .ok (.iload_n 2, 1) := by decide +kernel
theorem dX3_clear_17 : decode cX3_clear 17 = .ok (.iadd, 1) := by decide +kernel
theorem dX3_clear_18 : decode cX3_clear 18 = .ok (.iconst 0, 1) := by decide +kernel
theorem dX3_clear_19 : decode cX3_clear 19 = .ok (.iastore, 1) := by decide +kernel
theorem dX3_clear_20 : decode cX3_clear 20 = .ok (.iinc 2 1, 3) := by decide +kernel
theorem dX3_clear_23 : decode cX3_clear 23 = .ok (.goto (-21), 3) := by decide +kernel
theorem dX3_clear_26 : decode cX3_clear 26 = .ok (.aload_n 0, 1) := by decide +kernel
theorem dX3_clear_27 : decode cX3_clear 27 = .ok (.getfield 13, 3) := by decide +kernel
theorem dX3_clear_30 : decode cX3_clear 30 = .ok (.iload_n 1, 1) := by decide +kernel
theorem dX3_clear_31 : decode cX3_clear 31 = .ok (.iconst 0, 1) := by decide +kernel
theorem dX3_clear_32 : decode cX3_clear 32 = .ok (.iastore, 1) := by decide +kernel
theorem dX3_clear_33 : decode cX3_clear 33 = .ok (.return_, 1) := by decide +kernel
theorem dX3_copy_0 : decode cX3_copy 0 = .ok (.iconst 0, 1) := by decide +kernel
theorem dX3_copy_1 : decode cX3_copy 1 = .ok (.istore_n 3, 1) := by decide +kernel
theorem dX3_copy_2 : decode cX3_copy 2 = .ok (.iload_n 3, 1) := by decide +kernel
theorem dX3_copy_3 : decode cX3_copy 3 = .ok (.bipush 40, 2) := by decide +kernel
theorem dX3_copy_5 : decode cX3_copy 5 = .ok (.if_icmp .ge 31, 3) := by decide +kernel
theorem dX3_copy_8 : decode cX3_copy 8 = .ok (.aload_n 0, 1) := by decide +kernel
theorem dX3_copy_9 : decode cX3_copy 9 = .ok (.getfield 7, 3) := by decide +kernel
theorem dX3_copy_12 : decode cX3_copy 12 = .ok (.bipush 40, 2) := by decide +kernel
theorem dX3_copy_14 : decode cX3_copy 14 = .ok (.iload_n 2, 1) := by decide +kernel
theorem dX3_copy_15 : decode cX3_copy 15 = .ok (.imul, 1) := by decide +kernel
theorem dX3_copy_16 : decode cX3_copy 16 = .ok (.iload_n 3, 1) := by decide +kernel
theorem dX3_copy_17 : decode cX3_copy 17 = .ok (.iadd, 1) := by decide +kernel
theorem dX3_copy_18 : decode cX3_copy 18 = .ok (.aload_n 0, 1) := by decide +kernel
theorem dX3_copy_19 : decode cX3_copy 19 = .ok (.getfield 7, 3) := by decide +kernel
theorem dX3_copy_22 : decode cX3_copy 22 = .ok (.bipush 40, 2) := by decide +kernel
theorem dX3_copy_24 : decode cX3_copy 24 = .ok (.iload_n 1, 1) := by decide +kernel
theorem dX3_copy_25 : decode cX3_copy 25 = .ok (.imul, 1) := by decide +kernel
theorem dX3_copy_26 : decode cX3_copy 26 = .ok (.iload_n 3, 1) := by decide +kernel
theorem dX3_copy_27 : decode cX3_copy 27 = .ok (.iadd, 1) := by decide +kernel
theorem dX3_copy_28 : decode cX3_copy 28 = .ok (.iaload, 1) := by decide +kernel
theorem dX3_copy_29 : decode cX3_copy 29 = .ok (.iastore, 1) := by decide +kernel
theorem dX3_copy_30 : decode cX3_copy 30 = .ok (.iinc 3 1, 3) := by decide +kernel
theorem dX3_copy_33 : decode cX3_copy 33 = .ok (.goto (-31), 3) := by decide +kernel
theorem dX3_copy_36 : decode cX3_copy 36 = .ok (.aload_n 0, 1) := by decide +kernel
theorem dX3_copy_37 : decode cX3_copy 37 = .ok (.getfield 13, 3) := by decide +kernel
theorem dX3_copy_40 : decode cX3_copy 40 = .ok (.iload_n 2, 1) := by decide +kernel
theorem dX3_copy_41 : decode cX3_copy 41 = .ok (.aload_n 0, 1) := by decide +kernel
theorem dX3_copy_42 : decode cX3_copy 42 = .ok (.getfield 13, 3) := by decide +kernel
theorem dX3_copy_45 : decode cX3_copy 45 = .ok (.iload_n 1, 1) := by decide +kernel
theorem dX3_copy_46 : decode cX3_copy 46 = .ok (.iaload, 1) := by decide +kernel
theorem dX3_copy_47 : decode cX3_copy 47 = .ok (.iastore, 1) := by decide +kernel
theorem dX3_copy_48 : decode cX3_copy 48 = .ok (.return_, 1) := by decide +kernel
theorem dX3_count_0 : decode cX3_count 0 = .ok (.bipush 40, 2) := by decide +kernel
theorem dX3_count_2 : decode cX3_count 2 = .ok (.istore_n 2, 1) := by decide +kernel
theorem dX3_count_3 : decode cX3_count 3 = .ok (.iload_n 2, 1) := by decide +kernel
theorem dX3_count_4 : decode cX3_count 4 = .ok (.ifCond .le 25, 3) := by decide +kernel
theorem dX3_count_7 : decode cX3_count 7 = .ok (.aload_n 0, 1) := by decide +kernel
theorem dX3_count_8 : decode cX3_count 8 = .ok (.getfield 7, 3) := by decide +kernel
theorem dX3_count_11 : decode cX3_count 11 = .ok (.bipush 40, 2) := by decide +kernel
theorem dX3_count_13 : decode cX3_count 13 = .ok (.iload_n 1, 1) := by decide +kernel
theorem dX3_count_14 : decode cX3_count 14 = .ok (.imul, 1) := by decide +kernel
theorem dX3_count_15 : decode cX3_count 15 = .ok (.iload_n 2, 1) := by decide +kernel
theorem dX3_count_16 : decode cX3_count 16 = .ok (.iadd, 1) := by decide +kernel
theorem dX3_count_17 : decode cX3_count 17 = .ok (.iconst 1, 1) := by decide +kernel
theorem dX3_count_18 : decode cX3_count 18 = .ok (.isub, 1) := by decide +kernel
theorem dX3_count_19 : decode cX3_count 19 = .ok (.iaload, 1) := by decide +kernel
theorem dX3_count_20 : decode cX3_count 20 = .ok (.ifCond .ne 9, 3) := by decide +kernel
theorem dX3_count_23 : decode cX3_count 23 = .ok (.iinc 2 (-1), 3) := by decide +kernel
theorem dX3_count_26 : decode cX3_count 26 = .ok (.goto (-23), 3) := by decide +kernel
theorem dX3_count_29 : decode cX3_count 29 = .ok (.iload_n 2, 1) := by decide +kernel
theorem dX3_count_30 : decode cX3_count 30 = .ok (.ireturn, 1) := by decide +kernel
set_option maxRecDepth 20000 in
theorem ggX3_multiply_X3_clear : GoodIn wsX3_multiply wsX3_clear := goodIn_r _ [8, 1, 3, 13, 14, 15, 16, 17, 18, 19, 20, 21, 22, 23, 24] (by decide +kernel) (by decide +kernel)
set_option maxRecDepth 20000 in
theorem gX3_multiply_X3_clear : GoodIn wsX3_multiply (wsV RX3 59 RX3 yX3_clear wsX3_clear) := goodIn_app (goodIn_of _ (by decide +kernel)) ggX3_multiply_X3_clear
set_option maxRecDepth 20000 in
theorem ggX3_multiply_X3_count : GoodIn wsX3_multiply wsX3_count := goodIn_r _ [12, 1, 13, 14, 15, 16, 17, 18, 19, 20, 21, 22, 23, 24] (by decide +kernel) (by decide +kernel)
set_option maxRecDepth 20000 in
theorem gX3_multiply_X3_count : GoodIn wsX3_multiply (wsV RX3 63 RX3 yX3_count wsX3_count) := goodIn_app (goodIn_of _ (by decide +kernel)) ggX3_multiply_X3_count
theorem dX3_multiply_0 : decode cX3_multiply 0 = .ok (.aload_n 0, 1) := by decide +kernel
theorem dX3_multiply_1 : decode cX3_multiply 1 = .ok (.bipush 48, 2) := by decide +kernel
theorem dX3_multiply_3 : decode cX3_multiply 3 = .ok (.invokevirtual 59, 3) := by decide +kernel
theorem dX3_multiply_6 : decode cX3_multiply 6 = .ok (.aload_n 0, 1) := by decide +kernel
theorem dX3_multiply_7 : decode cX3_multiply 7 = .ok (.iload_n 2, 1) := by decide +kernel
theorem dX3_multiply_8 : decode cX3_multiply 8 = .ok (.invokevirtual 63, 3) := by decide +kernel
theorem dX3_multiply_11 : decode cX3_multiply 11 = .ok (.istore_n 3, 1) := by decide +kernel
theorem dX3_multiply_12 : decode cX3_multiply 12 = .ok (.iconst 0, 1) := by decide +kernel
theorem dX3_multiply_13 : decode cX3_multiply 13 = .ok (.istore 4, 2) := by decide +kernel
theorem dX3_multiply_15 : decode cX3_multiply 15 = .ok (.iload 4, 2) := by decide +kernel
theorem dX3_multiply_17 : decode cX3_multiply 17 = .ok (.aload_n 0, 1) := by decide +kernel
theorem dX3_multiply_18 : decode cX3_multiply 18 = .ok (.iload_n 1, 1) := by decide +kernel
theorem dX3_multiply_19 : decode cX3_multiply 19 = .ok (.invokevirtual 63, 3) := by decide +kernel
theorem dX3_multiply_22 : decode cX3_multiply 22 = .ok (.if_icmp .ge 120, 3) := by decide +kernel
theorem dX3_multiply_25 : decode cX3_multiply 25 = .ok (.lconst 0, 1) := by decide +kernel
theorem dX3_multiply_26 : decode cX3_multiply 26 = .ok (.lstore 5, 2) := by decide +kernel
theorem dX3_multiply_28 : decode cX3_multiply 28 = .ok (.iconst 0, 1) := by decide +kernel
theorem dX3_multiply_29 : decode cX3_multiply 29 = .ok (.istore 7, 2) := by decide +kernel
theorem dX3_multiply_31 : decode cX3_multiply 31 = .ok (.iload 7, 2) := by decide +kernel
theorem dX3_multiply_33 : decode cX3_multiply 33 = .ok (.iload_n 3, 1) := by decide +kernel
theorem dX3_multiply_34 : decode cX3_multiply 34 = .ok (.if_icmp .lt 10, 3) := by decide +kernel
theorem dX3_multiply_37 : decode cX3_multiply 37 = .ok (.lload 5, 2) := by decide +kernel
theorem dX3_multiply_39 : decode cX3_multiply 39 = .ok (.lconst 0, 1) := by decide +kernel
theorem dX3_multiply_40 : decode cX3_multiply 40 = .ok (.lcmp, 1) := by decide +kernel
theorem dX3_multiply_41 : decode cX3_multiply 41 = .ok (.ifCond .le 95, 3) := by decide +kernel
theorem dX3_multiply_44 : decode cX3_multiply 44 = .ok (.aload_n 0, 1) := by decide +kernel
theorem dX3_multiply_45 : decode cX3_multiply 45 = .ok (.getfield 7, 3) := by decide +kernel
theorem dX3_multiply_48 : decode cX3_multiply 48 = .ok (.bipush 40, 2) := by decide +kernel
theorem dX3_multiply_50 : decode cX3_multiply 50 = .ok (.iload_n 1, 1) := by decide +kernel
theorem dX3_multiply_51 : decode cX3_multiply 51 = .ok (.imul, 1) := by decide +kernel
theorem dX3_multiply_52 : decode cX3_multiply 52 = .ok (.iload 4, 2) := by decide +kernel
theorem dX3_multiply_54 : decode cX3_multiply 54 = .ok (.iadd, 1) := by decide +kernel
theorem dX3_multiply_55 : decode cX3_multiply 55 = .ok (.iaload, 1) := by decide +kernel
theorem dX3_multiply_56 : decode cX3_multiply 56 = .ok (.i2l, 1) := by decide +kernel
theorem dX3_multiply_57 : decode cX3_multiply 57 = .ok (.iload 7, 2) := by decide +kernel
theorem dX3_multiply_59 : decode cX3_multiply 59 = .ok (.iload_n 3, 1) := by decide +kernel
theorem dX3_multiply_60 : decode cX3_multiply 60 = .ok (.if_icmp .ge 18, 3) := by decide +kernel
theorem dX3_multiply_63 : decode cX3_multiply 63 = .ok (.aload_n 0, 1) := by decide +kernel
theorem dX3_multiply_64 : decode cX3_multiply 64 = .ok (.getfield 7, 3) := by decide +kernel
theorem dX3_multiply_67 : decode cX3_multiply 67 = .ok (.bipush 40, 2) := by decide +kernel
theorem dX3_multiply_69 : decode cX3_multiply 69 = .ok (.iload_n 2, 1) := by decide +kernel
theorem dX3_multiply_70 : decode cX3_multiply 70 = .ok (.imul, 1) := by decide +kernel
theorem dX3_multiply_71 : decode cX3_multiply 71 = .ok (.iload 7, 2) := by decide +kernel
theorem dX3_multiply_73 : decode cX3_multiply 73 = .ok (.iadd, 1) := by decide +kernel
theorem dX3_multiply_74 : decode cX3_multiply 74 = .ok (.iaload, 1) := by decide +kernel
theorem dX3_multiply_75 : decode cX3_multiply 75 = .ok (.goto 4, 3) := by decide +kernel
theorem dX3_multiply_78 : decode cX3_multiply 78 = .ok (.iconst 0, 1) := by decide +kernel
theorem dX3_multiply_79 : decode cX3_multiply 79 = .ok (.i2l, 1) := by decide +kernel
theorem dX3_multiply_80 : decode cX3_multiply 80 = .ok (.lmul, 1) := by decide +kernel
theorem dX3_multiply_81 : decode cX3_multiply 81 = .ok (.aload_n 0, 1) := by decide +kernel
theorem dX3_multiply_82 : decode cX3_multiply 82 = .ok (.getfield 7, 3) := by decide +kernel
theorem dX3_multiply_85 : decode cX3_multiply 85 = .ok (.sipush 1920, 3) := by decide +kernel
theorem dX3_multiply_88 : decode cX3_multiply 88 = .ok (.iload 4, 2) := by decide +kernel
theorem dX3_multiply_90 : decode cX3_multiply 90 = .ok (.iadd, 1) := by decide +kernel
theorem dX3_multiply_91 : decode cX3_multiply 91 = .ok (.iload 7, 2) := by decide +kernel
theorem dX3_multiply_93 : decode cX3_multiply 93 = .ok (.iadd, 1) := by decide +kernel
theorem dX3_multiply_94 : decode cX3_multiply 94 = .ok (.iaload, 1) := by decide +kernel
theorem dX3_multiply_95 : decode cX3_multiply 95 = .ok (.i2l, 1) := by decide +kernel
theorem dX3_multiply_96 : decode cX3_multiply 96 = .ok (.ladd, 1) := by decide +kernel
theorem dX3_multiply_97 : decode cX3_multiply 97 = .ok (.lload 5, 2) := by decide +kernel
theorem dX3_multiply_99 : decode cX3_multiply 99 = .ok (.ladd, 1) := by decide +kernel
theorem dX3_multiply_100 : decode cX3_multiply 100 = .ok (.lstore 8, 2) := by decide +kernel
theorem dX3_multiply_102 : decode cX3_multiply 102 = .ok (.aload_n 0, 1) := by decide +kernel
theorem dX3_multiply_103 : decode cX3_multiply 103 = .ok (.getfield 7, 3) := by decide +kernel
theorem dX3_multiply_106 : decode cX3_multiply 106 = .ok (.sipush 1920, 3) := by decide +kernel
theorem dX3_multiply_109 : decode cX3_multiply 109 = .ok (.iload 4, 2) := by decide +kernel
theorem dX3_multiply_111 : decode cX3_multiply 111 = .ok (.iadd, 1) := by decide +kernel
theorem dX3_multiply_112 : decode cX3_multiply 112 = .ok (.iload 7, 2) := by decide +kernel
theorem dX3_multiply_114 : decode cX3_multiply 114 = .ok (.iadd, 1) := by decide +kernel
theorem dX3_multiply_115 : decode cX3_multiply 115 = .ok (.lload 8, 2) := by decide +kernel
theorem dX3_multiply_117 : decode cX3_multiply 117 = .ok (.ldc2_w 67, 3) := by decide +kernel
theorem dX3_multiply_120 : decode cX3_multiply 120 = .ok (.land, 1) := by decide +kernel
theorem dX3_multiply_121 : decode cX3_multiply 121 = .ok (.l2i, 1) := by decide +kernel
theorem dX3_multiply_122 : decode cX3_multiply 122 = .ok (.iastore, 1) := by decide +kernel
theorem dX3_multiply_123 : decode cX3_multiply 123 = .ok (.lload 8, 2) := by decide +kernel
theorem dX3_multiply_125 : decode cX3_multiply 125 = .ok (.bipush 31, 2) := by decide +kernel
theorem dX3_multiply_127 : decode cX3_multiply 127 = .ok (.lshr, 1) := by decide +kernel
theorem dX3_multiply_128 : decode cX3_multiply 128 = .ok (.lstore 5, 2) := by decide +kernel
theorem dX3_multiply_130 : decode cX3_multiply 130 = .ok (.iinc 7 1, 3) := by decide +kernel
theorem dX3_multiply_133 : decode cX3_multiply 133 = .ok (.goto (-102), 3) := by decide +kernel
theorem dX3_multiply_136 : decode cX3_multiply 136 = .ok (.iinc 4 1, 3) := by decide +kernel
theorem dX3_multiply_139 : decode cX3_multiply 139 = .ok (.goto (-124), 3) := by decide +kernel
theorem dX3_multiply_142 : decode cX3_multiply 142 = .ok (.aload_n 0, 1) := by decide +kernel
theorem dX3_multiply_143 : decode cX3_multiply 143 = .ok (.getfield 13, 3) := by decide +kernel
theorem dX3_multiply_146 : decode cX3_multiply 146 = .ok (.bipush 48, 2) := by decide +kernel
theorem dX3_multiply_148 : decode cX3_multiply 148 = .ok (.aload_n 0, 1) := by decide +kernel
theorem dX3_multiply_149 : decode cX3_multiply 149 = .ok (.getfield 13, 3) := by decide +kernel
theorem dX3_multiply_152 : decode cX3_multiply 152 = .ok (.iload_n 1, 1) := by decide +kernel
theorem dX3_multiply_153 : decode cX3_multiply 153 = .ok (.iaload, 1) := by decide +kernel
theorem dX3_multiply_154 : decode cX3_multiply 154 = .ok (.aload_n 0, 1) := by decide +kernel
theorem dX3_multiply_155 : decode cX3_multiply 155 = .ok (.getfield 13, 3) := by decide +kernel
theorem dX3_multiply_158 : decode cX3_multiply 158 = .ok (.iload_n 2, 1) := by decide +kernel
theorem dX3_multiply_159 : decode cX3_multiply 159 = .ok (.iaload, 1) := by decide +kernel
theorem dX3_multiply_160 : decode cX3_multiply 160 = .ok (.imul, 1) := by decide +kernel
end
section
theorem dX3_multiply_161 : decode cX3_multiply 161 = .ok (.iastore, 1) := by decide +kernel
theorem dX3_multiply_162 : decode cX3_multiply 162 = .ok (.return_, 1) := by decide +kernel
theorem dX3_compare_0 : decode cX3_compare 0 = .ok (.bipush 39, 2) := by decide +kernel
theorem dX3_compare_2 : decode cX3_compare 2 = .ok (.istore_n 3, 1) := by decide +kernel
theorem dX3_compare_3 : decode cX3_compare 3 = .ok (.iload_n 3, 1) := by decide +kernel
theorem dX3_compare_4 : decode cX3_compare 4 = .ok (.ifCond .lt 55, 3) := by decide +kernel
theorem dX3_compare_7 : decode cX3_compare 7 = .ok (.aload_n 0, 1) := by decide +kernel
theorem dX3_compare_8 : decode cX3_compare 8 = .ok (.getfield 7, 3) := by decide +kernel
theorem dX3_compare_11 : decode cX3_compare 11 = .ok (.bipush 40, 2) := by decide +kernel
theorem dX3_compare_13 : decode cX3_compare 13 = .ok (.iload_n 1, 1) := by decide +kernel
theorem dX3_compare_14 : decode cX3_compare 14 = .ok (.imul, 1) := by decide +kernel
theorem dX3_compare_15 : decode cX3_compare 15 = .ok (.iload_n 3, 1) := by decide +kernel
theorem dX3_compare_16 : decode cX3_compare 16 = .ok (.iadd, 1) := by decide +kernel
theorem dX3_compare_17 : decode cX3_compare 17 = .ok (.iaload, 1) := by decide +kernel
theorem dX3_compare_18 : decode cX3_compare 18 = .ok (.istore 4, 2) := by decide +kernel
theorem dX3_compare_20 : decode cX3_compare 20 = .ok (.aload_n 0, 1) := by decide +kernel
theorem dX3_compare_21 : decode cX3_compare 21 = .ok (.getfield 7, 3) := by decide +kernel
theorem dX3_compare_24 : decode cX3_compare 24 = .ok (.bipush 40, 2) := by decide +kernel
theorem dX3_compare_26 : decode cX3_compare 26 = .ok (.iload_n 2, 1) := by decide +kernel
theorem dX3_compare_27 : decode cX3_compare 27 = .ok (.imul, 1) := by decide +kernel
theorem dX3_compare_28 : decode cX3_compare 28 = .ok (.iload_n 3, 1) := by decide +kernel
theorem dX3_compare_29 : decode cX3_compare 29 = .ok (.iadd, 1) := by decide +kernel
theorem dX3_compare_30 : decode cX3_compare 30 = .ok (.iaload, 1) := by decide +kernel
theorem dX3_compare_31 : decode cX3_compare 31 = .ok (.istore 5, 2) := by decide +kernel
theorem dX3_compare_33 : decode cX3_compare 33 = .ok (.iload 4, 2) := by decide +kernel
theorem dX3_compare_35 : decode cX3_compare 35 = .ok (.iload 5, 2) := by decide +kernel
theorem dX3_compare_37 : decode cX3_compare 37 = .ok (.if_icmp .eq 16, 3) := by decide +kernel
theorem dX3_compare_40 : decode cX3_compare 40 = .ok (.iload 4, 2) := by decide +kernel
theorem dX3_compare_42 : decode cX3_compare 42 = .ok (.iload 5, 2) := by decide +kernel
theorem dX3_compare_44 : decode cX3_compare 44 = .ok (.if_icmp .ge 7, 3) := by decide +kernel
theorem dX3_compare_47 : decode cX3_compare 47 = .ok (.iconst (-1), 1) := by decide +kernel
theorem dX3_compare_48 : decode cX3_compare 48 = .ok (.goto 4, 3) := by decide +kernel
theorem dX3_compare_51 : decode cX3_compare 51 = .ok (.iconst 1, 1) := by decide +kernel
theorem dX3_compare_52 : decode cX3_compare 52 = .ok (.ireturn, 1) := by decide +kernel
theorem dX3_compare_53 : decode cX3_compare 53 = .ok (.iinc 3 (-1), 3) := by decide +kernel
theorem dX3_compare_56 : decode cX3_compare 56 = .ok (.goto (-53), 3) := by decide +kernel
theorem dX3_compare_59 : decode cX3_compare 59 = .ok (.iconst 0, 1) := by decide +kernel
theorem dX3_compare_60 : decode cX3_compare 60 = .ok (.ireturn, 1) := by decide +kernel
theorem dX3_join_0 : decode cX3_join 0 = .ok (.lconst 0, 1) := by decide +kernel
theorem dX3_join_1 : decode cX3_join 1 = .ok (.lstore 5, 2) := by decide +kernel
theorem dX3_join_3 : decode cX3_join 3 = .ok (.iconst 0, 1) := by decide +kernel
theorem dX3_join_4 : decode cX3_join 4 = .ok (.istore 7, 2) := by decide +kernel
theorem dX3_join_6 : decode cX3_join 6 = .ok (.iload 7, 2) := by decide +kernel
theorem dX3_join_8 : decode cX3_join 8 = .ok (.bipush 40, 2) := by decide +kernel
theorem dX3_join_10 : decode cX3_join 10 = .ok (.if_icmp .ge 89, 3) := by decide +kernel
theorem dX3_join_13 : decode cX3_join 13 = .ok (.aload_n 0, 1) := by decide +kernel
theorem dX3_join_14 : decode cX3_join 14 = .ok (.getfield 7, 3) := by decide +kernel
theorem dX3_join_17 : decode cX3_join 17 = .ok (.bipush 40, 2) := by decide +kernel
theorem dX3_join_19 : decode cX3_join 19 = .ok (.iload_n 1, 1) := by decide +kernel
theorem dX3_join_20 : decode cX3_join 20 = .ok (.imul, 1) := by decide +kernel
theorem dX3_join_21 : decode cX3_join 21 = .ok (.iload 7, 2) := by decide +kernel
theorem dX3_join_23 : decode cX3_join 23 = .ok (.iadd, 1) := by decide +kernel
theorem dX3_join_24 : decode cX3_join 24 = .ok (.iaload, 1) := by decide +kernel
theorem dX3_join_25 : decode cX3_join 25 = .ok (.i2l, 1) := by decide +kernel
theorem dX3_join_26 : decode cX3_join 26 = .ok (.iload_n 3, 1) := by decide +kernel
theorem dX3_join_27 : decode cX3_join 27 = .ok (.ifCond .eq 19, 3) := by decide +kernel
theorem dX3_join_30 : decode cX3_join 30 = .ok (.aload_n 0, 1) := by decide +kernel
theorem dX3_join_31 : decode cX3_join 31 = .ok (.getfield 7, 3) := by decide +kernel
theorem dX3_join_34 : decode cX3_join 34 = .ok (.bipush 40, 2) := by decide +kernel
theorem dX3_join_36 : decode cX3_join 36 = .ok (.iload_n 2, 1) := by decide +kernel
theorem dX3_join_37 : decode cX3_join 37 = .ok (.imul, 1) := by decide +kernel
theorem dX3_join_38 : decode cX3_join 38 = .ok (.iload 7, 2) := by decide +kernel
theorem dX3_join_40 : decode cX3_join 40 = .ok (.iadd, 1) := by decide +kernel
theorem dX3_join_41 : decode cX3_join 41 = .ok (.iaload, 1) := by decide +kernel
theorem dX3_join_42 : decode cX3_join 42 = .ok (.i2l, 1) := by decide +kernel
theorem dX3_join_43 : decode cX3_join 43 = .ok (.goto 17, 3) := by decide +kernel
theorem dX3_join_46 : decode cX3_join 46 = .ok (.aload_n 0, 1) := by decide +kernel
theorem dX3_join_47 : decode cX3_join 47 = .ok (.getfield 7, 3) := by decide +kernel
theorem dX3_join_50 : decode cX3_join 50 = .ok (.bipush 40, 2) := by decide +kernel
theorem dX3_join_52 : decode cX3_join 52 = .ok (.iload_n 2, 1) := by decide +kernel
theorem dX3_join_53 : decode cX3_join 53 = .ok (.imul, 1) := by decide +kernel
theorem dX3_join_54 : decode cX3_join 54 = .ok (.iload 7, 2) := by decide +kernel
theorem dX3_join_56 : decode cX3_join 56 = .ok (.iadd, 1) := by decide +kernel
theorem dX3_join_57 : decode cX3_join 57 = .ok (.iaload, 1) := by decide +kernel
theorem dX3_join_58 : decode cX3_join 58 = .ok (.i2l, 1) := by decide +kernel
theorem dX3_join_59 : decode cX3_join 59 = .ok (.lneg, 1) := by decide +kernel
theorem dX3_join_60 : decode cX3_join 60 = .ok (.ladd, 1) := by decide +kernel
theorem dX3_join_61 : decode cX3_join 61 = .ok (.lload 5, 2) := by decide +kernel
theorem dX3_join_63 : decode cX3_join 63 = .ok (.ladd, 1) := by decide +kernel
theorem dX3_join_64 : decode cX3_join 64 = .ok (.lstore 8, 2) := by decide +kernel
theorem dX3_join_66 : decode cX3_join 66 = .ok (.aload_n 0, 1) := by decide +kernel
theorem dX3_join_67 : decode cX3_join 67 = .ok (.getfield 7, 3) := by decide +kernel
theorem dX3_join_70 : decode cX3_join 70 = .ok (.bipush 40, 2) := by decide +kernel
theorem dX3_join_72 : decode cX3_join 72 = .ok (.iload 4, 2) := by decide +kernel
theorem dX3_join_74 : decode cX3_join 74 = .ok (.imul, 1) := by decide +kernel
theorem dX3_join_75 : decode cX3_join 75 = .ok (.iload 7, 2) := by decide +kernel
theorem dX3_join_77 : decode cX3_join 77 = .ok (.iadd, 1) := by decide +kernel
theorem dX3_join_78 : decode cX3_join 78 = .ok (.lload 8, 2) := by decide +kernel
theorem dX3_join_80 : decode cX3_join 80 = .ok (.ldc2_w 67, 3) := by decide +kernel
theorem dX3_join_83 : decode cX3_join 83 = .ok (.land, 1) := by decide +kernel
theorem dX3_join_84 : decode cX3_join 84 = .ok (.l2i, 1) := by decide +kernel
theorem dX3_join_85 : decode cX3_join 85 = .ok (.iastore, 1) := by decide +kernel
theorem dX3_join_86 : decode cX3_join 86 = .ok (.lload 8, 2) := by decide +kernel
theorem dX3_join_88 : decode cX3_join 88 = .ok (.bipush 31, 2) := by decide +kernel
theorem dX3_join_90 : decode cX3_join 90 = .ok (.lshr, 1) := by decide +kernel
theorem dX3_join_91 : decode cX3_join 91 = .ok (.lstore 5, 2) := by decide +kernel
theorem dX3_join_93 : decode cX3_join 93 = .ok (.iinc 7 1, 3) := by decide +kernel
theorem dX3_join_96 : decode cX3_join 96 = .ok (.goto (-90), 3) := by decide +kernel
theorem dX3_join_99 : decode cX3_join 99 = .ok (.return_, 1) := by decide +kernel
set_option maxRecDepth 20000 in
theorem ggX3_less_X3_join : GoodIn wsX3_less wsX3_join := goodIn_r _ [6, 7, 8, 13, 14, 15, 16, 17, 18, 19, 20, 21, 22, 23, 24] (by decide +kernel) (by decide +kernel)
set_option maxRecDepth 20000 in
theorem gX3_less_X3_join : GoodIn wsX3_less (wsV RX3 69 RX3 yX3_join wsX3_join) := goodIn_app (goodIn_of _ (by decide +kernel)) ggX3_less_X3_join
set_option maxRecDepth 20000 in
theorem ggX3_less_X3_compare : GoodIn wsX3_less wsX3_compare := goodIn_r _ [12, 7, 13, 14, 15, 16, 17, 18, 19, 20, 21, 22, 23, 24] (by decide +kernel) (by decide +kernel)
set_option maxRecDepth 20000 in
theorem gX3_less_X3_compare : GoodIn wsX3_less (wsV RX3 73 RX3 yX3_compare wsX3_compare) := goodIn_app (goodIn_of _ (by decide +kernel)) ggX3_less_X3_compare
theorem dX3_less_0 : decode cX3_less 0 = .ok (.aload_n 0, 1) := by decide +kernel
theorem dX3_less_1 : decode cX3_less 1 = .ok (.getfield 13, 3) := by decide +kernel
theorem dX3_less_4 : decode cX3_less 4 = .ok (.bipush 48, 2) := by decide +kernel
theorem dX3_less_6 : decode cX3_less 6 = .ok (.iaload, 1) := by decide +kernel
theorem dX3_less_7 : decode cX3_less 7 = .ok (.ifCond .ne 4, 3) := by decide +kernel
theorem dX3_less_10 : decode cX3_less 10 = .ok (.return_, 1) := by decide +kernel
theorem dX3_less_11 : decode cX3_less 11 = .ok (.aload_n 0, 1) := by decide +kernel
theorem dX3_less_12 : decode cX3_less 12 = .ok (.getfield 13, 3) := by decide +kernel
theorem dX3_less_15 : decode cX3_less 15 = .ok (.bipush 48, 2) := by decide +kernel
theorem dX3_less_17 : decode cX3_less 17 = .ok (.iaload, 1) := by decide +kernel
theorem dX3_less_18 : decode cX3_less 18 = .ok (.ineg, 1) := by decide +kernel
theorem dX3_less_19 : decode cX3_less 19 = .ok (.istore_n 1, 1) := by decide +kernel
theorem dX3_less_20 : decode cX3_less 20 = .ok (.aload_n 0, 1) := by decide +kernel
theorem dX3_less_21 : decode cX3_less 21 = .ok (.getfield 13, 3) := by decide +kernel
theorem dX3_less_24 : decode cX3_less 24 = .ok (.bipush 49, 2) := by decide +kernel
theorem dX3_less_26 : decode cX3_less 26 = .ok (.iaload, 1) := by decide +kernel
theorem dX3_less_27 : decode cX3_less 27 = .ok (.ifCond .eq 14, 3) := by decide +kernel
theorem dX3_less_30 : decode cX3_less 30 = .ok (.aload_n 0, 1) := by decide +kernel
theorem dX3_less_31 : decode cX3_less 31 = .ok (.getfield 13, 3) := by decide +kernel
theorem dX3_less_34 : decode cX3_less 34 = .ok (.bipush 49, 2) := by decide +kernel
theorem dX3_less_36 : decode cX3_less 36 = .ok (.iaload, 1) := by decide +kernel
theorem dX3_less_37 : decode cX3_less 37 = .ok (.iload_n 1, 1) := by decide +kernel
theorem dX3_less_38 : decode cX3_less 38 = .ok (.if_icmp .ne 23, 3) := by decide +kernel
theorem dX3_less_41 : decode cX3_less 41 = .ok (.aload_n 0, 1) := by decide +kernel
theorem dX3_less_42 : decode cX3_less 42 = .ok (.bipush 49, 2) := by decide +kernel
theorem dX3_less_44 : decode cX3_less 44 = .ok (.bipush 48, 2) := by decide +kernel
theorem dX3_less_46 : decode cX3_less 46 = .ok (.iconst 1, 1) := by decide +kernel
theorem dX3_less_47 : decode cX3_less 47 = .ok (.bipush 49, 2) := by decide +kernel
theorem dX3_less_49 : decode cX3_less 49 = .ok (.invokevirtual 69, 3) := by decide +kernel
theorem dX3_less_52 : decode cX3_less 52 = .ok (.aload_n 0, 1) := by decide +kernel
theorem dX3_less_53 : decode cX3_less 53 = .ok (.getfield 13, 3) := by decide +kernel
theorem dX3_less_56 : decode cX3_less 56 = .ok (.bipush 49, 2) := by decide +kernel
theorem dX3_less_58 : decode cX3_less 58 = .ok (.iload_n 1, 1) := by decide +kernel
theorem dX3_less_59 : decode cX3_less 59 = .ok (.iastore, 1) := by decide +kernel
theorem dX3_less_60 : decode cX3_less 60 = .ok (.return_, 1) := by decide +kernel
theorem dX3_less_61 : decode cX3_less 61 = .ok (.aload_n 0, 1) := by decide +kernel
theorem dX3_less_62 : decode cX3_less 62 = .ok (.bipush 49, 2) := by decide +kernel
theorem dX3_less_64 : decode cX3_less 64 = .ok (.bipush 48, 2) := by decide +kernel
theorem dX3_less_66 : decode cX3_less 66 = .ok (.invokevirtual 73, 3) := by decide +kernel
theorem dX3_less_69 : decode cX3_less 69 = .ok (.istore_n 2, 1) := by decide +kernel
theorem dX3_less_70 : decode cX3_less 70 = .ok (.aload_n 0, 1) := by decide +kernel
theorem dX3_less_71 : decode cX3_less 71 = .ok (.getfield 13, 3) := by decide +kernel
theorem dX3_less_74 : decode cX3_less 74 = .ok (.bipush 49, 2) := by decide +kernel
theorem dX3_less_76 : decode cX3_less 76 = .ok (.iaload, 1) := by decide +kernel
theorem dX3_less_77 : decode cX3_less 77 = .ok (.istore_n 3, 1) := by decide +kernel
theorem dX3_less_78 : decode cX3_less 78 = .ok (.iload_n 2, 1) := by decide +kernel
theorem dX3_less_79 : decode cX3_less 79 = .ok (.ifCond .lt 17, 3) := by decide +kernel
theorem dX3_less_82 : decode cX3_less 82 = .ok (.aload_n 0, 1) := by decide +kernel
theorem dX3_less_83 : decode cX3_less 83 = .ok (.bipush 49, 2) := by decide +kernel
theorem dX3_less_85 : decode cX3_less 85 = .ok (.bipush 48, 2) := by decide +kernel
theorem dX3_less_87 : decode cX3_less 87 = .ok (.iconst 0, 1) := by decide +kernel
theorem dX3_less_88 : decode cX3_less 88 = .ok (.bipush 49, 2) := by decide +kernel
theorem dX3_less_90 : decode cX3_less 90 = .ok (.invokevirtual 69, 3) := by decide +kernel
theorem dX3_less_93 : decode cX3_less 93 = .ok (.goto 14, 3) := by decide +kernel
theorem dX3_less_96 : decode cX3_less 96 = .ok (.aload_n 0, 1) := by decide +kernel
theorem dX3_less_97 : decode cX3_less 97 = .ok (.bipush 48, 2) := by decide +kernel
theorem dX3_less_99 : decode cX3_less 99 = .ok (.bipush 49, 2) := by decide +kernel
theorem dX3_less_101 : decode cX3_less 101 = .ok (.iconst 0, 1) := by decide +kernel
theorem dX3_less_102 : decode cX3_less 102 = .ok (.bipush 49, 2) := by decide +kernel
theorem dX3_less_104 : decode cX3_less 104 = .ok (.invokevirtual 69, 3) := by decide +kernel
theorem dX3_less_107 : decode cX3_less 107 = .ok (.aload_n 0, 1) := by decide +kernel
theorem dX3_less_108 : decode cX3_less 108 = .ok (.getfield 13, 3) := by decide +kernel
theorem dX3_less_111 : decode cX3_less 111 = .ok (.bipush 49, 2) := by decide +kernel
theorem dX3_less_113 : decode cX3_less 113 = .ok (.iload_n 2, 1) := by decide +kernel
theorem dX3_less_114 : decode cX3_less 114 = .ok (.ifCond .ne 7, 3) := by decide +kernel
theorem dX3_less_117 : decode cX3_less 117 = .ok (.iconst 0, 1) := by decide +kernel
theorem dX3_less_118 : decode cX3_less 118 = .ok (.goto 12, 3) := by decide +kernel
theorem dX3_less_121 : decode cX3_less 121 = .ok (.iload_n 2, 1) := by decide +kernel
theorem dX3_less_122 : decode cX3_less 122 = .ok (.ifCond .le 7, 3) := by decide +kernel
theorem dX3_less_125 : decode cX3_less 125 = .ok (.iload_n 3, 1) := by decide +kernel
theorem dX3_less_126 : decode cX3_less 126 = .ok (.goto 4, 3) := by decide +kernel
theorem dX3_less_129 : decode cX3_less 129 = .ok (.iload_n 1, 1) := by decide +kernel
theorem dX3_less_130 : decode cX3_less 130 = .ok (.iastore, 1) := by decide +kernel
theorem dX3_less_131 : decode cX3_less 131 = .ok (.return_, 1) := by decide +kernel
theorem dX3_zeros_0 : decode cX3_zeros 0 = .ok (.iconst 0, 1) := by decide +kernel
theorem dX3_zeros_1 : decode cX3_zeros 1 = .ok (.istore_n 2, 1) := by decide +kernel
theorem dX3_zeros_2 : decode cX3_zeros 2 = .ok (.aload_n 0, 1) := by decide +kernel
theorem dX3_zeros_3 : decode cX3_zeros 3 = .ok (.getfield 7, 3) := by decide +kernel
theorem dX3_zeros_6 : decode cX3_zeros 6 = .ok (.bipush 40, 2) := by decide +kernel
theorem dX3_zeros_8 : decode cX3_zeros 8 = .ok (.iload_n 1, 1) := by decide +kernel
theorem dX3_zeros_9 : decode cX3_zeros 9 = .ok (.imul, 1) := by decide +kernel
theorem dX3_zeros_10 : decode cX3_zeros 10 = .ok (.iload_n 2, 1) := by decide +kernel
theorem dX3_zeros_11 : decode cX3_zeros 11 = .ok (.bipush 31, 2) := by decide +kernel
theorem dX3_zeros_13 : decode cX3_zeros 13 = .ok (.idiv, 1) := by decide +kernel
theorem dX3_zeros_14 : decode cX3_zeros 14 = .ok (.iadd, 1) := by decide +kernel
theorem dX3_zeros_15 : decode cX3_zeros 15 = .ok (.iaload, 1) := by decide +kernel
theorem dX3_zeros_16 : decode cX3_zeros 16 = .ok (.iload_n 2, 1) := by decide +kernel
theorem dX3_zeros_17 : decode cX3_zeros 17 = .ok (.bipush 31, 2) := by decide +kernel
theorem dX3_zeros_19 : decode cX3_zeros 19 = .ok (.irem, 1) := by decide +kernel
theorem dX3_zeros_20 : decode cX3_zeros 20 = .ok (.ishr, 1) := by decide +kernel
theorem dX3_zeros_21 : decode cX3_zeros 21 = .ok (.iconst 1, 1) := by decide +kernel
theorem dX3_zeros_22 : decode cX3_zeros 22 = .ok (.iand, 1) := by decide +kernel
theorem dX3_zeros_23 : decode cX3_zeros 23 = .ok (.ifCond .ne 9, 3) := by decide +kernel
theorem dX3_zeros_26 : decode cX3_zeros 26 = .ok (.iinc 2 1, 3) := by decide +kernel
theorem dX3_zeros_29 : decode cX3_zeros 29 = .ok (.goto (-27), 3) := by decide +kernel
theorem dX3_zeros_32 : decode cX3_zeros 32 = .ok (.iload_n 2, 1) := by decide +kernel
theorem dX3_zeros_33 : decode cX3_zeros 33 = .ok (.ireturn, 1) := by decide +kernel
theorem dX3_shift_0 : decode cX3_shift 0 = .ok (.iconst 0, 1) := by decide +kernel
theorem dX3_shift_1 : decode cX3_shift 1 = .ok (.istore 4, 2) := by decide +kernel
theorem dX3_shift_3 : decode cX3_shift 3 = .ok (.iload 4, 2) := by decide +kernel
theorem dX3_shift_5 : decode cX3_shift 5 = .ok (.bipush 40, 2) := by decide +kernel
theorem dX3_shift_7 : decode cX3_shift 7 = .ok (.if_icmp .ge 104, 3) := by decide +kernel
theorem dX3_shift_10 : decode cX3_shift 10 = .ok (.iload 4, 2) := by decide +kernel
theorem dX3_shift_12 : decode cX3_shift 12 = .ok (.iload_n 2, 1) := by decide +kernel
theorem dX3_shift_13 : decode cX3_shift 13 = .ok (.bipush 31, 2) := by decide +kernel
theorem dX3_shift_15 : decode cX3_shift 15 = .ok (.idiv, 1) := by decide +kernel
theorem dX3_shift_16 : decode cX3_shift 16 = .ok (.iadd, 1) := by decide +kernel
theorem dX3_shift_17 : decode cX3_shift 17 = .ok (.istore 5, 2) := by decide +kernel
theorem dX3_shift_19 : decode cX3_shift 19 = .ok (.iload 5, 2) := by decide +kernel
theorem dX3_shift_21 : decode cX3_shift 21 = .ok (.bipush 40, 2) := by decide +kernel
theorem dX3_shift_23 : decode cX3_shift 23 = .ok (.if_icmp .ge 19, 3) := by decide +kernel
theorem dX3_shift_26 : decode cX3_shift 26 = .ok (.aload_n 0, 1) := by decide +kernel
theorem dX3_shift_27 : decode cX3_shift 27 = .ok (.getfield 7, 3) := by decide +kernel
theorem dX3_shift_30 : decode cX3_shift 30 = .ok (.bipush 40, 2) := by decide +kernel
theorem dX3_shift_32 : decode cX3_shift 32 = .ok (.iload_n 1, 1) := by decide +kernel
theorem dX3_shift_33 : decode cX3_shift 33 = .ok (.imul, 1) := by decide +kernel
theorem dX3_shift_34 : decode cX3_shift 34 = .ok (.iload 5, 2) := by decide +kernel
theorem dX3_shift_36 : decode cX3_shift 36 = .ok (.iadd, 1) := by decide +kernel
theorem dX3_shift_37 : decode cX3_shift 37 = .ok (.iaload, 1) := by decide +kernel
theorem dX3_shift_38 : decode cX3_shift 38 = .ok (.i2l, 1) := by decide +kernel
theorem dX3_shift_39 : decode cX3_shift 39 = .ok (.goto 4, 3) := by decide +kernel
theorem dX3_shift_42 : decode cX3_shift 42 = .ok (.lconst 0, 1) := by decide +kernel
theorem dX3_shift_43 : decode cX3_shift 43 = .ok (.lstore 6, 2) := by decide +kernel
theorem dX3_shift_45 : decode cX3_shift 45 = .ok (.iload 5, 2) := by decide +kernel
theorem dX3_shift_47 : decode cX3_shift 47 = .ok (.iconst 1, 1) := by decide +kernel
theorem dX3_shift_48 : decode cX3_shift 48 = .ok (.iadd, 1) := by decide +kernel
theorem dX3_shift_49 : decode cX3_shift 49 = .ok (.bipush 40, 2) := by decide +kernel
theorem dX3_shift_51 : decode cX3_shift 51 = .ok (.if_icmp .ge 21, 3) := by decide +kernel
theorem dX3_shift_54 : decode cX3_shift 54 = .ok (.aload_n 0, 1) := by decide +kernel
theorem dX3_shift_55 : decode cX3_shift 55 = .ok (.getfield 7, 3) := by decide +kernel
theorem dX3_shift_58 : decode cX3_shift 58 = .ok (.bipush 40, 2) := by decide +kernel
theorem dX3_shift_60 : decode cX3_shift 60 = .ok (.iload_n 1, 1) := by decide +kernel
theorem dX3_shift_61 : decode cX3_shift 61 = .ok (.imul, 1) := by decide +kernel
theorem dX3_shift_62 : decode cX3_shift 62 = .ok (.iload 5, 2) := by decide +kernel
theorem dX3_shift_64 : decode cX3_shift 64 = .ok (.iadd, 1) := by decide +kernel
theorem dX3_shift_65 : decode cX3_shift 65 = .ok (.iconst 1, 1) := by decide +kernel
theorem dX3_shift_66 : decode cX3_shift 66 = .ok (.iadd, 1) := by decide +kernel
theorem dX3_shift_67 : decode cX3_shift 67 = .ok (.iaload, 1) := by decide +kernel
theorem dX3_shift_68 : decode cX3_shift 68 = .ok (.i2l, 1) := by decide +kernel
theorem dX3_shift_69 : decode cX3_shift 69 = .ok (.goto 4, 3) := by decide +kernel
theorem dX3_shift_72 : decode cX3_shift 72 = .ok (.lconst 0, 1) := by decide +kernel
theorem dX3_shift_73 : decode cX3_shift 73 = .ok (.lstore 8, 2) := by decide +kernel
theorem dX3_shift_75 : decode cX3_shift 75 = .ok (.aload_n 0, 1) := by decide +kernel
theorem dX3_shift_76 : decode cX3_shift 76 = .ok (.getfield 7, 3) := by decide +kernel
theorem dX3_shift_79 : decode cX3_shift 79 = .ok (.bipush 40, 2) := by decide +kernel
theorem dX3_shift_81 : decode cX3_shift 81 = .ok (.iload_n 3, 1) := by decide +kernel
theorem dX3_shift_82 : decode cX3_shift 82 = .ok (.imul, 1) := by decide +kernel
theorem dX3_shift_83 : decode cX3_shift 83 = .ok (.iload 4, 2) := by decide +kernel
theorem dX3_shift_85 : decode cX3_shift 85 = .ok (.iadd, 1) := by decide +kernel
theorem dX3_shift_86 : decode cX3_shift 86 = .ok (.lload 6, 2) := by decide +kernel
theorem dX3_shift_88 : decode cX3_shift 88 = .ok (.lload 8, 2) := by decide +kernel
theorem dX3_shift_90 : decode cX3_shift 90 = .ok (.bipush 31, 2) := by decide +kernel
theorem dX3_shift_92 : decode cX3_shift 92 = .ok (.lshl, 1) := by decide +kernel
theorem dX3_shift_93 : decode cX3_shift 93 = .ok (.lor, 1) := by decide +kernel
theorem dX3_shift_94 : decode cX3_shift 94 = .ok (.iload_n 2, 1) := by decide +kernel
theorem dX3_shift_95 : decode cX3_shift 95 = .ok (.bipush 31, 2) := by decide +kernel
theorem dX3_shift_97 : decode cX3_shift 97 = .ok (.irem, 1) := by decide +kernel
theorem dX3_shift_98 : decode cX3_shift 98 = .ok (.lshr, 1) := by decide +kernel
theorem dX3_shift_99 : decode cX3_shift 99 = .ok (.ldc2_w 67, 3) := by decide +kernel
theorem dX3_shift_102 : decode cX3_shift 102 = .ok (.land, 1) := by decide +kernel
theorem dX3_shift_103 : decode cX3_shift 103 = .ok (.l2i, 1) := by decide +kernel
theorem dX3_shift_104 : decode cX3_shift 104 = .ok (.iastore, 1) := by decide +kernel
theorem dX3_shift_105 : decode cX3_shift 105 = .ok (.iinc 4 1, 3) := by decide +kernel
theorem dX3_shift_108 : decode cX3_shift 108 = .ok (.goto (-105), 3) := by decide +kernel
theorem dX3_shift_111 : decode cX3_shift 111 = .ok (.return_, 1) := by decide +kernel
set_option maxRecDepth 20000 in
theorem ggX3_divide_X3_clear : GoodIn wsX3_divide wsX3_clear := goodIn_r _ [9, 2, 1, 18, 19, 20, 21, 22, 23, 24, 25, 26, 27, 28, 29] (by decide +kernel) (by decide +kernel)
set_option maxRecDepth 20000 in
theorem gX3_divide_X3_clear : GoodIn wsX3_divide (wsV RX3 59 RX3 yX3_clear wsX3_clear) := goodIn_app (goodIn_of _ (by decide +kernel)) ggX3_divide_X3_clear
set_option maxRecDepth 20000 in
theorem ggX3_divide_X3_zeros : GoodIn wsX3_divide wsX3_zeros := goodIn_r _ [13, 2, 18, 19, 20, 21, 22, 23, 24, 25, 26, 27, 28, 29] (by decide +kernel) (by decide +kernel)
set_option maxRecDepth 20000 in
theorem gX3_divide_X3_zeros : GoodIn wsX3_divide (wsV RX3 76 RX3 yX3_zeros wsX3_zeros) := goodIn_app (goodIn_of _ (by decide +kernel)) ggX3_divide_X3_zeros
set_option maxRecDepth 20000 in
theorem ggX3_divide_X3_shift : GoodIn wsX3_divide wsX3_shift := goodIn_r _ [17, 2, 4, 18, 19, 20, 21, 22, 23, 24, 25, 26, 27, 28, 29] (by decide +kernel) (by decide +kernel)
set_option maxRecDepth 20000 in
theorem gX3_divide_X3_shift : GoodIn wsX3_divide (wsV RX3 79 RX3 yX3_shift wsX3_shift) := goodIn_app (goodIn_of _ (by decide +kernel)) ggX3_divide_X3_shift
theorem dX3_divide_0 : decode cX3_divide 0 = .ok (.aload_n 0, 1) := by decide +kernel
theorem dX3_divide_1 : decode cX3_divide 1 = .ok (.bipush 52, 2) := by decide +kernel
theorem dX3_divide_3 : decode cX3_divide 3 = .ok (.invokevirtual 59, 3) := by decide +kernel
theorem dX3_divide_6 : decode cX3_divide 6 = .ok (.aload_n 0, 1) := by decide +kernel
theorem dX3_divide_7 : decode cX3_divide 7 = .ok (.getfield 13, 3) := by decide +kernel
theorem dX3_divide_10 : decode cX3_divide 10 = .ok (.bipush 49, 2) := by decide +kernel
theorem dX3_divide_12 : decode cX3_divide 12 = .ok (.iaload, 1) := by decide +kernel
theorem dX3_divide_13 : decode cX3_divide 13 = .ok (.ifCond .ne 4, 3) := by decide +kernel
theorem dX3_divide_16 : decode cX3_divide 16 = .ok (.return_, 1) := by decide +kernel
theorem dX3_divide_17 : decode cX3_divide 17 = .ok (.aload_n 0, 1) := by decide +kernel
theorem dX3_divide_18 : decode cX3_divide 18 = .ok (.iload_n 1, 1) := by decide +kernel
theorem dX3_divide_19 : decode cX3_divide 19 = .ok (.invokevirtual 76, 3) := by decide +kernel
theorem dX3_divide_22 : decode cX3_divide 22 = .ok (.istore_n 2, 1) := by decide +kernel
theorem dX3_divide_23 : decode cX3_divide 23 = .ok (.aload_n 0, 1) := by decide +kernel
theorem dX3_divide_24 : decode cX3_divide 24 = .ok (.bipush 49, 2) := by decide +kernel
theorem dX3_divide_26 : decode cX3_divide 26 = .ok (.iload_n 2, 1) := by decide +kernel
theorem dX3_divide_27 : decode cX3_divide 27 = .ok (.bipush 50, 2) := by decide +kernel
theorem dX3_divide_29 : decode cX3_divide 29 = .ok (.invokevirtual 79, 3) := by decide +kernel
theorem dX3_divide_32 : decode cX3_divide 32 = .ok (.aload_n 0, 1) := by decide +kernel
theorem dX3_divide_33 : decode cX3_divide 33 = .ok (.iload_n 1, 1) := by decide +kernel
theorem dX3_divide_34 : decode cX3_divide 34 = .ok (.iload_n 2, 1) := by decide +kernel
theorem dX3_divide_35 : decode cX3_divide 35 = .ok (.bipush 51, 2) := by decide +kernel
theorem dX3_divide_37 : decode cX3_divide 37 = .ok (.invokevirtual 79, 3) := by decide +kernel
theorem dX3_divide_40 : decode cX3_divide 40 = .ok (.aload_n 0, 1) := by decide +kernel
theorem dX3_divide_41 : decode cX3_divide 41 = .ok (.getfield 7, 3) := by decide +kernel
theorem dX3_divide_44 : decode cX3_divide 44 = .ok (.sipush 2040, 3) := by decide +kernel
theorem dX3_divide_47 : decode cX3_divide 47 = .ok (.iaload, 1) := by decide +kernel
theorem dX3_divide_48 : decode cX3_divide 48 = .ok (.i2l, 1) := by decide +kernel
theorem dX3_divide_49 : decode cX3_divide 49 = .ok (.lstore_n 3, 1) := by decide +kernel
theorem dX3_divide_50 : decode cX3_divide 50 = .ok (.lload_n 3, 1) := by decide +kernel
theorem dX3_divide_51 : decode cX3_divide 51 = .ok (.lstore 5, 2) := by decide +kernel
theorem dX3_divide_53 : decode cX3_divide 53 = .ok (.iconst 0, 1) := by decide +kernel
theorem dX3_divide_54 : decode cX3_divide 54 = .ok (.istore 7, 2) := by decide +kernel
theorem dX3_divide_56 : decode cX3_divide 56 = .ok (.iload 7, 2) := by decide +kernel
theorem dX3_divide_58 : decode cX3_divide 58 = .ok (.iconst 5, 1) := by decide +kernel
theorem dX3_divide_59 : decode cX3_divide 59 = .ok (.if_icmp .ge 30, 3) := by decide +kernel
theorem dX3_divide_62 : decode cX3_divide 62 = .ok (.lload 5, 2) := by decide +kernel
theorem dX3_divide_64 : decode cX3_divide 64 = .ok (.ldc2_w 83, 3) := by decide +kernel
theorem dX3_divide_67 : decode cX3_divide 67 = .ok (.lload_n 3, 1) := by decide +kernel
theorem dX3_divide_68 : decode cX3_divide 68 = .ok (.lload 5, 2) := by decide +kernel
theorem dX3_divide_70 : decode cX3_divide 70 = .ok (.lmul, 1) := by decide +kernel
theorem dX3_divide_71 : decode cX3_divide 71 = .ok (.lsub, 1) := by decide +kernel
theorem dX3_divide_72 : decode cX3_divide 72 = .ok (.ldc2_w 67, 3) := by decide +kernel
theorem dX3_divide_75 : decode cX3_divide 75 = .ok (.land, 1) := by decide +kernel
theorem dX3_divide_76 : decode cX3_divide 76 = .ok (.lmul, 1) := by decide +kernel
theorem dX3_divide_77 : decode cX3_divide 77 = .ok (.ldc2_w 67, 3) := by decide +kernel
theorem dX3_divide_80 : decode cX3_divide 80 = .ok (.land, 1) := by decide +kernel
theorem dX3_divide_81 : decode cX3_divide 81 = .ok (.lstore 5, 2) := by decide +kernel
theorem dX3_divide_83 : decode cX3_divide 83 = .ok (.iinc 7 1, 3) := by decide +kernel
theorem dX3_divide_86 : decode cX3_divide 86 = .ok (.goto (-30), 3) := by decide +kernel
theorem dX3_divide_89 : decode cX3_divide 89 = .ok (.iconst 0, 1) := by decide +kernel
theorem dX3_divide_90 : decode cX3_divide 90 = .ok (.istore 7, 2) := by decide +kernel
theorem dX3_divide_92 : decode cX3_divide 92 = .ok (.iload 7, 2) := by decide +kernel
theorem dX3_divide_94 : decode cX3_divide 94 = .ok (.bipush 40, 2) := by decide +kernel
theorem dX3_divide_96 : decode cX3_divide 96 = .ok (.if_icmp .ge 151, 3) := by decide +kernel
theorem dX3_divide_99 : decode cX3_divide 99 = .ok (.aload_n 0, 1) := by decide +kernel
theorem dX3_divide_100 : decode cX3_divide 100 = .ok (.getfield 7, 3) := by decide +kernel
theorem dX3_divide_103 : decode cX3_divide 103 = .ok (.sipush 2000, 3) := by decide +kernel
theorem dX3_divide_106 : decode cX3_divide 106 = .ok (.iload 7, 2) := by decide +kernel
theorem dX3_divide_108 : decode cX3_divide 108 = .ok (.iadd, 1) := by decide +kernel
theorem dX3_divide_109 : decode cX3_divide 109 = .ok (.iaload, 1) := by decide +kernel
theorem dX3_divide_110 : decode cX3_divide 110 = .ok (.i2l, 1) := by decide +kernel
theorem dX3_divide_111 : decode cX3_divide 111 = .ok (.lload 5, 2) := by decide +kernel
theorem dX3_divide_113 : decode cX3_divide 113 = .ok (.lmul, 1) := by decide +kernel
theorem dX3_divide_114 : decode cX3_divide 114 = .ok (.ldc2_w 67, 3) := by decide +kernel
theorem dX3_divide_117 : decode cX3_divide 117 = .ok (.land, 1) := by decide +kernel
theorem dX3_divide_118 : decode cX3_divide 118 = .ok (.lstore 8, 2) := by decide +kernel
theorem dX3_divide_120 : decode cX3_divide 120 = .ok (.aload_n 0, 1) := by decide +kernel
theorem dX3_divide_121 : decode cX3_divide 121 = .ok (.getfield 7, 3) := by decide +kernel
theorem dX3_divide_124 : decode cX3_divide 124 = .ok (.sipush 2080, 3) := by decide +kernel
theorem dX3_divide_127 : decode cX3_divide 127 = .ok (.iload 7, 2) := by decide +kernel
theorem dX3_divide_129 : decode cX3_divide 129 = .ok (.iadd, 1) := by decide +kernel
theorem dX3_divide_130 : decode cX3_divide 130 = .ok (.lload 8, 2) := by decide +kernel
theorem dX3_divide_132 : decode cX3_divide 132 = .ok (.l2i, 1) := by decide +kernel
theorem dX3_divide_133 : decode cX3_divide 133 = .ok (.iastore, 1) := by decide +kernel
theorem dX3_divide_134 : decode cX3_divide 134 = .ok (.lconst 0, 1) := by decide +kernel
theorem dX3_divide_135 : decode cX3_divide 135 = .ok (.lstore 10, 2) := by decide +kernel
theorem dX3_divide_137 : decode cX3_divide 137 = .ok (.iconst 0, 1) := by decide +kernel
theorem dX3_divide_138 : decode cX3_divide 138 = .ok (.istore 12, 2) := by decide +kernel
theorem dX3_divide_140 : decode cX3_divide 140 = .ok (.iload 7, 2) := by decide +kernel
theorem dX3_divide_142 : decode cX3_divide 142 = .ok (.iload 12, 2) := by decide +kernel
theorem dX3_divide_144 : decode cX3_divide 144 = .ok (.iadd, 1) := by decide +kernel
theorem dX3_divide_145 : decode cX3_divide 145 = .ok (.bipush 40, 2) := by decide +kernel
theorem dX3_divide_147 : decode cX3_divide 147 = .ok (.if_icmp .ge 94, 3) := by decide +kernel
theorem dX3_divide_150 : decode cX3_divide 150 = .ok (.lload 8, 2) := by decide +kernel
theorem dX3_divide_152 : decode cX3_divide 152 = .ok (.aload_n 0, 1) := by decide +kernel
theorem dX3_divide_153 : decode cX3_divide 153 = .ok (.getfield 7, 3) := by decide +kernel
theorem dX3_divide_156 : decode cX3_divide 156 = .ok (.sipush 2040, 3) := by decide +kernel
theorem dX3_divide_159 : decode cX3_divide 159 = .ok (.iload 12, 2) := by decide +kernel
theorem dX3_divide_161 : decode cX3_divide 161 = .ok (.iadd, 1) := by decide +kernel
theorem dX3_divide_162 : decode cX3_divide 162 = .ok (.iaload, 1) := by decide +kernel
theorem dX3_divide_163 : decode cX3_divide 163 = .ok (.i2l, 1) := by decide +kernel
theorem dX3_divide_164 : decode cX3_divide 164 = .ok (.lmul, 1) := by decide +kernel
theorem dX3_divide_165 : decode cX3_divide 165 = .ok (.lload 10, 2) := by decide +kernel
theorem dX3_divide_167 : decode cX3_divide 167 = .ok (.ladd, 1) := by decide +kernel
theorem dX3_divide_168 : decode cX3_divide 168 = .ok (.lstore 13, 2) := by decide +kernel
theorem dX3_divide_170 : decode cX3_divide 170 = .ok (.aload_n 0, 1) := by decide +kernel
theorem dX3_divide_171 : decode cX3_divide 171 = .ok (.getfield 7, 3) := by decide +kernel
theorem dX3_divide_174 : decode cX3_divide 174 = .ok (.sipush 2000, 3) := by decide +kernel
theorem dX3_divide_177 : decode cX3_divide 177 = .ok (.iload 7, 2) := by decide +kernel
theorem dX3_divide_179 : decode cX3_divide 179 = .ok (.iadd, 1) := by decide +kernel
theorem dX3_divide_180 : decode cX3_divide 180 = .ok (.iload 12, 2) := by decide +kernel
theorem dX3_divide_182 : decode cX3_divide 182 = .ok (.iadd, 1) := by decide +kernel
theorem dX3_divide_183 : decode cX3_divide 183 = .ok (.iaload, 1) := by decide +kernel
theorem dX3_divide_184 : decode cX3_divide 184 = .ok (.i2l, 1) := by decide +kernel
theorem dX3_divide_185 : decode cX3_divide 185 = .ok (.lload 13, 2) := by decide +kernel
theorem dX3_divide_187 : decode cX3_divide 187 = .ok (.ldc2_w 67, 3) := by decide +kernel
theorem dX3_divide_190 : decode cX3_divide 190 = .ok (.land, 1) := by decide +kernel
theorem dX3_divide_191 : decode cX3_divide 191 = .ok (.lsub, 1) := by decide +kernel
theorem dX3_divide_192 : decode cX3_divide 192 = .ok (.lstore 15, 2) := by decide +kernel
theorem dX3_divide_194 : decode cX3_divide 194 = .ok (.aload_n 0, 1) := by decide +kernel
theorem dX3_divide_195 : decode cX3_divide 195 = .ok (.getfield 7, 3) := by decide +kernel
theorem dX3_divide_198 : decode cX3_divide 198 = .ok (.sipush 2000, 3) := by decide +kernel
theorem dX3_divide_201 : decode cX3_divide 201 = .ok (.iload 7, 2) := by decide +kernel
theorem dX3_divide_203 : decode cX3_divide 203 = .ok (.iadd, 1) := by decide +kernel
theorem dX3_divide_204 : decode cX3_divide 204 = .ok (.iload 12, 2) := by decide +kernel
theorem dX3_divide_206 : decode cX3_divide 206 = .ok (.iadd, 1) := by decide +kernel
theorem dX3_divide_207 : decode cX3_divide 207 = .ok (.lload 15, 2) := by decide +kernel
theorem dX3_divide_209 : decode cX3_divide 209 = .ok (.ldc2_w 67, 3) := by decide +kernel
theorem dX3_divide_212 : decode cX3_divide 212 = .ok (.land, 1) := by decide +kernel
theorem dX3_divide_213 : decode cX3_divide 213 = .ok (.l2i, 1) := by decide +kernel
theorem dX3_divide_214 : decode cX3_divide 214 = .ok (.iastore, 1) := by decide +kernel
theorem dX3_divide_215 : decode cX3_divide 215 = .ok (.lload 13, 2) := by decide +kernel
theorem dX3_divide_217 : decode cX3_divide 217 = .ok (.bipush 31, 2) := by decide +kernel
theorem dX3_divide_219 : decode cX3_divide 219 = .ok (.lshr, 1) := by decide +kernel
theorem dX3_divide_220 : decode cX3_divide 220 = .ok (.lload 15, 2) := by decide +kernel
theorem dX3_divide_222 : decode cX3_divide 222 = .ok (.lconst 0, 1) := by decide +kernel
theorem dX3_divide_223 : decode cX3_divide 223 = .ok (.lcmp, 1) := by decide +kernel
theorem dX3_divide_224 : decode cX3_divide 224 = .ok (.ifCond .ge 7, 3) := by decide +kernel
theorem dX3_divide_227 : decode cX3_divide 227 = .ok (.lconst 1, 1) := by decide +kernel
theorem dX3_divide_228 : decode cX3_divide 228 = .ok (.goto 4, 3) := by decide +kernel
theorem dX3_divide_231 : decode cX3_divide 231 = .ok (.lconst 0, 1) := by decide +kernel
theorem dX3_divide_232 : decode cX3_divide 232 = .ok (.ladd, 1) := by decide +kernel
theorem dX3_divide_233 : decode cX3_divide 233 = .ok (.lstore 10, 2) := by decide +kernel
theorem dX3_divide_235 : decode cX3_divide 235 = .ok (.iinc 12 1, 3) := by decide +kernel
theorem dX3_divide_238 : decode cX3_divide 238 = .ok (.goto (-98), 3) := by decide +kernel
theorem dX3_divide_241 : decode cX3_divide 241 = .ok (.iinc 7 1, 3) := by decide +kernel
theorem dX3_divide_244 : decode cX3_divide 244 = .ok (.goto (-152), 3) := by decide +kernel
theorem dX3_divide_247 : decode cX3_divide 247 = .ok (.aload_n 0, 1) := by decide +kernel
theorem dX3_divide_248 : decode cX3_divide 248 = .ok (.getfield 13, 3) := by decide +kernel
theorem dX3_divide_251 : decode cX3_divide 251 = .ok (.bipush 52, 2) := by decide +kernel
theorem dX3_divide_253 : decode cX3_divide 253 = .ok (.aload_n 0, 1) := by decide +kernel
theorem dX3_divide_254 : decode cX3_divide 254 = .ok (.getfield 13, 3) := by decide +kernel
theorem dX3_divide_257 : decode cX3_divide 257 = .ok (.bipush 49, 2) := by decide +kernel
theorem dX3_divide_259 : decode cX3_divide 259 = .ok (.iaload, 1) := by decide +kernel
theorem dX3_divide_260 : decode cX3_divide 260 = .ok (.aload_n 0, 1) := by decide +kernel
theorem dX3_divide_261 : decode cX3_divide 261 = .ok (.getfield 13, 3) := by decide +kernel
theorem dX3_divide_264 : decode cX3_divide 264 = .ok (.iload_n 1, 1) := by decide +kernel
theorem dX3_divide_265 : decode cX3_divide 265 = .ok (.iaload, 1) := by decide +kernel
theorem dX3_divide_266 : decode cX3_divide 266 = .ok (.imul, 1) := by decide +kernel
theorem dX3_divide_267 : decode cX3_divide 267 = .ok (.iastore, 1) := by decide +kernel
theorem dX3_divide_268 : decode cX3_divide 268 = .ok (.return_, 1) := by decide +kernel
set_option maxRecDepth 20000 in
theorem ggX3_swap_X3_copy : GoodIn wsX3_swap wsX3_copy := goodIn_r _ [7, 8, 9, 10, 11, 12, 13, 14, 15, 16, 17, 18, 19, 20, 21] (by decide +kernel) (by decide +kernel)
set_option maxRecDepth 20000 in
theorem gX3_swap_X3_copy : GoodIn wsX3_swap (wsV RX3 85 RX3 yX3_copy wsX3_copy) := goodIn_app (goodIn_of _ (by decide +kernel)) ggX3_swap_X3_copy
theorem dX3_swap_0 : decode cX3_swap 0 = .ok (.iconst 0, 1) := by decide +kernel
theorem dX3_swap_1 : decode cX3_swap 1 = .ok (.istore_n 3, 1) := by decide +kernel
theorem dX3_swap_2 : decode cX3_swap 2 = .ok (.iload_n 3, 1) := by decide +kernel
theorem dX3_swap_3 : decode cX3_swap 3 = .ok (.bipush 7, 2) := by decide +kernel
theorem dX3_swap_5 : decode cX3_swap 5 = .ok (.if_icmp .ge 49, 3) := by decide +kernel
theorem dX3_swap_8 : decode cX3_swap 8 = .ok (.aload_n 0, 1) := by decide +kernel
theorem dX3_swap_9 : decode cX3_swap 9 = .ok (.bipush 7, 2) := by decide +kernel
theorem dX3_swap_11 : decode cX3_swap 11 = .ok (.iload_n 1, 1) := by decide +kernel
theorem dX3_swap_12 : decode cX3_swap 12 = .ok (.imul, 1) := by decide +kernel
theorem dX3_swap_13 : decode cX3_swap 13 = .ok (.iload_n 3, 1) := by decide +kernel
theorem dX3_swap_14 : decode cX3_swap 14 = .ok (.iadd, 1) := by decide +kernel
theorem dX3_swap_15 : decode cX3_swap 15 = .ok (.bipush 50, 2) := by decide +kernel
theorem dX3_swap_17 : decode cX3_swap 17 = .ok (.invokevirtual 85, 3) := by decide +kernel
theorem dX3_swap_20 : decode cX3_swap 20 = .ok (.aload_n 0, 1) := by decide +kernel
theorem dX3_swap_21 : decode cX3_swap 21 = .ok (.bipush 7, 2) := by decide +kernel
theorem dX3_swap_23 : decode cX3_swap 23 = .ok (.iload_n 2, 1) := by decide +kernel
theorem dX3_swap_24 : decode cX3_swap 24 = .ok (.imul, 1) := by decide +kernel
theorem dX3_swap_25 : decode cX3_swap 25 = .ok (.iload_n 3, 1) := by decide +kernel
theorem dX3_swap_26 : decode cX3_swap 26 = .ok (.iadd, 1) := by decide +kernel
theorem dX3_swap_27 : decode cX3_swap 27 = .ok (.bipush 7, 2) := by decide +kernel
theorem dX3_swap_29 : decode cX3_swap 29 = .ok (.iload_n 1, 1) := by decide +kernel
theorem dX3_swap_30 : decode cX3_swap 30 = .ok (.imul, 1) := by decide +kernel
theorem dX3_swap_31 : decode cX3_swap 31 = .ok (.iload_n 3, 1) := by decide +kernel
theorem dX3_swap_32 : decode cX3_swap 32 = .ok (.iadd, 1) := by decide +kernel
theorem dX3_swap_33 : decode cX3_swap 33 = .ok (.invokevirtual 85, 3) := by decide +kernel
theorem dX3_swap_36 : decode cX3_swap 36 = .ok (.aload_n 0, 1) := by decide +kernel
theorem dX3_swap_37 : decode cX3_swap 37 = .ok (.bipush 50, 2) := by decide +kernel
theorem dX3_swap_39 : decode cX3_swap 39 = .ok (.bipush 7, 2) := by decide +kernel
theorem dX3_swap_41 : decode cX3_swap 41 = .ok (.iload_n 2, 1) := by decide +kernel
theorem dX3_swap_42 : decode cX3_swap 42 = .ok (.imul, 1) := by decide +kernel
theorem dX3_swap_43 : decode cX3_swap 43 = .ok (.iload_n 3, 1) := by decide +kernel
theorem dX3_swap_44 : decode cX3_swap 44 = .ok (.iadd, 1) := by decide +kernel
theorem dX3_swap_45 : decode cX3_swap 45 = .ok (.invokevirtual 85, 3) := by decide +kernel
theorem dX3_swap_48 : decode cX3_swap 48 = .ok (.iinc 3 1, 3) := by decide +kernel
theorem dX3_swap_51 : decode cX3_swap 51 = .ok (.goto (-49), 3) := by decide +kernel
theorem dX3_swap_54 : decode cX3_swap 54 = .ok (.aload_n 0, 1) := by decide +kernel
end
section
theorem dX3_swap_55 : decode cX3_swap 55 = .ok (.getfield 16, 3) := by decide +kernel
theorem dX3_swap_58 : decode cX3_swap 58 = .ok (.iload_n 1, 1) := by decide +kernel
theorem dX3_swap_59 : decode cX3_swap 59 = .ok (.iaload, 1) := by decide +kernel
theorem dX3_swap_60 : decode cX3_swap 60 = .ok (.istore_n 3, 1) := by decide +kernel
theorem dX3_swap_61 : decode cX3_swap 61 = .ok (.aload_n 0, 1) := by decide +kernel
theorem dX3_swap_62 : decode cX3_swap 62 = .ok (.getfield 16, 3) := by decide +kernel
theorem dX3_swap_65 : decode cX3_swap 65 = .ok (.iload_n 1, 1) := by decide +kernel
theorem dX3_swap_66 : decode cX3_swap 66 = .ok (.aload_n 0, 1) := by decide +kernel
theorem dX3_swap_67 : decode cX3_swap 67 = .ok (.getfield 16, 3) := by decide +kernel
theorem dX3_swap_70 : decode cX3_swap 70 = .ok (.iload_n 2, 1) := by decide +kernel
theorem dX3_swap_71 : decode cX3_swap 71 = .ok (.iaload, 1) := by decide +kernel
theorem dX3_swap_72 : decode cX3_swap 72 = .ok (.iastore, 1) := by decide +kernel
theorem dX3_swap_73 : decode cX3_swap 73 = .ok (.aload_n 0, 1) := by decide +kernel
theorem dX3_swap_74 : decode cX3_swap 74 = .ok (.getfield 16, 3) := by decide +kernel
theorem dX3_swap_77 : decode cX3_swap 77 = .ok (.iload_n 2, 1) := by decide +kernel
theorem dX3_swap_78 : decode cX3_swap 78 = .ok (.iload_n 3, 1) := by decide +kernel
theorem dX3_swap_79 : decode cX3_swap 79 = .ok (.iastore, 1) := by decide +kernel
theorem dX3_swap_80 : decode cX3_swap 80 = .ok (.aload_n 0, 1) := by decide +kernel
theorem dX3_swap_81 : decode cX3_swap 81 = .ok (.iload_n 1, 1) := by decide +kernel
theorem dX3_swap_82 : decode cX3_swap 82 = .ok (.iload_n 2, 1) := by decide +kernel
theorem dX3_swap_83 : decode cX3_swap 83 = .ok (.if_icmp .ne 10, 3) := by decide +kernel
theorem dX3_swap_86 : decode cX3_swap 86 = .ok (.aload_n 0, 1) := by decide +kernel
theorem dX3_swap_87 : decode cX3_swap 87 = .ok (.getfield 41, 3) := by decide +kernel
theorem dX3_swap_90 : decode cX3_swap 90 = .ok (.goto 15, 3) := by decide +kernel
theorem dX3_swap_93 : decode cX3_swap 93 = .ok (.aload_n 0, 1) := by decide +kernel
theorem dX3_swap_94 : decode cX3_swap 94 = .ok (.getfield 41, 3) := by decide +kernel
theorem dX3_swap_97 : decode cX3_swap 97 = .ok (.ifCond .ne 7, 3) := by decide +kernel
theorem dX3_swap_100 : decode cX3_swap 100 = .ok (.iconst 1, 1) := by decide +kernel
theorem dX3_swap_101 : decode cX3_swap 101 = .ok (.goto 4, 3) := by decide +kernel
theorem dX3_swap_104 : decode cX3_swap 104 = .ok (.iconst 0, 1) := by decide +kernel
theorem dX3_swap_105 : decode cX3_swap 105 = .ok (.putfield 41, 3) := by decide +kernel
theorem dX3_swap_108 : decode cX3_swap 108 = .ok (.return_, 1) := by decide +kernel
set_option maxRecDepth 20000 in
theorem ggX3_eliminate_X3_place : GoodIn wsX3_eliminate wsX3_place := goodIn_r _ [9, 1, 59, 60, 61, 62, 63, 64, 65, 66, 67, 68, 69, 70] (by decide +kernel) (by decide +kernel)
set_option maxRecDepth 20000 in
theorem gX3_eliminate_X3_place : GoodIn wsX3_eliminate (wsV RX3 49 RX3 yX3_place wsX3_place) := goodIn_app (goodIn_of _ (by decide +kernel)) ggX3_eliminate_X3_place
set_option maxRecDepth 20000 in
theorem ggX3_eliminate_X3_swap : GoodIn wsX3_eliminate wsX3_swap := goodIn_r _ [13, 14, 15, 16, 17, 18, 8, 19, 20, 2, 59, 60, 61, 62, 63, 64, 65, 66, 67, 68, 69, 70] (by decide +kernel) (by decide +kernel)
set_option maxRecDepth 20000 in
theorem gX3_eliminate_X3_swap : GoodIn wsX3_eliminate (wsV RX3 89 RX3 yX3_swap wsX3_swap) := goodIn_app (goodIn_of _ (by decide +kernel)) ggX3_eliminate_X3_swap
set_option maxRecDepth 20000 in
theorem ggX3_eliminate_X3_multiply : GoodIn wsX3_eliminate wsX3_multiply := goodIn_r _ [24, 20, 25, 2, 26, 27, 28, 8, 29, 30, 31, 32, 33, 59, 60, 61, 62, 63, 64, 65, 66, 67, 68, 69, 70] (by decide +kernel) (by decide +kernel)
set_option maxRecDepth 20000 in
theorem gX3_eliminate_X3_multiply : GoodIn wsX3_eliminate (wsV RX3 92 RX3 yX3_multiply wsX3_multiply) := goodIn_app (goodIn_of _ (by decide +kernel)) ggX3_eliminate_X3_multiply
set_option maxRecDepth 20000 in
theorem ggX3_eliminate_X3_copy : GoodIn wsX3_eliminate wsX3_copy := goodIn_r _ [19, 20, 2, 59, 60, 61, 62, 63, 64, 65, 66, 67, 68, 69, 70] (by decide +kernel) (by decide +kernel)
set_option maxRecDepth 20000 in
theorem gX3_eliminate_X3_copy : GoodIn wsX3_eliminate (wsV RX3 85 RX3 yX3_copy wsX3_copy) := goodIn_app (goodIn_of _ (by decide +kernel)) ggX3_eliminate_X3_copy
set_option maxRecDepth 20000 in
theorem ggX3_eliminate_X3_less : GoodIn wsX3_eliminate wsX3_less := goodIn_r _ [37, 2, 38, 39, 40, 8, 41, 20, 25, 42, 43, 44, 45, 59, 60, 61, 62, 63, 64, 65, 66, 67, 68, 69, 70] (by decide +kernel) (by decide +kernel)
set_option maxRecDepth 20000 in
theorem gX3_eliminate_X3_less : GoodIn wsX3_eliminate (wsV RX3 95 RX3 yX3_less wsX3_less) := goodIn_app (goodIn_of _ (by decide +kernel)) ggX3_eliminate_X3_less
set_option maxRecDepth 20000 in
theorem ggX3_eliminate_X3_divide : GoodIn wsX3_eliminate wsX3_divide := goodIn_r _ [49, 2, 20, 50, 25, 26, 27, 28, 8, 29, 51, 52, 53, 54, 55, 56, 57, 58, 59, 60, 61, 62, 63, 64, 65, 66, 67, 68, 69, 70] (by decide +kernel) (by decide +kernel)
set_option maxRecDepth 20000 in
theorem gX3_eliminate_X3_divide : GoodIn wsX3_eliminate (wsV RX3 98 RX3 yX3_divide wsX3_divide) := goodIn_app (goodIn_of _ (by decide +kernel)) ggX3_eliminate_X3_divide
set_option maxRecDepth 20000 in
theorem ggX3_eliminate_X3_count : GoodIn wsX3_eliminate wsX3_count := goodIn_r _ [33, 20, 59, 60, 61, 62, 63, 64, 65, 66, 67, 68, 69, 70] (by decide +kernel) (by decide +kernel)
set_option maxRecDepth 20000 in
theorem gX3_eliminate_X3_count : GoodIn wsX3_eliminate (wsV RX3 63 RX3 yX3_count wsX3_count) := goodIn_app (goodIn_of _ (by decide +kernel)) ggX3_eliminate_X3_count
theorem dX3_eliminate_0 : decode cX3_eliminate 0 = .ok (.iload_n 1, 1) := by decide +kernel
theorem dX3_eliminate_1 : decode cX3_eliminate 1 = .ok (.istore_n 2, 1) := by decide +kernel
theorem dX3_eliminate_2 : decode cX3_eliminate 2 = .ok (.iload_n 2, 1) := by decide +kernel
theorem dX3_eliminate_3 : decode cX3_eliminate 3 = .ok (.aload_n 0, 1) := by decide +kernel
theorem dX3_eliminate_4 : decode cX3_eliminate 4 = .ok (.getfield 19, 3) := by decide +kernel
theorem dX3_eliminate_7 : decode cX3_eliminate 7 = .ok (.if_icmp .ge 23, 3) := by decide +kernel
theorem dX3_eliminate_10 : decode cX3_eliminate 10 = .ok (.aload_n 0, 1) := by decide +kernel
theorem dX3_eliminate_11 : decode cX3_eliminate 11 = .ok (.getfield 13, 3) := by decide +kernel
theorem dX3_eliminate_14 : decode cX3_eliminate 14 = .ok (.aload_n 0, 1) := by decide +kernel
theorem dX3_eliminate_15 : decode cX3_eliminate 15 = .ok (.iload_n 2, 1) := by decide +kernel
theorem dX3_eliminate_16 : decode cX3_eliminate 16 = .ok (.iload_n 1, 1) := by decide +kernel
theorem dX3_eliminate_17 : decode cX3_eliminate 17 = .ok (.invokevirtual 49, 3) := by decide +kernel
theorem dX3_eliminate_20 : decode cX3_eliminate 20 = .ok (.iaload, 1) := by decide +kernel
theorem dX3_eliminate_21 : decode cX3_eliminate 21 = .ok (.ifCond .ne 9, 3) := by decide +kernel
theorem dX3_eliminate_24 : decode cX3_eliminate 24 = .ok (.iinc 2 1, 3) := by decide +kernel
theorem dX3_eliminate_27 : decode cX3_eliminate 27 = .ok (.goto (-25), 3) := by decide +kernel
theorem dX3_eliminate_30 : decode cX3_eliminate 30 = .ok (.iload_n 2, 1) := by decide +kernel
theorem dX3_eliminate_31 : decode cX3_eliminate 31 = .ok (.aload_n 0, 1) := by decide +kernel
theorem dX3_eliminate_32 : decode cX3_eliminate 32 = .ok (.getfield 19, 3) := by decide +kernel
theorem dX3_eliminate_35 : decode cX3_eliminate 35 = .ok (.if_icmp .ne 5, 3) := by decide +kernel
theorem dX3_eliminate_38 : decode cX3_eliminate 38 = .ok (.iconst 2, 1) := by decide +kernel
theorem dX3_eliminate_39 : decode cX3_eliminate 39 = .ok (.ireturn, 1) := by decide +kernel
theorem dX3_eliminate_40 : decode cX3_eliminate 40 = .ok (.aload_n 0, 1) := by decide +kernel
theorem dX3_eliminate_41 : decode cX3_eliminate 41 = .ok (.iload_n 2, 1) := by decide +kernel
theorem dX3_eliminate_42 : decode cX3_eliminate 42 = .ok (.iload_n 1, 1) := by decide +kernel
theorem dX3_eliminate_43 : decode cX3_eliminate 43 = .ok (.invokevirtual 89, 3) := by decide +kernel
theorem dX3_eliminate_46 : decode cX3_eliminate 46 = .ok (.aload_n 0, 1) := by decide +kernel
theorem dX3_eliminate_47 : decode cX3_eliminate 47 = .ok (.iload_n 1, 1) := by decide +kernel
theorem dX3_eliminate_48 : decode cX3_eliminate 48 = .ok (.iconst 1, 1) := by decide +kernel
theorem dX3_eliminate_49 : decode cX3_eliminate 49 = .ok (.iadd, 1) := by decide +kernel
theorem dX3_eliminate_50 : decode cX3_eliminate 50 = .ok (.putfield 38, 3) := by decide +kernel
theorem dX3_eliminate_53 : decode cX3_eliminate 53 = .ok (.iload_n 1, 1) := by decide +kernel
theorem dX3_eliminate_54 : decode cX3_eliminate 54 = .ok (.iconst 1, 1) := by decide +kernel
theorem dX3_eliminate_55 : decode cX3_eliminate 55 = .ok (.iadd, 1) := by decide +kernel
theorem dX3_eliminate_56 : decode cX3_eliminate 56 = .ok (.istore_n 3, 1) := by decide +kernel
theorem dX3_eliminate_57 : decode cX3_eliminate 57 = .ok (.iload_n 3, 1) := by decide +kernel
theorem dX3_eliminate_58 : decode cX3_eliminate 58 = .ok (.aload_n 0, 1) := by decide +kernel
theorem dX3_eliminate_59 : decode cX3_eliminate 59 = .ok (.getfield 19, 3) := by decide +kernel
theorem dX3_eliminate_62 : decode cX3_eliminate 62 = .ok (.if_icmp .ge 129, 3) := by decide +kernel
theorem dX3_eliminate_65 : decode cX3_eliminate 65 = .ok (.iload_n 1, 1) := by decide +kernel
theorem dX3_eliminate_66 : decode cX3_eliminate 66 = .ok (.iconst 1, 1) := by decide +kernel
theorem dX3_eliminate_67 : decode cX3_eliminate 67 = .ok (.iadd, 1) := by decide +kernel
theorem dX3_eliminate_68 : decode cX3_eliminate 68 = .ok (.istore 4, 2) := by decide +kernel
theorem dX3_eliminate_70 : decode cX3_eliminate 70 = .ok (.iload 4, 2) := by decide +kernel
theorem dX3_eliminate_72 : decode cX3_eliminate 72 = .ok (.aload_n 0, 1) := by decide +kernel
theorem dX3_eliminate_73 : decode cX3_eliminate 73 = .ok (.getfield 19, 3) := by decide +kernel
theorem dX3_eliminate_76 : decode cX3_eliminate 76 = .ok (.if_icmp .gt 109, 3) := by decide +kernel
theorem dX3_eliminate_79 : decode cX3_eliminate 79 = .ok (.aload_n 0, 1) := by decide +kernel
theorem dX3_eliminate_80 : decode cX3_eliminate 80 = .ok (.aload_n 0, 1) := by decide +kernel
theorem dX3_eliminate_81 : decode cX3_eliminate 81 = .ok (.iload_n 1, 1) := by decide +kernel
theorem dX3_eliminate_82 : decode cX3_eliminate 82 = .ok (.iload_n 1, 1) := by decide +kernel
theorem dX3_eliminate_83 : decode cX3_eliminate 83 = .ok (.invokevirtual 49, 3) := by decide +kernel
theorem dX3_eliminate_86 : decode cX3_eliminate 86 = .ok (.aload_n 0, 1) := by decide +kernel
theorem dX3_eliminate_87 : decode cX3_eliminate 87 = .ok (.iload_n 3, 1) := by decide +kernel
theorem dX3_eliminate_88 : decode cX3_eliminate 88 = .ok (.iload 4, 2) := by decide +kernel
theorem dX3_eliminate_90 : decode cX3_eliminate 90 = .ok (.invokevirtual 49, 3) := by decide +kernel
theorem dX3_eliminate_93 : decode cX3_eliminate 93 = .ok (.invokevirtual 92, 3) := by decide +kernel
theorem dX3_eliminate_96 : decode cX3_eliminate 96 = .ok (.aload_n 0, 1) := by decide +kernel
theorem dX3_eliminate_97 : decode cX3_eliminate 97 = .ok (.bipush 48, 2) := by decide +kernel
theorem dX3_eliminate_99 : decode cX3_eliminate 99 = .ok (.bipush 49, 2) := by decide +kernel
theorem dX3_eliminate_101 : decode cX3_eliminate 101 = .ok (.invokevirtual 85, 3) := by decide +kernel
theorem dX3_eliminate_104 : decode cX3_eliminate 104 = .ok (.aload_n 0, 1) := by decide +kernel
theorem dX3_eliminate_105 : decode cX3_eliminate 105 = .ok (.aload_n 0, 1) := by decide +kernel
theorem dX3_eliminate_106 : decode cX3_eliminate 106 = .ok (.iload_n 3, 1) := by decide +kernel
theorem dX3_eliminate_107 : decode cX3_eliminate 107 = .ok (.iload_n 1, 1) := by decide +kernel
theorem dX3_eliminate_108 : decode cX3_eliminate 108 = .ok (.invokevirtual 49, 3) := by decide +kernel
theorem dX3_eliminate_111 : decode cX3_eliminate 111 = .ok (.aload_n 0, 1) := by decide +kernel
theorem dX3_eliminate_112 : decode cX3_eliminate 112 = .ok (.iload_n 1, 1) := by decide +kernel
theorem dX3_eliminate_113 : decode cX3_eliminate 113 = .ok (.iload 4, 2) := by decide +kernel
theorem dX3_eliminate_115 : decode cX3_eliminate 115 = .ok (.invokevirtual 49, 3) := by decide +kernel
theorem dX3_eliminate_118 : decode cX3_eliminate 118 = .ok (.invokevirtual 92, 3) := by decide +kernel
theorem dX3_eliminate_121 : decode cX3_eliminate 121 = .ok (.aload_n 0, 1) := by decide +kernel
theorem dX3_eliminate_122 : decode cX3_eliminate 122 = .ok (.invokevirtual 95, 3) := by decide +kernel
theorem dX3_eliminate_125 : decode cX3_eliminate 125 = .ok (.aload_n 0, 1) := by decide +kernel
theorem dX3_eliminate_126 : decode cX3_eliminate 126 = .ok (.bipush 49, 2) := by decide +kernel
theorem dX3_eliminate_128 : decode cX3_eliminate 128 = .ok (.bipush 52, 2) := by decide +kernel
theorem dX3_eliminate_130 : decode cX3_eliminate 130 = .ok (.invokevirtual 85, 3) := by decide +kernel
theorem dX3_eliminate_133 : decode cX3_eliminate 133 = .ok (.iload_n 1, 1) := by decide +kernel
theorem dX3_eliminate_134 : decode cX3_eliminate 134 = .ok (.ifCond .le 17, 3) := by decide +kernel
theorem dX3_eliminate_137 : decode cX3_eliminate 137 = .ok (.aload_n 0, 1) := by decide +kernel
theorem dX3_eliminate_138 : decode cX3_eliminate 138 = .ok (.aload_n 0, 1) := by decide +kernel
theorem dX3_eliminate_139 : decode cX3_eliminate 139 = .ok (.iload_n 1, 1) := by decide +kernel
theorem dX3_eliminate_140 : decode cX3_eliminate 140 = .ok (.iconst 1, 1) := by decide +kernel
theorem dX3_eliminate_141 : decode cX3_eliminate 141 = .ok (.isub, 1) := by decide +kernel
theorem dX3_eliminate_142 : decode cX3_eliminate 142 = .ok (.iload_n 1, 1) := by decide +kernel
theorem dX3_eliminate_143 : decode cX3_eliminate 143 = .ok (.iconst 1, 1) := by decide +kernel
theorem dX3_eliminate_144 : decode cX3_eliminate 144 = .ok (.isub, 1) := by decide +kernel
theorem dX3_eliminate_145 : decode cX3_eliminate 145 = .ok (.invokevirtual 49, 3) := by decide +kernel
theorem dX3_eliminate_148 : decode cX3_eliminate 148 = .ok (.invokevirtual 98, 3) := by decide +kernel
theorem dX3_eliminate_151 : decode cX3_eliminate 151 = .ok (.aload_n 0, 1) := by decide +kernel
theorem dX3_eliminate_152 : decode cX3_eliminate 152 = .ok (.bipush 52, 2) := by decide +kernel
theorem dX3_eliminate_154 : decode cX3_eliminate 154 = .ok (.invokevirtual 63, 3) := by decide +kernel
theorem dX3_eliminate_157 : decode cX3_eliminate 157 = .ok (.aload_n 0, 1) := by decide +kernel
theorem dX3_eliminate_158 : decode cX3_eliminate 158 = .ok (.getfield 23, 3) := by decide +kernel
theorem dX3_eliminate_161 : decode cX3_eliminate 161 = .ok (.if_icmp .le 5, 3) := by decide +kernel
theorem dX3_eliminate_164 : decode cX3_eliminate 164 = .ok (.iconst 3, 1) := by decide +kernel
theorem dX3_eliminate_165 : decode cX3_eliminate 165 = .ok (.ireturn, 1) := by decide +kernel
theorem dX3_eliminate_166 : decode cX3_eliminate 166 = .ok (.aload_n 0, 1) := by decide +kernel
theorem dX3_eliminate_167 : decode cX3_eliminate 167 = .ok (.bipush 52, 2) := by decide +kernel
theorem dX3_eliminate_169 : decode cX3_eliminate 169 = .ok (.aload_n 0, 1) := by decide +kernel
theorem dX3_eliminate_170 : decode cX3_eliminate 170 = .ok (.iload_n 3, 1) := by decide +kernel
theorem dX3_eliminate_171 : decode cX3_eliminate 171 = .ok (.iload 4, 2) := by decide +kernel
theorem dX3_eliminate_173 : decode cX3_eliminate 173 = .ok (.invokevirtual 49, 3) := by decide +kernel
theorem dX3_eliminate_176 : decode cX3_eliminate 176 = .ok (.invokevirtual 85, 3) := by decide +kernel
theorem dX3_eliminate_179 : decode cX3_eliminate 179 = .ok (.iinc 4 1, 3) := by decide +kernel
theorem dX3_eliminate_182 : decode cX3_eliminate 182 = .ok (.goto (-112), 3) := by decide +kernel
theorem dX3_eliminate_185 : decode cX3_eliminate 185 = .ok (.iinc 3 1, 3) := by decide +kernel
theorem dX3_eliminate_188 : decode cX3_eliminate 188 = .ok (.goto (-131), 3) := by decide +kernel
theorem dX3_eliminate_191 : decode cX3_eliminate 191 = .ok (.iconst 0, 1) := by decide +kernel
theorem dX3_eliminate_192 : decode cX3_eliminate 192 = .ok (.ireturn, 1) := by decide +kernel
set_option maxRecDepth 20000 in
theorem ggX3_insert_X3_place : GoodIn wsX3_insert wsX3_place := goodIn_r _ [7, 1, 52, 53, 54, 55, 56, 57, 58, 59, 60, 61, 62, 63] (by decide +kernel) (by decide +kernel)
set_option maxRecDepth 20000 in
theorem gX3_insert_X3_place : GoodIn wsX3_insert (wsV RX3 49 RX3 yX3_place wsX3_place) := goodIn_app (goodIn_of _ (by decide +kernel)) ggX3_insert_X3_place
set_option maxRecDepth 20000 in
theorem ggX3_insert_X3_multiply : GoodIn wsX3_insert wsX3_multiply := goodIn_r _ [11, 12, 13, 14, 15, 16, 17, 6, 18, 19, 20, 21, 22, 52, 53, 54, 55, 56, 57, 58, 59, 60, 61, 62, 63] (by decide +kernel) (by decide +kernel)
set_option maxRecDepth 20000 in
theorem gX3_insert_X3_multiply : GoodIn wsX3_insert (wsV RX3 92 RX3 yX3_multiply wsX3_multiply) := goodIn_app (goodIn_of _ (by decide +kernel)) ggX3_insert_X3_multiply
set_option maxRecDepth 20000 in
theorem ggX3_insert_X3_copy : GoodIn wsX3_insert wsX3_copy := goodIn_r _ [26, 12, 14, 52, 53, 54, 55, 56, 57, 58, 59, 60, 61, 62, 63] (by decide +kernel) (by decide +kernel)
set_option maxRecDepth 20000 in
theorem gX3_insert_X3_copy : GoodIn wsX3_insert (wsV RX3 85 RX3 yX3_copy wsX3_copy) := goodIn_app (goodIn_of _ (by decide +kernel)) ggX3_insert_X3_copy
set_option maxRecDepth 20000 in
theorem ggX3_insert_X3_less : GoodIn wsX3_insert wsX3_less := goodIn_r _ [30, 14, 31, 32, 33, 6, 34, 12, 13, 35, 36, 37, 38, 52, 53, 54, 55, 56, 57, 58, 59, 60, 61, 62, 63] (by decide +kernel) (by decide +kernel)
set_option maxRecDepth 20000 in
theorem gX3_insert_X3_less : GoodIn wsX3_insert (wsV RX3 95 RX3 yX3_less wsX3_less) := goodIn_app (goodIn_of _ (by decide +kernel)) ggX3_insert_X3_less
set_option maxRecDepth 20000 in
theorem ggX3_insert_X3_divide : GoodIn wsX3_insert wsX3_divide := goodIn_r _ [42, 14, 12, 43, 13, 15, 16, 17, 6, 18, 44, 45, 46, 47, 48, 49, 50, 51, 52, 53, 54, 55, 56, 57, 58, 59, 60, 61, 62, 63] (by decide +kernel) (by decide +kernel)
set_option maxRecDepth 20000 in
theorem gX3_insert_X3_divide : GoodIn wsX3_insert (wsV RX3 98 RX3 yX3_divide wsX3_divide) := goodIn_app (goodIn_of _ (by decide +kernel)) ggX3_insert_X3_divide
set_option maxRecDepth 20000 in
theorem ggX3_insert_X3_count : GoodIn wsX3_insert wsX3_count := goodIn_r _ [22, 12, 52, 53, 54, 55, 56, 57, 58, 59, 60, 61, 62, 63] (by decide +kernel) (by decide +kernel)
set_option maxRecDepth 20000 in
theorem gX3_insert_X3_count : GoodIn wsX3_insert (wsV RX3 63 RX3 yX3_count wsX3_count) := goodIn_app (goodIn_of _ (by decide +kernel)) ggX3_insert_X3_count
theorem dX3_insert_0 : decode cX3_insert 0 = .ok (.aload_n 0, 1) := by decide +kernel
theorem dX3_insert_1 : decode cX3_insert 1 = .ok (.aload_n 0, 1) := by decide +kernel
theorem dX3_insert_2 : decode cX3_insert 2 = .ok (.aload_n 0, 1) := by decide +kernel
theorem dX3_insert_3 : decode cX3_insert 3 = .ok (.getfield 19, 3) := by decide +kernel
theorem dX3_insert_6 : decode cX3_insert 6 = .ok (.iconst 1, 1) := by decide +kernel
theorem dX3_insert_7 : decode cX3_insert 7 = .ok (.isub, 1) := by decide +kernel
theorem dX3_insert_8 : decode cX3_insert 8 = .ok (.aload_n 0, 1) := by decide +kernel
theorem dX3_insert_9 : decode cX3_insert 9 = .ok (.getfield 19, 3) := by decide +kernel
theorem dX3_insert_12 : decode cX3_insert 12 = .ok (.iconst 1, 1) := by decide +kernel
theorem dX3_insert_13 : decode cX3_insert 13 = .ok (.isub, 1) := by decide +kernel
theorem dX3_insert_14 : decode cX3_insert 14 = .ok (.invokevirtual 49, 3) := by decide +kernel
theorem dX3_insert_17 : decode cX3_insert 17 = .ok (.aload_n 0, 1) := by decide +kernel
theorem dX3_insert_18 : decode cX3_insert 18 = .ok (.iload_n 1, 1) := by decide +kernel
theorem dX3_insert_19 : decode cX3_insert 19 = .ok (.aload_n 0, 1) := by decide +kernel
theorem dX3_insert_20 : decode cX3_insert 20 = .ok (.getfield 19, 3) := by decide +kernel
theorem dX3_insert_23 : decode cX3_insert 23 = .ok (.invokevirtual 49, 3) := by decide +kernel
theorem dX3_insert_26 : decode cX3_insert 26 = .ok (.invokevirtual 92, 3) := by decide +kernel
theorem dX3_insert_29 : decode cX3_insert 29 = .ok (.aload_n 0, 1) := by decide +kernel
theorem dX3_insert_30 : decode cX3_insert 30 = .ok (.bipush 48, 2) := by decide +kernel
theorem dX3_insert_32 : decode cX3_insert 32 = .ok (.bipush 49, 2) := by decide +kernel
theorem dX3_insert_34 : decode cX3_insert 34 = .ok (.invokevirtual 85, 3) := by decide +kernel
theorem dX3_insert_37 : decode cX3_insert 37 = .ok (.iload_n 1, 1) := by decide +kernel
theorem dX3_insert_38 : decode cX3_insert 38 = .ok (.iconst 1, 1) := by decide +kernel
theorem dX3_insert_39 : decode cX3_insert 39 = .ok (.iadd, 1) := by decide +kernel
theorem dX3_insert_40 : decode cX3_insert 40 = .ok (.istore_n 2, 1) := by decide +kernel
theorem dX3_insert_41 : decode cX3_insert 41 = .ok (.iload_n 2, 1) := by decide +kernel
theorem dX3_insert_42 : decode cX3_insert 42 = .ok (.aload_n 0, 1) := by decide +kernel
theorem dX3_insert_43 : decode cX3_insert 43 = .ok (.getfield 19, 3) := by decide +kernel
theorem dX3_insert_46 : decode cX3_insert 46 = .ok (.if_icmp .ge 27, 3) := by decide +kernel
theorem dX3_insert_49 : decode cX3_insert 49 = .ok (.aload_n 0, 1) := by decide +kernel
theorem dX3_insert_50 : decode cX3_insert 50 = .ok (.aload_n 0, 1) := by decide +kernel
theorem dX3_insert_51 : decode cX3_insert 51 = .ok (.iload_n 1, 1) := by decide +kernel
theorem dX3_insert_52 : decode cX3_insert 52 = .ok (.iload_n 2, 1) := by decide +kernel
theorem dX3_insert_53 : decode cX3_insert 53 = .ok (.invokevirtual 49, 3) := by decide +kernel
theorem dX3_insert_56 : decode cX3_insert 56 = .ok (.bipush 42, 2) := by decide +kernel
theorem dX3_insert_58 : decode cX3_insert 58 = .ok (.iload_n 2, 1) := by decide +kernel
theorem dX3_insert_59 : decode cX3_insert 59 = .ok (.iadd, 1) := by decide +kernel
theorem dX3_insert_60 : decode cX3_insert 60 = .ok (.invokevirtual 92, 3) := by decide +kernel
theorem dX3_insert_63 : decode cX3_insert 63 = .ok (.aload_n 0, 1) := by decide +kernel
theorem dX3_insert_64 : decode cX3_insert 64 = .ok (.invokevirtual 95, 3) := by decide +kernel
theorem dX3_insert_67 : decode cX3_insert 67 = .ok (.iinc 2 1, 3) := by decide +kernel
theorem dX3_insert_70 : decode cX3_insert 70 = .ok (.goto (-29), 3) := by decide +kernel
theorem dX3_insert_73 : decode cX3_insert 73 = .ok (.aload_n 0, 1) := by decide +kernel
theorem dX3_insert_74 : decode cX3_insert 74 = .ok (.aload_n 0, 1) := by decide +kernel
theorem dX3_insert_75 : decode cX3_insert 75 = .ok (.iload_n 1, 1) := by decide +kernel
theorem dX3_insert_76 : decode cX3_insert 76 = .ok (.iload_n 1, 1) := by decide +kernel
theorem dX3_insert_77 : decode cX3_insert 77 = .ok (.invokevirtual 49, 3) := by decide +kernel
theorem dX3_insert_80 : decode cX3_insert 80 = .ok (.invokevirtual 98, 3) := by decide +kernel
theorem dX3_insert_83 : decode cX3_insert 83 = .ok (.aload_n 0, 1) := by decide +kernel
theorem dX3_insert_84 : decode cX3_insert 84 = .ok (.bipush 52, 2) := by decide +kernel
theorem dX3_insert_86 : decode cX3_insert 86 = .ok (.invokevirtual 63, 3) := by decide +kernel
theorem dX3_insert_89 : decode cX3_insert 89 = .ok (.aload_n 0, 1) := by decide +kernel
theorem dX3_insert_90 : decode cX3_insert 90 = .ok (.getfield 23, 3) := by decide +kernel
theorem dX3_insert_93 : decode cX3_insert 93 = .ok (.if_icmp .le 5, 3) := by decide +kernel
theorem dX3_insert_96 : decode cX3_insert 96 = .ok (.iconst 3, 1) := by decide +kernel
theorem dX3_insert_97 : decode cX3_insert 97 = .ok (.ireturn, 1) := by decide +kernel
theorem dX3_insert_98 : decode cX3_insert 98 = .ok (.aload_n 0, 1) := by decide +kernel
theorem dX3_insert_99 : decode cX3_insert 99 = .ok (.bipush 52, 2) := by decide +kernel
theorem dX3_insert_101 : decode cX3_insert 101 = .ok (.bipush 42, 2) := by decide +kernel
theorem dX3_insert_103 : decode cX3_insert 103 = .ok (.iload_n 1, 1) := by decide +kernel
theorem dX3_insert_104 : decode cX3_insert 104 = .ok (.iadd, 1) := by decide +kernel
theorem dX3_insert_105 : decode cX3_insert 105 = .ok (.invokevirtual 85, 3) := by decide +kernel
theorem dX3_insert_108 : decode cX3_insert 108 = .ok (.iload_n 1, 1) := by decide +kernel
theorem dX3_insert_109 : decode cX3_insert 109 = .ok (.ifCond .le 7, 3) := by decide +kernel
theorem dX3_insert_112 : decode cX3_insert 112 = .ok (.iconst 0, 1) := by decide +kernel
theorem dX3_insert_113 : decode cX3_insert 113 = .ok (.goto 4, 3) := by decide +kernel
theorem dX3_insert_116 : decode cX3_insert 116 = .ok (.iconst 1, 1) := by decide +kernel
theorem dX3_insert_117 : decode cX3_insert 117 = .ok (.ireturn, 1) := by decide +kernel
set_option maxRecDepth 20000 in
theorem ggX3_step_X3_eliminate : GoodIn wsX3_step wsX3_eliminate := goodIn_r _ [8, 3, 9, 10, 11, 12, 13, 14, 7, 15, 16, 17, 18, 19, 20, 21, 22, 23, 24, 25, 26, 27, 28, 29, 30, 31, 32, 33, 34, 35, 36, 37, 38, 39, 40, 41, 42, 43, 44, 45, 46, 47, 48, 49, 50, 51, 52, 53, 54, 55, 56, 57, 58, 59, 60, 61, 62, 63, 64, 69, 70, 71, 72, 73, 74, 75, 76, 77, 78, 79, 80] (by decide +kernel) (by decide +kernel)
set_option maxRecDepth 20000 in
theorem gX3_step_X3_eliminate : GoodIn wsX3_step (wsV RX3 101 RX3 yX3_eliminate wsX3_eliminate) := goodIn_app (goodIn_of _ (by decide +kernel)) ggX3_step_X3_eliminate
set_option maxRecDepth 20000 in
theorem ggX3_step_X3_insert : GoodIn wsX3_step wsX3_insert := goodIn_r _ [68, 3, 11, 12, 13, 14, 7, 15, 27, 28, 29, 30, 26, 31, 9, 32, 33, 34, 35, 36, 37, 38, 39, 22, 23, 24, 25, 40, 41, 42, 43, 44, 45, 46, 47, 48, 49, 50, 51, 52, 53, 54, 55, 56, 57, 58, 59, 60, 61, 62, 63, 64, 69, 70, 71, 72, 73, 74, 75, 76, 77, 78, 79, 80] (by decide +kernel) (by decide +kernel)
set_option maxRecDepth 20000 in
theorem gX3_step_X3_insert : GoodIn wsX3_step (wsV RX3 104 RX3 yX3_insert wsX3_insert) := goodIn_app (goodIn_of _ (by decide +kernel)) ggX3_step_X3_insert
theorem dX3_step_0 : decode cX3_step 0 = .ok (.aload_n 0, 1) := by decide +kernel
theorem dX3_step_1 : decode cX3_step 1 = .ok (.getfield 32, 3) := by decide +kernel
theorem dX3_step_4 : decode cX3_step 4 = .ok (.iconst 4, 1) := by decide +kernel
theorem dX3_step_5 : decode cX3_step 5 = .ok (.if_icmp .eq 15, 3) := by decide +kernel
theorem dX3_step_8 : decode cX3_step 8 = .ok (.aload_n 0, 1) := by decide +kernel
theorem dX3_step_9 : decode cX3_step 9 = .ok (.getfield 32, 3) := by decide +kernel
theorem dX3_step_12 : decode cX3_step 12 = .ok (.ifCond .eq 8, 3) := by decide +kernel
theorem dX3_step_15 : decode cX3_step 15 = .ok (.aload_n 0, 1) := by decide +kernel
theorem dX3_step_16 : decode cX3_step 16 = .ok (.getfield 32, 3) := by decide +kernel
theorem dX3_step_19 : decode cX3_step 19 = .ok (.ireturn, 1) := by decide +kernel
theorem dX3_step_20 : decode cX3_step 20 = .ok (.aload_n 0, 1) := by decide +kernel
theorem dX3_step_21 : decode cX3_step 21 = .ok (.aload_n 0, 1) := by decide +kernel
theorem dX3_step_22 : decode cX3_step 22 = .ok (.getfield 35, 3) := by decide +kernel
theorem dX3_step_25 : decode cX3_step 25 = .ok (.aload_n 0, 1) := by decide +kernel
theorem dX3_step_26 : decode cX3_step 26 = .ok (.getfield 19, 3) := by decide +kernel
theorem dX3_step_29 : decode cX3_step 29 = .ok (.if_icmp .ge 14, 3) := by decide +kernel
theorem dX3_step_32 : decode cX3_step 32 = .ok (.aload_n 0, 1) := by decide +kernel
theorem dX3_step_33 : decode cX3_step 33 = .ok (.aload_n 0, 1) := by decide +kernel
theorem dX3_step_34 : decode cX3_step 34 = .ok (.getfield 35, 3) := by decide +kernel
theorem dX3_step_37 : decode cX3_step 37 = .ok (.invokevirtual 101, 3) := by decide +kernel
theorem dX3_step_40 : decode cX3_step 40 = .ok (.goto 20, 3) := by decide +kernel
theorem dX3_step_43 : decode cX3_step 43 = .ok (.aload_n 0, 1) := by decide +kernel
theorem dX3_step_44 : decode cX3_step 44 = .ok (.iconst 2, 1) := by decide +kernel
theorem dX3_step_45 : decode cX3_step 45 = .ok (.aload_n 0, 1) := by decide +kernel
theorem dX3_step_46 : decode cX3_step 46 = .ok (.getfield 19, 3) := by decide +kernel
theorem dX3_step_49 : decode cX3_step 49 = .ok (.imul, 1) := by decide +kernel
theorem dX3_step_50 : decode cX3_step 50 = .ok (.iconst 1, 1) := by decide +kernel
theorem dX3_step_51 : decode cX3_step 51 = .ok (.isub, 1) := by decide +kernel
theorem dX3_step_52 : decode cX3_step 52 = .ok (.aload_n 0, 1) := by decide +kernel
theorem dX3_step_53 : decode cX3_step 53 = .ok (.getfield 35, 3) := by decide +kernel
theorem dX3_step_56 : decode cX3_step 56 = .ok (.isub, 1) := by decide +kernel
theorem dX3_step_57 : decode cX3_step 57 = .ok (.invokevirtual 104, 3) := by decide +kernel
theorem dX3_step_60 : decode cX3_step 60 = .ok (.putfield 32, 3) := by decide +kernel
theorem dX3_step_63 : decode cX3_step 63 = .ok (.aload_n 0, 1) := by decide +kernel
theorem dX3_step_64 : decode cX3_step 64 = .ok (.dup, 1) := by decide +kernel
theorem dX3_step_65 : decode cX3_step 65 = .ok (.getfield 35, 3) := by decide +kernel
theorem dX3_step_68 : decode cX3_step 68 = .ok (.iconst 1, 1) := by decide +kernel
theorem dX3_step_69 : decode cX3_step 69 = .ok (.iadd, 1) := by decide +kernel
theorem dX3_step_70 : decode cX3_step 70 = .ok (.putfield 35, 3) := by decide +kernel
theorem dX3_step_73 : decode cX3_step 73 = .ok (.aload_n 0, 1) := by decide +kernel
theorem dX3_step_74 : decode cX3_step 74 = .ok (.getfield 32, 3) := by decide +kernel
theorem dX3_step_77 : decode cX3_step 77 = .ok (.ireturn, 1) := by decide +kernel
theorem dX3_status_0 : decode cX3_status 0 = .ok (.aload_n 0, 1) := by decide +kernel
theorem dX3_status_1 : decode cX3_status 1 = .ok (.getfield 32, 3) := by decide +kernel
theorem dX3_status_4 : decode cX3_status 4 = .ok (.ireturn, 1) := by decide +kernel
theorem dX3_steps_0 : decode cX3_steps 0 = .ok (.aload_n 0, 1) := by decide +kernel
theorem dX3_steps_1 : decode cX3_steps 1 = .ok (.getfield 35, 3) := by decide +kernel
theorem dX3_steps_4 : decode cX3_steps 4 = .ok (.ireturn, 1) := by decide +kernel
set_option maxRecDepth 20000 in
theorem ggX3_told_X3_count : GoodIn wsX3_told wsX3_count := goodIn_r _ [7, 2, 8, 9, 10, 11, 12, 13, 14, 15, 16, 17, 18, 19] (by decide +kernel) (by decide +kernel)
set_option maxRecDepth 20000 in
theorem gX3_told_X3_count : GoodIn wsX3_told (wsV RX3 63 RX3 yX3_count wsX3_count) := goodIn_app (goodIn_of _ (by decide +kernel)) ggX3_told_X3_count
theorem dX3_told_0 : decode cX3_told 0 = .ok (.aload_n 0, 1) := by decide +kernel
theorem dX3_told_1 : decode cX3_told 1 = .ok (.iload_n 1, 1) := by decide +kernel
theorem dX3_told_2 : decode cX3_told 2 = .ok (.invokevirtual 63, 3) := by decide +kernel
theorem dX3_told_5 : decode cX3_told 5 = .ok (.istore 4, 2) := by decide +kernel
theorem dX3_told_7 : decode cX3_told 7 = .ok (.iload_n 2, 1) := by decide +kernel
theorem dX3_told_8 : decode cX3_told 8 = .ok (.bipush (-2), 2) := by decide +kernel
theorem dX3_told_10 : decode cX3_told 10 = .ok (.if_icmp .ne 14, 3) := by decide +kernel
theorem dX3_told_13 : decode cX3_told 13 = .ok (.iload_n 3, 1) := by decide +kernel
theorem dX3_told_14 : decode cX3_told 14 = .ok (.aload_n 0, 1) := by decide +kernel
theorem dX3_told_15 : decode cX3_told 15 = .ok (.getfield 13, 3) := by decide +kernel
theorem dX3_told_18 : decode cX3_told 18 = .ok (.iload_n 1, 1) := by decide +kernel
theorem dX3_told_19 : decode cX3_told 19 = .ok (.iaload, 1) := by decide +kernel
theorem dX3_told_20 : decode cX3_told 20 = .ok (.imul, 1) := by decide +kernel
theorem dX3_told_21 : decode cX3_told 21 = .ok (.goto 38, 3) := by decide +kernel
theorem dX3_told_24 : decode cX3_told 24 = .ok (.iload_n 2, 1) := by decide +kernel
theorem dX3_told_25 : decode cX3_told 25 = .ok (.iconst (-1), 1) := by decide +kernel
theorem dX3_told_26 : decode cX3_told 26 = .ok (.if_icmp .ne 8, 3) := by decide +kernel
theorem dX3_told_29 : decode cX3_told 29 = .ok (.iload 4, 2) := by decide +kernel
theorem dX3_told_31 : decode cX3_told 31 = .ok (.goto 28, 3) := by decide +kernel
theorem dX3_told_34 : decode cX3_told 34 = .ok (.iload_n 2, 1) := by decide +kernel
theorem dX3_told_35 : decode cX3_told 35 = .ok (.ifCond .lt 23, 3) := by decide +kernel
theorem dX3_told_38 : decode cX3_told 38 = .ok (.iload_n 2, 1) := by decide +kernel
theorem dX3_told_39 : decode cX3_told 39 = .ok (.iload 4, 2) := by decide +kernel
theorem dX3_told_41 : decode cX3_told 41 = .ok (.if_icmp .ge 17, 3) := by decide +kernel
theorem dX3_told_44 : decode cX3_told 44 = .ok (.aload_n 0, 1) := by decide +kernel
theorem dX3_told_45 : decode cX3_told 45 = .ok (.getfield 7, 3) := by decide +kernel
theorem dX3_told_48 : decode cX3_told 48 = .ok (.bipush 40, 2) := by decide +kernel
theorem dX3_told_50 : decode cX3_told 50 = .ok (.iload_n 1, 1) := by decide +kernel
theorem dX3_told_51 : decode cX3_told 51 = .ok (.imul, 1) := by decide +kernel
theorem dX3_told_52 : decode cX3_told 52 = .ok (.iload_n 2, 1) := by decide +kernel
theorem dX3_told_53 : decode cX3_told 53 = .ok (.iadd, 1) := by decide +kernel
theorem dX3_told_54 : decode cX3_told 54 = .ok (.iaload, 1) := by decide +kernel
theorem dX3_told_55 : decode cX3_told 55 = .ok (.goto 4, 3) := by decide +kernel
theorem dX3_told_58 : decode cX3_told 58 = .ok (.iconst (-1), 1) := by decide +kernel
theorem dX3_told_59 : decode cX3_told 59 = .ok (.ireturn, 1) := by decide +kernel
set_option maxRecDepth 20000 in
theorem ggX3_determinant_X3_place : GoodIn wsX3_determinant wsX3_place := goodIn_r _ [8, 2, 19, 20, 21, 22, 23, 24, 25, 26, 27, 28, 29, 30] (by decide +kernel) (by decide +kernel)
set_option maxRecDepth 20000 in
theorem gX3_determinant_X3_place : GoodIn wsX3_determinant (wsV RX3 49 RX3 yX3_place wsX3_place) := goodIn_app (goodIn_of _ (by decide +kernel)) ggX3_determinant_X3_place
set_option maxRecDepth 20000 in
theorem ggX3_determinant_X3_told : GoodIn wsX3_determinant wsX3_told := goodIn_r _ [12, 13, 14, 15, 16, 17, 7, 18, 19, 20, 21, 22, 23, 24, 25, 26, 27, 28, 29, 30] (by decide +kernel) (by decide +kernel)
set_option maxRecDepth 20000 in
theorem gX3_determinant_X3_told : GoodIn wsX3_determinant (wsV RX3 107 RX3 yX3_told wsX3_told) := goodIn_app (goodIn_of _ (by decide +kernel)) ggX3_determinant_X3_told
theorem dX3_determinant_0 : decode cX3_determinant 0 = .ok (.aload_n 0, 1) := by decide +kernel
theorem dX3_determinant_1 : decode cX3_determinant 1 = .ok (.getfield 32, 3) := by decide +kernel
theorem dX3_determinant_4 : decode cX3_determinant 4 = .ok (.iconst 2, 1) := by decide +kernel
theorem dX3_determinant_5 : decode cX3_determinant 5 = .ok (.if_icmp .ne 20, 3) := by decide +kernel
theorem dX3_determinant_8 : decode cX3_determinant 8 = .ok (.iload_n 1, 1) := by decide +kernel
theorem dX3_determinant_9 : decode cX3_determinant 9 = .ok (.bipush (-2), 2) := by decide +kernel
theorem dX3_determinant_11 : decode cX3_determinant 11 = .ok (.if_icmp .eq 8, 3) := by decide +kernel
theorem dX3_determinant_14 : decode cX3_determinant 14 = .ok (.iload_n 1, 1) := by decide +kernel
theorem dX3_determinant_15 : decode cX3_determinant 15 = .ok (.iconst (-1), 1) := by decide +kernel
theorem dX3_determinant_16 : decode cX3_determinant 16 = .ok (.if_icmp .ne 7, 3) := by decide +kernel
theorem dX3_determinant_19 : decode cX3_determinant 19 = .ok (.iconst 0, 1) := by decide +kernel
theorem dX3_determinant_20 : decode cX3_determinant 20 = .ok (.goto 4, 3) := by decide +kernel
theorem dX3_determinant_23 : decode cX3_determinant 23 = .ok (.iconst (-1), 1) := by decide +kernel
theorem dX3_determinant_24 : decode cX3_determinant 24 = .ok (.ireturn, 1) := by decide +kernel
theorem dX3_determinant_25 : decode cX3_determinant 25 = .ok (.aload_n 0, 1) := by decide +kernel
theorem dX3_determinant_26 : decode cX3_determinant 26 = .ok (.getfield 32, 3) := by decide +kernel
theorem dX3_determinant_29 : decode cX3_determinant 29 = .ok (.iconst 1, 1) := by decide +kernel
theorem dX3_determinant_30 : decode cX3_determinant 30 = .ok (.if_icmp .ne 39, 3) := by decide +kernel
theorem dX3_determinant_33 : decode cX3_determinant 33 = .ok (.aload_n 0, 1) := by decide +kernel
theorem dX3_determinant_34 : decode cX3_determinant 34 = .ok (.aload_n 0, 1) := by decide +kernel
theorem dX3_determinant_35 : decode cX3_determinant 35 = .ok (.aload_n 0, 1) := by decide +kernel
theorem dX3_determinant_36 : decode cX3_determinant 36 = .ok (.getfield 19, 3) := by decide +kernel
theorem dX3_determinant_39 : decode cX3_determinant 39 = .ok (.iconst 1, 1) := by decide +kernel
theorem dX3_determinant_40 : decode cX3_determinant 40 = .ok (.isub, 1) := by decide +kernel
theorem dX3_determinant_41 : decode cX3_determinant 41 = .ok (.aload_n 0, 1) := by decide +kernel
theorem dX3_determinant_42 : decode cX3_determinant 42 = .ok (.getfield 19, 3) := by decide +kernel
theorem dX3_determinant_45 : decode cX3_determinant 45 = .ok (.iconst 1, 1) := by decide +kernel
theorem dX3_determinant_46 : decode cX3_determinant 46 = .ok (.isub, 1) := by decide +kernel
theorem dX3_determinant_47 : decode cX3_determinant 47 = .ok (.invokevirtual 49, 3) := by decide +kernel
theorem dX3_determinant_50 : decode cX3_determinant 50 = .ok (.iload_n 1, 1) := by decide +kernel
theorem dX3_determinant_51 : decode cX3_determinant 51 = .ok (.aload_n 0, 1) := by decide +kernel
theorem dX3_determinant_52 : decode cX3_determinant 52 = .ok (.getfield 41, 3) := by decide +kernel
theorem dX3_determinant_55 : decode cX3_determinant 55 = .ok (.ifCond .eq 7, 3) := by decide +kernel
theorem dX3_determinant_58 : decode cX3_determinant 58 = .ok (.iconst (-1), 1) := by decide +kernel
theorem dX3_determinant_59 : decode cX3_determinant 59 = .ok (.goto 4, 3) := by decide +kernel
theorem dX3_determinant_62 : decode cX3_determinant 62 = .ok (.iconst 1, 1) := by decide +kernel
theorem dX3_determinant_63 : decode cX3_determinant 63 = .ok (.invokevirtual 107, 3) := by decide +kernel
theorem dX3_determinant_66 : decode cX3_determinant 66 = .ok (.goto 4, 3) := by decide +kernel
theorem dX3_determinant_69 : decode cX3_determinant 69 = .ok (.iconst (-1), 1) := by decide +kernel
theorem dX3_determinant_70 : decode cX3_determinant 70 = .ok (.ireturn, 1) := by decide +kernel
set_option maxRecDepth 20000 in
theorem ggX3_numerator_X3_told : GoodIn wsX3_numerator wsX3_told := goodIn_r _ [8, 9, 10, 11, 12, 13, 7, 14, 15, 16, 17, 18, 19, 20, 21, 22, 23, 24, 25, 26] (by decide +kernel) (by decide +kernel)
set_option maxRecDepth 20000 in
theorem gX3_numerator_X3_told : GoodIn wsX3_numerator (wsV RX3 107 RX3 yX3_told wsX3_told) := goodIn_app (goodIn_of _ (by decide +kernel)) ggX3_numerator_X3_told
theorem dX3_numerator_0 : decode cX3_numerator 0 = .ok (.aload_n 0, 1) := by decide +kernel
theorem dX3_numerator_1 : decode cX3_numerator 1 = .ok (.getfield 32, 3) := by decide +kernel
theorem dX3_numerator_4 : decode cX3_numerator 4 = .ok (.iconst 1, 1) := by decide +kernel
theorem dX3_numerator_5 : decode cX3_numerator 5 = .ok (.if_icmp .ne 39, 3) := by decide +kernel
theorem dX3_numerator_8 : decode cX3_numerator 8 = .ok (.iload_n 1, 1) := by decide +kernel
theorem dX3_numerator_9 : decode cX3_numerator 9 = .ok (.ifCond .lt 35, 3) := by decide +kernel
theorem dX3_numerator_12 : decode cX3_numerator 12 = .ok (.iload_n 1, 1) := by decide +kernel
theorem dX3_numerator_13 : decode cX3_numerator 13 = .ok (.aload_n 0, 1) := by decide +kernel
theorem dX3_numerator_14 : decode cX3_numerator 14 = .ok (.getfield 19, 3) := by decide +kernel
theorem dX3_numerator_17 : decode cX3_numerator 17 = .ok (.if_icmp .ge 27, 3) := by decide +kernel
theorem dX3_numerator_20 : decode cX3_numerator 20 = .ok (.aload_n 0, 1) := by decide +kernel
theorem dX3_numerator_21 : decode cX3_numerator 21 = .ok (.bipush 42, 2) := by decide +kernel
theorem dX3_numerator_23 : decode cX3_numerator 23 = .ok (.iload_n 1, 1) := by decide +kernel
theorem dX3_numerator_24 : decode cX3_numerator 24 = .ok (.iadd, 1) := by decide +kernel
theorem dX3_numerator_25 : decode cX3_numerator 25 = .ok (.iload_n 2, 1) := by decide +kernel
end
section
theorem dX3_numerator_26 : decode cX3_numerator 26 = .ok (.aload_n 0, 1) := by decide +kernel
theorem dX3_numerator_27 : decode cX3_numerator 27 = .ok (.getfield 41, 3) := by decide +kernel
theorem dX3_numerator_30 : decode cX3_numerator 30 = .ok (.ifCond .eq 7, 3) := by decide +kernel
theorem dX3_numerator_33 : decode cX3_numerator 33 = .ok (.iconst (-1), 1) := by decide +kernel
theorem dX3_numerator_34 : decode cX3_numerator 34 = .ok (.goto 4, 3) := by decide +kernel
theorem dX3_numerator_37 : decode cX3_numerator 37 = .ok (.iconst 1, 1) := by decide +kernel
theorem dX3_numerator_38 : decode cX3_numerator 38 = .ok (.invokevirtual 107, 3) := by decide +kernel
theorem dX3_numerator_41 : decode cX3_numerator 41 = .ok (.goto 4, 3) := by decide +kernel
theorem dX3_numerator_44 : decode cX3_numerator 44 = .ok (.iconst (-1), 1) := by decide +kernel
theorem dX3_numerator_45 : decode cX3_numerator 45 = .ok (.ireturn, 1) := by decide +kernel
set_option maxRecDepth 20000 in
theorem ggX3_pivot_X3_place : GoodIn wsX3_pivot wsX3_place := goodIn_r _ [6, 7, 18, 19, 20, 21, 22, 23, 24, 25, 26, 27, 28, 29] (by decide +kernel) (by decide +kernel)
set_option maxRecDepth 20000 in
theorem gX3_pivot_X3_place : GoodIn wsX3_pivot (wsV RX3 49 RX3 yX3_place wsX3_place) := goodIn_app (goodIn_of _ (by decide +kernel)) ggX3_pivot_X3_place
set_option maxRecDepth 20000 in
theorem ggX3_pivot_X3_told : GoodIn wsX3_pivot wsX3_told := goodIn_r _ [11, 12, 13, 14, 15, 16, 5, 17, 18, 19, 20, 21, 22, 23, 24, 25, 26, 27, 28, 29] (by decide +kernel) (by decide +kernel)
set_option maxRecDepth 20000 in
theorem gX3_pivot_X3_told : GoodIn wsX3_pivot (wsV RX3 107 RX3 yX3_told wsX3_told) := goodIn_app (goodIn_of _ (by decide +kernel)) ggX3_pivot_X3_told
theorem dX3_pivot_0 : decode cX3_pivot 0 = .ok (.iload_n 1, 1) := by decide +kernel
theorem dX3_pivot_1 : decode cX3_pivot 1 = .ok (.ifCond .lt 26, 3) := by decide +kernel
theorem dX3_pivot_4 : decode cX3_pivot 4 = .ok (.iload_n 1, 1) := by decide +kernel
theorem dX3_pivot_5 : decode cX3_pivot 5 = .ok (.aload_n 0, 1) := by decide +kernel
theorem dX3_pivot_6 : decode cX3_pivot 6 = .ok (.getfield 38, 3) := by decide +kernel
theorem dX3_pivot_9 : decode cX3_pivot 9 = .ok (.if_icmp .ge 18, 3) := by decide +kernel
theorem dX3_pivot_12 : decode cX3_pivot 12 = .ok (.aload_n 0, 1) := by decide +kernel
theorem dX3_pivot_13 : decode cX3_pivot 13 = .ok (.aload_n 0, 1) := by decide +kernel
theorem dX3_pivot_14 : decode cX3_pivot 14 = .ok (.iload_n 1, 1) := by decide +kernel
theorem dX3_pivot_15 : decode cX3_pivot 15 = .ok (.iload_n 1, 1) := by decide +kernel
theorem dX3_pivot_16 : decode cX3_pivot 16 = .ok (.invokevirtual 49, 3) := by decide +kernel
theorem dX3_pivot_19 : decode cX3_pivot 19 = .ok (.iload_n 2, 1) := by decide +kernel
theorem dX3_pivot_20 : decode cX3_pivot 20 = .ok (.iconst 1, 1) := by decide +kernel
theorem dX3_pivot_21 : decode cX3_pivot 21 = .ok (.invokevirtual 107, 3) := by decide +kernel
theorem dX3_pivot_24 : decode cX3_pivot 24 = .ok (.goto 4, 3) := by decide +kernel
theorem dX3_pivot_27 : decode cX3_pivot 27 = .ok (.iconst (-1), 1) := by decide +kernel
theorem dX3_pivot_28 : decode cX3_pivot 28 = .ok (.ireturn, 1) := by decide +kernel
set_option maxRecDepth 20000 in
theorem ggX3_number_X3_isPlace : GoodIn wsX3_number wsX3_isPlace := goodIn_r _ [5, 6, 21, 22, 23, 24, 25, 26, 27, 28, 29, 30, 31, 32] (by decide +kernel) (by decide +kernel)
set_option maxRecDepth 20000 in
theorem gX3_number_X3_isPlace : GoodIn wsX3_number (wsV RX3 45 RX3 yX3_isPlace wsX3_isPlace) := goodIn_app (goodIn_of _ (by decide +kernel)) ggX3_number_X3_isPlace
set_option maxRecDepth 20000 in
theorem ggX3_number_X3_place : GoodIn wsX3_number wsX3_place := goodIn_r _ [10, 6, 21, 22, 23, 24, 25, 26, 27, 28, 29, 30, 31, 32] (by decide +kernel) (by decide +kernel)
set_option maxRecDepth 20000 in
theorem gX3_number_X3_place : GoodIn wsX3_number (wsV RX3 49 RX3 yX3_place wsX3_place) := goodIn_app (goodIn_of _ (by decide +kernel)) ggX3_number_X3_place
set_option maxRecDepth 20000 in
theorem ggX3_number_X3_told : GoodIn wsX3_number wsX3_told := goodIn_r _ [14, 15, 16, 17, 18, 19, 4, 20, 21, 22, 23, 24, 25, 26, 27, 28, 29, 30, 31, 32] (by decide +kernel) (by decide +kernel)
set_option maxRecDepth 20000 in
theorem gX3_number_X3_told : GoodIn wsX3_number (wsV RX3 107 RX3 yX3_told wsX3_told) := goodIn_app (goodIn_of _ (by decide +kernel)) ggX3_number_X3_told
theorem dX3_number_0 : decode cX3_number 0 = .ok (.aload_n 0, 1) := by decide +kernel
theorem dX3_number_1 : decode cX3_number 1 = .ok (.iload_n 1, 1) := by decide +kernel
theorem dX3_number_2 : decode cX3_number 2 = .ok (.iload_n 2, 1) := by decide +kernel
theorem dX3_number_3 : decode cX3_number 3 = .ok (.invokevirtual 45, 3) := by decide +kernel
theorem dX3_number_6 : decode cX3_number 6 = .ok (.ifCond .eq 18, 3) := by decide +kernel
theorem dX3_number_9 : decode cX3_number 9 = .ok (.aload_n 0, 1) := by decide +kernel
theorem dX3_number_10 : decode cX3_number 10 = .ok (.aload_n 0, 1) := by decide +kernel
theorem dX3_number_11 : decode cX3_number 11 = .ok (.iload_n 1, 1) := by decide +kernel
theorem dX3_number_12 : decode cX3_number 12 = .ok (.iload_n 2, 1) := by decide +kernel
theorem dX3_number_13 : decode cX3_number 13 = .ok (.invokevirtual 49, 3) := by decide +kernel
theorem dX3_number_16 : decode cX3_number 16 = .ok (.iload_n 3, 1) := by decide +kernel
theorem dX3_number_17 : decode cX3_number 17 = .ok (.iconst 1, 1) := by decide +kernel
theorem dX3_number_18 : decode cX3_number 18 = .ok (.invokevirtual 107, 3) := by decide +kernel
theorem dX3_number_21 : decode cX3_number 21 = .ok (.goto 4, 3) := by decide +kernel
theorem dX3_number_24 : decode cX3_number 24 = .ok (.iconst (-1), 1) := by decide +kernel
theorem dX3_number_25 : decode cX3_number 25 = .ok (.ireturn, 1) := by decide +kernel
theorem dX3_row_0 : decode cX3_row 0 = .ok (.iload_n 1, 1) := by decide +kernel
theorem dX3_row_1 : decode cX3_row 1 = .ok (.ifCond .lt 20, 3) := by decide +kernel
theorem dX3_row_4 : decode cX3_row 4 = .ok (.iload_n 1, 1) := by decide +kernel
theorem dX3_row_5 : decode cX3_row 5 = .ok (.aload_n 0, 1) := by decide +kernel
theorem dX3_row_6 : decode cX3_row 6 = .ok (.getfield 19, 3) := by decide +kernel
theorem dX3_row_9 : decode cX3_row 9 = .ok (.if_icmp .ge 12, 3) := by decide +kernel
theorem dX3_row_12 : decode cX3_row 12 = .ok (.aload_n 0, 1) := by decide +kernel
theorem dX3_row_13 : decode cX3_row 13 = .ok (.getfield 16, 3) := by decide +kernel
theorem dX3_row_16 : decode cX3_row 16 = .ok (.iload_n 1, 1) := by decide +kernel
theorem dX3_row_17 : decode cX3_row 17 = .ok (.iaload, 1) := by decide +kernel
theorem dX3_row_18 : decode cX3_row 18 = .ok (.goto 4, 3) := by decide +kernel
theorem dX3_row_21 : decode cX3_row 21 = .ok (.iconst (-1), 1) := by decide +kernel
theorem dX3_row_22 : decode cX3_row 22 = .ok (.ireturn, 1) := by decide +kernel
theorem dX3_holds_0 : decode cX3_holds 0 = .ok (.aload_n 0, 1) := by decide +kernel
theorem dX3_holds_1 : decode cX3_holds 1 = .ok (.getfield 32, 3) := by decide +kernel
theorem dX3_holds_4 : decode cX3_holds 4 = .ok (.iconst 1, 1) := by decide +kernel
theorem dX3_holds_5 : decode cX3_holds 5 = .ok (.if_icmp .ne 7, 3) := by decide +kernel
theorem dX3_holds_8 : decode cX3_holds 8 = .ok (.iconst 1, 1) := by decide +kernel
theorem dX3_holds_9 : decode cX3_holds 9 = .ok (.goto 4, 3) := by decide +kernel
theorem dX3_holds_12 : decode cX3_holds 12 = .ok (.iconst 0, 1) := by decide +kernel
theorem dX3_holds_13 : decode cX3_holds 13 = .ok (.ireturn, 1) := by decide +kernel
theorem dL_cell_0 : decode cL_cell 0 = .ok (.iload_n 1, 1) := by decide +kernel
theorem dL_cell_1 : decode cL_cell 1 = .ok (.aload_n 0, 1) := by decide +kernel
theorem dL_cell_2 : decode cL_cell 2 = .ok (.arraylength, 1) := by decide +kernel
theorem dL_cell_3 : decode cL_cell 3 = .ok (.if_icmp .ge 9, 3) := by decide +kernel
theorem dL_cell_6 : decode cL_cell 6 = .ok (.aload_n 0, 1) := by decide +kernel
theorem dL_cell_7 : decode cL_cell 7 = .ok (.iload_n 1, 1) := by decide +kernel
theorem dL_cell_8 : decode cL_cell 8 = .ok (.iaload, 1) := by decide +kernel
theorem dL_cell_9 : decode cL_cell 9 = .ok (.goto 4, 3) := by decide +kernel
theorem dL_cell_12 : decode cL_cell 12 = .ok (.iconst 0, 1) := by decide +kernel
theorem dL_cell_13 : decode cL_cell 13 = .ok (.ireturn, 1) := by decide +kernel
set_option maxRecDepth 20000 in
theorem ggL_law_L_cell : GoodIn wsL_law wsL_cell := goodIn_r _ [9] (by decide +kernel) (by decide +kernel)
set_option maxRecDepth 20000 in
theorem gL_law_L_cell : GoodIn wsL_law (va_wsS RL 9 yL_cell wsL_cell) := goodIn_app (goodIn_of _ (by decide +kernel)) ggL_law_L_cell
set_option maxRecDepth 20000 in
theorem ggL_law_X2_init : GoodIn wsL_law wsX2_init := goodIn_r _ [12, 13, 14, 15, 16, 17, 18, 19, 20, 21, 22, 23, 24, 25, 26, 27, 28, 29, 30, 31, 2, 32, 33, 34, 35, 36, 37, 38, 39, 40, 41, 42, 43, 44, 45, 46, 47, 48, 49, 50, 51, 52, 53, 54, 55, 56, 57, 58, 59, 60, 61, 62, 63, 64, 65, 66, 67, 68, 69, 70, 71, 72, 73, 74, 401, 402, 403, 404, 405, 406, 407, 408, 409, 410, 411, 412, 413, 414, 427, 428, 429, 430, 431, 432, 433, 434, 435, 436] (by decide +kernel) (by decide +kernel)
set_option maxRecDepth 20000 in
theorem gL_law_X2_init : GoodIn wsL_law (wsX2_init) := ggL_law_X2_init
set_option maxRecDepth 20000 in
theorem ggL_law_X3_init : GoodIn wsL_law wsX3_init := goodIn_r _ [77, 78, 14, 15, 28, 79, 80, 81, 82, 83, 84, 85, 86, 5, 87, 88, 89, 90, 91, 92, 415, 416, 417, 418, 419, 420, 421, 422, 423, 424, 425, 426] (by decide +kernel) (by decide +kernel)
set_option maxRecDepth 20000 in
theorem gL_law_X3_init : GoodIn wsL_law (wsX3_init) := ggL_law_X3_init
set_option maxRecDepth 20000 in
theorem ggL_law_X2_reset : GoodIn wsL_law wsX2_reset := goodIn_r _ [96, 56, 57, 58, 2, 59, 21, 16, 29, 60, 61, 62, 63, 64, 65, 66, 67, 68, 69, 20, 70, 45, 46, 71, 72, 73, 74, 401, 402, 403, 404, 405, 406, 407, 408, 409, 410, 411, 412, 413, 414, 427, 428, 429, 430] (by decide +kernel) (by decide +kernel)
set_option maxRecDepth 20000 in
theorem gL_law_X2_reset : GoodIn wsL_law (wsV RL 21 RX2 yX2_reset wsX2_reset) := goodIn_app (goodIn_of _ (by decide +kernel)) ggL_law_X2_reset
set_option maxRecDepth 20000 in
theorem ggL_law_X3_reset : GoodIn wsL_law wsX3_reset := goodIn_r _ [87, 79, 80, 81, 88, 89, 90, 91, 92, 415, 416, 417, 418, 419, 420, 421, 422, 423, 424, 425, 426] (by decide +kernel) (by decide +kernel)
set_option maxRecDepth 20000 in
theorem gL_law_X3_reset : GoodIn wsL_law (wsV RL 24 RX3 yX3_reset wsX3_reset) := goodIn_app (goodIn_of _ (by decide +kernel)) ggL_law_X3_reset
set_option maxRecDepth 20000 in
theorem ggL_law_X2_entry : GoodIn wsL_law wsX2_entry := goodIn_r _ [101, 60, 64, 65, 66, 21, 102, 103, 104, 2, 105, 16, 106, 107, 108, 109, 29, 110, 111, 112, 20, 113, 45, 46, 401, 402, 403, 404, 405, 406, 407, 408, 409, 410, 411, 412, 413, 414, 427, 428, 429, 430] (by decide +kernel) (by decide +kernel)
set_option maxRecDepth 20000 in
theorem gL_law_X2_entry : GoodIn wsL_law (wsV RL 25 RX2 yX2_entry wsX2_entry) := goodIn_app (goodIn_of _ (by decide +kernel)) ggL_law_X2_entry
set_option maxRecDepth 20000 in
theorem ggL_law_X3_entry : GoodIn wsL_law wsX3_entry := goodIn_r _ [117, 89, 88, 118, 119, 120, 121, 122, 5, 123, 82, 124, 125, 126, 127, 128, 129, 130, 131, 79, 80, 415, 416, 417, 418, 419, 420, 421, 422, 423, 424, 425, 426] (by decide +kernel) (by decide +kernel)
set_option maxRecDepth 20000 in
theorem gL_law_X3_entry : GoodIn wsL_law (wsV RL 29 RX3 yX3_entry wsX3_entry) := goodIn_app (goodIn_of _ (by decide +kernel)) ggL_law_X3_entry
set_option maxRecDepth 20000 in
theorem ggL_law_X2_limb : GoodIn wsL_law wsX2_limb := goodIn_r _ [135, 64, 65, 66, 17, 21, 136, 137, 138, 20, 139, 47, 44, 46, 45, 401, 402, 403, 404, 405, 406, 407, 408, 409, 410, 411, 412, 413, 414, 427, 428, 429, 430] (by decide +kernel) (by decide +kernel)
set_option maxRecDepth 20000 in
theorem gL_law_X2_limb : GoodIn wsL_law (wsV RL 30 RX2 yX2_limb wsX2_limb) := goodIn_app (goodIn_of _ (by decide +kernel)) ggL_law_X2_limb
set_option maxRecDepth 20000 in
theorem ggL_law_X3_limb : GoodIn wsL_law wsX3_limb := goodIn_r _ [143, 89, 88, 118, 119, 83, 79, 80, 415, 416, 417, 418, 419, 420, 421, 422, 423, 424, 425, 426] (by decide +kernel) (by decide +kernel)
set_option maxRecDepth 20000 in
theorem gL_law_X3_limb : GoodIn wsL_law (wsV RL 34 RX3 yX3_limb wsX3_limb) := goodIn_app (goodIn_of _ (by decide +kernel)) ggL_law_X3_limb
set_option maxRecDepth 20000 in
theorem ggL_law_X2_step : GoodIn wsL_law wsX2_step := goodIn_r _ [147, 60, 61, 16, 148, 149, 150, 2, 151, 152, 153, 154, 155, 64, 22, 21, 156, 157, 158, 20, 159, 47, 44, 46, 160, 161, 162, 163, 45, 164, 165, 166, 167, 62, 168, 169, 170, 171, 106, 107, 108, 109, 29, 172, 173, 174, 175, 176, 177, 178, 179, 63, 180, 181, 182, 183, 27, 184, 185, 186, 26, 187, 53, 54, 188, 189, 190, 72, 73, 74, 191, 192, 193, 194, 195, 196, 197, 198, 199, 200, 201, 202, 203, 204, 205, 206, 207, 208, 209, 210, 211, 212, 213, 214, 215, 216, 217, 218, 219, 220, 221, 222, 55, 223, 224, 225, 226, 227, 228, 229, 230, 231, 232, 233, 234, 235, 236, 237, 38, 35, 39, 238, 239, 240, 241, 242, 243, 244, 245, 246, 247, 248, 249, 52, 250, 251, 252, 253, 254, 255, 256, 257, 23, 258, 259, 260, 261, 262, 263, 264, 265, 401, 402, 403, 404, 405, 406, 407, 408, 409, 410, 411, 412, 413, 414, 427, 428, 429, 430, 431, 432, 433, 434, 435, 436] (by decide +kernel) (by decide +kernel)
set_option maxRecDepth 20000 in
theorem gL_law_X2_step : GoodIn wsL_law (wsV RL 35 RX2 yX2_step wsX2_step) := goodIn_app (goodIn_of _ (by decide +kernel)) ggL_law_X2_step
set_option maxRecDepth 20000 in
theorem ggL_law_X3_step : GoodIn wsL_law wsX3_step := goodIn_r _ [269, 89, 90, 82, 270, 271, 272, 5, 273, 80, 91, 83, 124, 125, 126, 127, 274, 275, 276, 277, 81, 92, 278, 279, 280, 281, 79, 282, 283, 284, 285, 286, 128, 129, 130, 131, 287, 288, 289, 290, 291, 292, 293, 294, 295, 296, 297, 298, 299, 300, 301, 302, 303, 304, 305, 306, 307, 308, 309, 310, 311, 312, 313, 314, 315, 316, 317, 318, 319, 415, 416, 417, 418, 419, 420, 421, 422, 423, 424, 425, 426] (by decide +kernel) (by decide +kernel)
set_option maxRecDepth 20000 in
theorem gL_law_X3_step : GoodIn wsL_law (wsV RL 39 RX3 yX3_step wsX3_step) := goodIn_app (goodIn_of _ (by decide +kernel)) ggL_law_X3_step
set_option maxRecDepth 20000 in
theorem ggL_law_X2_status : GoodIn wsL_law wsX2_status := goodIn_r _ [323, 60, 401, 402, 403, 404, 405, 406, 407, 408, 409, 410, 411, 412, 413, 414] (by decide +kernel) (by decide +kernel)
set_option maxRecDepth 20000 in
theorem gL_law_X2_status : GoodIn wsL_law (wsV RL 40 RX2 yX2_status wsX2_status) := goodIn_app (goodIn_of _ (by decide +kernel)) ggL_law_X2_status
set_option maxRecDepth 20000 in
theorem ggL_law_X3_status : GoodIn wsL_law wsX3_status := goodIn_r _ [327, 89, 415, 416, 417, 418, 419, 420, 421, 422, 423, 424, 425, 426] (by decide +kernel) (by decide +kernel)
set_option maxRecDepth 20000 in
theorem gL_law_X3_status : GoodIn wsL_law (wsV RL 43 RX3 yX3_status wsX3_status) := goodIn_app (goodIn_of _ (by decide +kernel)) ggL_law_X3_status
set_option maxRecDepth 20000 in
theorem ggL_law_X2_steps : GoodIn wsL_law wsX2_steps := goodIn_r _ [331, 61, 401, 402, 403, 404, 405, 406, 407, 408, 409, 410, 411, 412, 413, 414] (by decide +kernel) (by decide +kernel)
set_option maxRecDepth 20000 in
theorem gL_law_X2_steps : GoodIn wsL_law (wsV RL 44 RX2 yX2_steps wsX2_steps) := goodIn_app (goodIn_of _ (by decide +kernel)) ggL_law_X2_steps
set_option maxRecDepth 20000 in
theorem ggL_law_X3_steps : GoodIn wsL_law wsX3_steps := goodIn_r _ [335, 90, 415, 416, 417, 418, 419, 420, 421, 422, 423, 424, 425, 426] (by decide +kernel) (by decide +kernel)
set_option maxRecDepth 20000 in
theorem gL_law_X3_steps : GoodIn wsL_law (wsV RL 47 RX3 yX3_steps wsX3_steps) := goodIn_app (goodIn_of _ (by decide +kernel)) ggL_law_X3_steps
set_option maxRecDepth 20000 in
theorem ggL_law_X2_determinant : GoodIn wsL_law wsX2_determinant := goodIn_r _ [339, 60, 23, 16, 340, 341, 342, 20, 343, 45, 46, 344, 201, 202, 203, 47, 44, 401, 402, 403, 404, 405, 406, 407, 408, 409, 410, 411, 412, 413, 414, 427, 428, 429, 430] (by decide +kernel) (by decide +kernel)
set_option maxRecDepth 20000 in
theorem gL_law_X2_determinant : GoodIn wsL_law (wsV RL 48 RX2 yX2_determinant wsX2_determinant) := goodIn_app (goodIn_of _ (by decide +kernel)) ggL_law_X2_determinant
set_option maxRecDepth 20000 in
theorem ggL_law_X3_determinant : GoodIn wsL_law wsX3_determinant := goodIn_r _ [348, 89, 82, 92, 124, 125, 126, 5, 127, 349, 350, 351, 352, 80, 79, 287, 288, 289, 290, 415, 416, 417, 418, 419, 420, 421, 422, 423, 424, 425, 426] (by decide +kernel) (by decide +kernel)
set_option maxRecDepth 20000 in
theorem gL_law_X3_determinant : GoodIn wsL_law (wsV RL 52 RX3 yX3_determinant wsX3_determinant) := goodIn_app (goodIn_of _ (by decide +kernel)) ggL_law_X3_determinant
set_option maxRecDepth 20000 in
theorem ggL_law_X2_numerator : GoodIn wsL_law wsX2_numerator := goodIn_r _ [356, 60, 16, 23, 340, 341, 342, 20, 343, 45, 46, 344, 201, 202, 203, 47, 44, 401, 402, 403, 404, 405, 406, 407, 408, 409, 410, 411, 412, 413, 414, 427, 428, 429, 430] (by decide +kernel) (by decide +kernel)
set_option maxRecDepth 20000 in
theorem gL_law_X2_numerator : GoodIn wsL_law (wsV RL 53 RX2 yX2_numerator wsX2_numerator) := goodIn_app (goodIn_of _ (by decide +kernel)) ggL_law_X2_numerator
set_option maxRecDepth 20000 in
theorem ggL_law_X3_numerator : GoodIn wsL_law wsX3_numerator := goodIn_r _ [360, 89, 82, 92, 349, 350, 351, 5, 352, 80, 79, 287, 288, 289, 290, 415, 416, 417, 418, 419, 420, 421, 422, 423, 424, 425, 426] (by decide +kernel) (by decide +kernel)
set_option maxRecDepth 20000 in
theorem gL_law_X3_numerator : GoodIn wsL_law (wsV RL 57 RX3 yX3_numerator wsX3_numerator) := goodIn_app (goodIn_of _ (by decide +kernel)) ggL_law_X3_numerator
set_option maxRecDepth 20000 in
theorem ggL_law_X2_pivot : GoodIn wsL_law wsX2_pivot := goodIn_r _ [364, 62, 21, 106, 107, 108, 2, 109, 29, 16, 340, 341, 342, 20, 343, 45, 46, 344, 201, 202, 203, 47, 44, 401, 402, 403, 404, 405, 406, 407, 408, 409, 410, 411, 412, 413, 414, 427, 428, 429, 430] (by decide +kernel) (by decide +kernel)
set_option maxRecDepth 20000 in
theorem gL_law_X2_pivot : GoodIn wsL_law (wsV RL 58 RX2 yX2_pivot wsX2_pivot) := goodIn_app (goodIn_of _ (by decide +kernel)) ggL_law_X2_pivot
set_option maxRecDepth 20000 in
theorem ggL_law_X3_pivot : GoodIn wsL_law wsX3_pivot := goodIn_r _ [368, 91, 124, 125, 126, 5, 127, 82, 349, 350, 351, 352, 80, 79, 287, 288, 289, 290, 415, 416, 417, 418, 419, 420, 421, 422, 423, 424, 425, 426] (by decide +kernel) (by decide +kernel)
set_option maxRecDepth 20000 in
theorem gL_law_X3_pivot : GoodIn wsL_law (wsV RL 61 RX3 yX3_pivot wsX3_pivot) := goodIn_app (goodIn_of _ (by decide +kernel)) ggL_law_X3_pivot
set_option maxRecDepth 20000 in
theorem ggL_law_X2_number : GoodIn wsL_law wsX2_number := goodIn_r _ [372, 21, 102, 103, 104, 2, 105, 16, 106, 107, 108, 109, 29, 340, 341, 342, 20, 343, 45, 46, 344, 201, 202, 203, 47, 44, 401, 402, 403, 404, 405, 406, 407, 408, 409, 410, 411, 412, 413, 414, 427, 428, 429, 430] (by decide +kernel) (by decide +kernel)
set_option maxRecDepth 20000 in
theorem gL_law_X2_number : GoodIn wsL_law (wsV RL 62 RX2 yX2_number wsX2_number) := goodIn_app (goodIn_of _ (by decide +kernel)) ggL_law_X2_number
set_option maxRecDepth 20000 in
theorem ggL_law_X3_number : GoodIn wsL_law wsX3_number := goodIn_r _ [376, 120, 121, 122, 5, 123, 82, 124, 125, 126, 127, 349, 350, 351, 352, 80, 79, 287, 288, 289, 290, 415, 416, 417, 418, 419, 420, 421, 422, 423, 424, 425, 426] (by decide +kernel) (by decide +kernel)
set_option maxRecDepth 20000 in
theorem gL_law_X3_number : GoodIn wsL_law (wsV RL 66 RX3 yX3_number wsX3_number) := goodIn_app (goodIn_of _ (by decide +kernel)) ggL_law_X3_number
set_option maxRecDepth 20000 in
theorem ggL_law_X2_row : GoodIn wsL_law wsX2_row := goodIn_r _ [380, 16, 29, 401, 402, 403, 404, 405, 406, 407, 408, 409, 410, 411, 412, 413, 414] (by decide +kernel) (by decide +kernel)
set_option maxRecDepth 20000 in
theorem gL_law_X2_row : GoodIn wsL_law (wsV RL 67 RX2 yX2_row wsX2_row) := goodIn_app (goodIn_of _ (by decide +kernel)) ggL_law_X2_row
set_option maxRecDepth 20000 in
theorem ggL_law_X3_row : GoodIn wsL_law wsX3_row := goodIn_r _ [384, 82, 81, 415, 416, 417, 418, 419, 420, 421, 422, 423, 424, 425, 426] (by decide +kernel) (by decide +kernel)
set_option maxRecDepth 20000 in
theorem gL_law_X3_row : GoodIn wsL_law (wsV RL 70 RX3 yX3_row wsX3_row) := goodIn_app (goodIn_of _ (by decide +kernel)) ggL_law_X3_row
set_option maxRecDepth 20000 in
theorem ggL_law_X2_holds : GoodIn wsL_law wsX2_holds := goodIn_r _ [388, 60, 16, 389, 390, 391, 2, 392, 27, 22, 23, 184, 185, 186, 26, 187, 53, 54, 188, 189, 190, 72, 73, 74, 191, 192, 193, 194, 195, 173, 174, 20, 175, 45, 196, 197, 198, 199, 46, 200, 201, 202, 203, 47, 44, 204, 205, 206, 207, 393, 394, 395, 396, 212, 213, 214, 215, 401, 402, 403, 404, 405, 406, 407, 408, 409, 410, 411, 412, 413, 414, 431, 432, 433, 434, 435, 436, 427, 428, 429, 430] (by decide +kernel) (by decide +kernel)
set_option maxRecDepth 20000 in
theorem gL_law_X2_holds : GoodIn wsL_law (wsV RL 71 RX2 yX2_holds wsX2_holds) := goodIn_app (goodIn_of _ (by decide +kernel)) ggL_law_X2_holds
set_option maxRecDepth 20000 in
theorem ggL_law_X3_holds : GoodIn wsL_law wsX3_holds := goodIn_r _ [400, 89, 415, 416, 417, 418, 419, 420, 421, 422, 423, 424, 425, 426] (by decide +kernel) (by decide +kernel)
set_option maxRecDepth 20000 in
theorem gL_law_X3_holds : GoodIn wsL_law (wsV RL 75 RX3 yX3_holds wsX3_holds) := goodIn_app (goodIn_of _ (by decide +kernel)) ggL_law_X3_holds
theorem dL_law_0 : decode cL_law 0 = .ok (.new 7, 3) := by decide +kernel
theorem dL_law_3 : decode cL_law 3 = .ok (.dup, 1) := by decide +kernel
theorem dL_law_4 : decode cL_law 4 = .ok (.aload_n 0, 1) := by decide +kernel
theorem dL_law_5 : decode cL_law 5 = .ok (.iconst 0, 1) := by decide +kernel
theorem dL_law_6 : decode cL_law 6 = .ok (.invokestatic 9, 3) := by decide +kernel
theorem dL_law_9 : decode cL_law 9 = .ok (.aload_n 0, 1) := by decide +kernel
theorem dL_law_10 : decode cL_law 10 = .ok (.iconst 1, 1) := by decide +kernel
theorem dL_law_11 : decode cL_law 11 = .ok (.invokestatic 9, 3) := by decide +kernel
theorem dL_law_14 : decode cL_law 14 = .ok (.invokespecial 15, 3) := by decide +kernel
theorem dL_law_17 : decode cL_law 17 = .ok (.astore_n 1, 1) := by decide +kernel
theorem dL_law_18 : decode cL_law 18 = .ok (.new 18, 3) := by decide +kernel
theorem dL_law_21 : decode cL_law 21 = .ok (.dup, 1) := by decide +kernel
theorem dL_law_22 : decode cL_law 22 = .ok (.aload_n 0, 1) := by decide +kernel
theorem dL_law_23 : decode cL_law 23 = .ok (.iconst 0, 1) := by decide +kernel
theorem dL_law_24 : decode cL_law 24 = .ok (.invokestatic 9, 3) := by decide +kernel
theorem dL_law_27 : decode cL_law 27 = .ok (.aload_n 0, 1) := by decide +kernel
theorem dL_law_28 : decode cL_law 28 = .ok (.iconst 1, 1) := by decide +kernel
theorem dL_law_29 : decode cL_law 29 = .ok (.invokestatic 9, 3) := by decide +kernel
theorem dL_law_32 : decode cL_law 32 = .ok (.invokespecial 20, 3) := by decide +kernel
theorem dL_law_35 : decode cL_law 35 = .ok (.astore_n 2, 1) := by decide +kernel
theorem dL_law_36 : decode cL_law 36 = .ok (.iconst 2, 1) := by decide +kernel
theorem dL_law_37 : decode cL_law 37 = .ok (.istore_n 3, 1) := by decide +kernel
theorem dL_law_38 : decode cL_law 38 = .ok (.iload_n 3, 1) := by decide +kernel
theorem dL_law_39 : decode cL_law 39 = .ok (.aload_n 0, 1) := by decide +kernel
theorem dL_law_40 : decode cL_law 40 = .ok (.arraylength, 1) := by decide +kernel
theorem dL_law_41 : decode cL_law 41 = .ok (.iconst 4, 1) := by decide +kernel
theorem dL_law_42 : decode cL_law 42 = .ok (.isub, 1) := by decide +kernel
theorem dL_law_43 : decode cL_law 43 = .ok (.if_icmp .gt 363, 3) := by decide +kernel
theorem dL_law_46 : decode cL_law 46 = .ok (.aload_n 0, 1) := by decide +kernel
theorem dL_law_47 : decode cL_law 47 = .ok (.iload_n 3, 1) := by decide +kernel
theorem dL_law_48 : decode cL_law 48 = .ok (.iaload, 1) := by decide +kernel
theorem dL_law_49 : decode cL_law 49 = .ok (.bipush 15, 2) := by decide +kernel
theorem dL_law_51 : decode cL_law 51 = .ok (.iand, 1) := by decide +kernel
theorem dL_law_52 : decode cL_law 52 = .ok (.tableswitch 348 0 11 #[64, 75, 118, 141, 154, 167, 180, 203, 236, 269, 312, 335], 64) := by decide +kernel
theorem dL_law_116 : decode cL_law 116 = .ok (.aload_n 1, 1) := by decide +kernel
theorem dL_law_117 : decode cL_law 117 = .ok (.invokevirtual 21, 3) := by decide +kernel
theorem dL_law_120 : decode cL_law 120 = .ok (.aload_n 2, 1) := by decide +kernel
theorem dL_law_121 : decode cL_law 121 = .ok (.invokevirtual 24, 3) := by decide +kernel
theorem dL_law_124 : decode cL_law 124 = .ok (.goto 276, 3) := by decide +kernel
theorem dL_law_127 : decode cL_law 127 = .ok (.aload_n 1, 1) := by decide +kernel
theorem dL_law_128 : decode cL_law 128 = .ok (.aload_n 0, 1) := by decide +kernel
theorem dL_law_129 : decode cL_law 129 = .ok (.iload_n 3, 1) := by decide +kernel
theorem dL_law_130 : decode cL_law 130 = .ok (.iconst 1, 1) := by decide +kernel
theorem dL_law_131 : decode cL_law 131 = .ok (.iadd, 1) := by decide +kernel
theorem dL_law_132 : decode cL_law 132 = .ok (.iaload, 1) := by decide +kernel
theorem dL_law_133 : decode cL_law 133 = .ok (.aload_n 0, 1) := by decide +kernel
theorem dL_law_134 : decode cL_law 134 = .ok (.iload_n 3, 1) := by decide +kernel
theorem dL_law_135 : decode cL_law 135 = .ok (.iconst 2, 1) := by decide +kernel
theorem dL_law_136 : decode cL_law 136 = .ok (.iadd, 1) := by decide +kernel
theorem dL_law_137 : decode cL_law 137 = .ok (.iaload, 1) := by decide +kernel
theorem dL_law_138 : decode cL_law 138 = .ok (.aload_n 0, 1) := by decide +kernel
theorem dL_law_139 : decode cL_law 139 = .ok (.iload_n 3, 1) := by decide +kernel
theorem dL_law_140 : decode cL_law 140 = .ok (.iconst 3, 1) := by decide +kernel
theorem dL_law_141 : decode cL_law 141 = .ok (.iadd, 1) := by decide +kernel
theorem dL_law_142 : decode cL_law 142 = .ok (.iaload, 1) := by decide +kernel
theorem dL_law_143 : decode cL_law 143 = .ok (.invokevirtual 25, 3) := by decide +kernel
theorem dL_law_146 : decode cL_law 146 = .ok (.aload_n 2, 1) := by decide +kernel
theorem dL_law_147 : decode cL_law 147 = .ok (.aload_n 0, 1) := by decide +kernel
theorem dL_law_148 : decode cL_law 148 = .ok (.iload_n 3, 1) := by decide +kernel
theorem dL_law_149 : decode cL_law 149 = .ok (.iconst 1, 1) := by decide +kernel
theorem dL_law_150 : decode cL_law 150 = .ok (.iadd, 1) := by decide +kernel
theorem dL_law_151 : decode cL_law 151 = .ok (.iaload, 1) := by decide +kernel
theorem dL_law_152 : decode cL_law 152 = .ok (.aload_n 0, 1) := by decide +kernel
theorem dL_law_153 : decode cL_law 153 = .ok (.iload_n 3, 1) := by decide +kernel
theorem dL_law_154 : decode cL_law 154 = .ok (.iconst 2, 1) := by decide +kernel
theorem dL_law_155 : decode cL_law 155 = .ok (.iadd, 1) := by decide +kernel
theorem dL_law_156 : decode cL_law 156 = .ok (.iaload, 1) := by decide +kernel
theorem dL_law_157 : decode cL_law 157 = .ok (.aload_n 0, 1) := by decide +kernel
theorem dL_law_158 : decode cL_law 158 = .ok (.iload_n 3, 1) := by decide +kernel
theorem dL_law_159 : decode cL_law 159 = .ok (.iconst 3, 1) := by decide +kernel
theorem dL_law_160 : decode cL_law 160 = .ok (.iadd, 1) := by decide +kernel
theorem dL_law_161 : decode cL_law 161 = .ok (.iaload, 1) := by decide +kernel
theorem dL_law_162 : decode cL_law 162 = .ok (.invokevirtual 29, 3) := by decide +kernel
theorem dL_law_165 : decode cL_law 165 = .ok (.if_icmp .eq 235, 3) := by decide +kernel
theorem dL_law_168 : decode cL_law 168 = .ok (.iconst 0, 1) := by decide +kernel
theorem dL_law_169 : decode cL_law 169 = .ok (.ireturn, 1) := by decide +kernel
theorem dL_law_170 : decode cL_law 170 = .ok (.aload_n 1, 1) := by decide +kernel
theorem dL_law_171 : decode cL_law 171 = .ok (.aload_n 0, 1) := by decide +kernel
theorem dL_law_172 : decode cL_law 172 = .ok (.iload_n 3, 1) := by decide +kernel
theorem dL_law_173 : decode cL_law 173 = .ok (.iconst 1, 1) := by decide +kernel
theorem dL_law_174 : decode cL_law 174 = .ok (.iadd, 1) := by decide +kernel
theorem dL_law_175 : decode cL_law 175 = .ok (.iaload, 1) := by decide +kernel
theorem dL_law_176 : decode cL_law 176 = .ok (.invokevirtual 30, 3) := by decide +kernel
theorem dL_law_179 : decode cL_law 179 = .ok (.aload_n 2, 1) := by decide +kernel
theorem dL_law_180 : decode cL_law 180 = .ok (.aload_n 0, 1) := by decide +kernel
theorem dL_law_181 : decode cL_law 181 = .ok (.iload_n 3, 1) := by decide +kernel
theorem dL_law_182 : decode cL_law 182 = .ok (.iconst 1, 1) := by decide +kernel
theorem dL_law_183 : decode cL_law 183 = .ok (.iadd, 1) := by decide +kernel
theorem dL_law_184 : decode cL_law 184 = .ok (.iaload, 1) := by decide +kernel
theorem dL_law_185 : decode cL_law 185 = .ok (.invokevirtual 34, 3) := by decide +kernel
theorem dL_law_188 : decode cL_law 188 = .ok (.if_icmp .eq 212, 3) := by decide +kernel
theorem dL_law_191 : decode cL_law 191 = .ok (.iconst 0, 1) := by decide +kernel
theorem dL_law_192 : decode cL_law 192 = .ok (.ireturn, 1) := by decide +kernel
theorem dL_law_193 : decode cL_law 193 = .ok (.aload_n 1, 1) := by decide +kernel
theorem dL_law_194 : decode cL_law 194 = .ok (.invokevirtual 35, 3) := by decide +kernel
theorem dL_law_197 : decode cL_law 197 = .ok (.aload_n 2, 1) := by decide +kernel
theorem dL_law_198 : decode cL_law 198 = .ok (.invokevirtual 39, 3) := by decide +kernel
theorem dL_law_201 : decode cL_law 201 = .ok (.if_icmp .eq 199, 3) := by decide +kernel
theorem dL_law_204 : decode cL_law 204 = .ok (.iconst 0, 1) := by decide +kernel
theorem dL_law_205 : decode cL_law 205 = .ok (.ireturn, 1) := by decide +kernel
theorem dL_law_206 : decode cL_law 206 = .ok (.aload_n 1, 1) := by decide +kernel
theorem dL_law_207 : decode cL_law 207 = .ok (.invokevirtual 40, 3) := by decide +kernel
theorem dL_law_210 : decode cL_law 210 = .ok (.aload_n 2, 1) := by decide +kernel
theorem dL_law_211 : decode cL_law 211 = .ok (.invokevirtual 43, 3) := by decide +kernel
theorem dL_law_214 : decode cL_law 214 = .ok (.if_icmp .eq 186, 3) := by decide +kernel
theorem dL_law_217 : decode cL_law 217 = .ok (.iconst 0, 1) := by decide +kernel
theorem dL_law_218 : decode cL_law 218 = .ok (.ireturn, 1) := by decide +kernel
theorem dL_law_219 : decode cL_law 219 = .ok (.aload_n 1, 1) := by decide +kernel
theorem dL_law_220 : decode cL_law 220 = .ok (.invokevirtual 44, 3) := by decide +kernel
theorem dL_law_223 : decode cL_law 223 = .ok (.aload_n 2, 1) := by decide +kernel
theorem dL_law_224 : decode cL_law 224 = .ok (.invokevirtual 47, 3) := by decide +kernel
theorem dL_law_227 : decode cL_law 227 = .ok (.if_icmp .eq 173, 3) := by decide +kernel
theorem dL_law_230 : decode cL_law 230 = .ok (.iconst 0, 1) := by decide +kernel
theorem dL_law_231 : decode cL_law 231 = .ok (.ireturn, 1) := by decide +kernel
theorem dL_law_232 : decode cL_law 232 = .ok (.aload_n 1, 1) := by decide +kernel
theorem dL_law_233 : decode cL_law 233 = .ok (.aload_n 0, 1) := by decide +kernel
theorem dL_law_234 : decode cL_law 234 = .ok (.iload_n 3, 1) := by decide +kernel
theorem dL_law_235 : decode cL_law 235 = .ok (.iconst 1, 1) := by decide +kernel
theorem dL_law_236 : decode cL_law 236 = .ok (.iadd, 1) := by decide +kernel
theorem dL_law_237 : decode cL_law 237 = .ok (.iaload, 1) := by decide +kernel
theorem dL_law_238 : decode cL_law 238 = .ok (.invokevirtual 48, 3) := by decide +kernel
theorem dL_law_241 : decode cL_law 241 = .ok (.aload_n 2, 1) := by decide +kernel
theorem dL_law_242 : decode cL_law 242 = .ok (.aload_n 0, 1) := by decide +kernel
theorem dL_law_243 : decode cL_law 243 = .ok (.iload_n 3, 1) := by decide +kernel
theorem dL_law_244 : decode cL_law 244 = .ok (.iconst 1, 1) := by decide +kernel
theorem dL_law_245 : decode cL_law 245 = .ok (.iadd, 1) := by decide +kernel
theorem dL_law_246 : decode cL_law 246 = .ok (.iaload, 1) := by decide +kernel
theorem dL_law_247 : decode cL_law 247 = .ok (.invokevirtual 52, 3) := by decide +kernel
theorem dL_law_250 : decode cL_law 250 = .ok (.if_icmp .eq 150, 3) := by decide +kernel
theorem dL_law_253 : decode cL_law 253 = .ok (.iconst 0, 1) := by decide +kernel
theorem dL_law_254 : decode cL_law 254 = .ok (.ireturn, 1) := by decide +kernel
theorem dL_law_255 : decode cL_law 255 = .ok (.aload_n 1, 1) := by decide +kernel
theorem dL_law_256 : decode cL_law 256 = .ok (.aload_n 0, 1) := by decide +kernel
theorem dL_law_257 : decode cL_law 257 = .ok (.iload_n 3, 1) := by decide +kernel
theorem dL_law_258 : decode cL_law 258 = .ok (.iconst 1, 1) := by decide +kernel
theorem dL_law_259 : decode cL_law 259 = .ok (.iadd, 1) := by decide +kernel
theorem dL_law_260 : decode cL_law 260 = .ok (.iaload, 1) := by decide +kernel
theorem dL_law_261 : decode cL_law 261 = .ok (.aload_n 0, 1) := by decide +kernel
theorem dL_law_262 : decode cL_law 262 = .ok (.iload_n 3, 1) := by decide +kernel
theorem dL_law_263 : decode cL_law 263 = .ok (.iconst 2, 1) := by decide +kernel
theorem dL_law_264 : decode cL_law 264 = .ok (.iadd, 1) := by decide +kernel
theorem dL_law_265 : decode cL_law 265 = .ok (.iaload, 1) := by decide +kernel
theorem dL_law_266 : decode cL_law 266 = .ok (.invokevirtual 53, 3) := by decide +kernel
theorem dL_law_269 : decode cL_law 269 = .ok (.aload_n 2, 1) := by decide +kernel
theorem dL_law_270 : decode cL_law 270 = .ok (.aload_n 0, 1) := by decide +kernel
theorem dL_law_271 : decode cL_law 271 = .ok (.iload_n 3, 1) := by decide +kernel
theorem dL_law_272 : decode cL_law 272 = .ok (.iconst 1, 1) := by decide +kernel
theorem dL_law_273 : decode cL_law 273 = .ok (.iadd, 1) := by decide +kernel
theorem dL_law_274 : decode cL_law 274 = .ok (.iaload, 1) := by decide +kernel
theorem dL_law_275 : decode cL_law 275 = .ok (.aload_n 0, 1) := by decide +kernel
theorem dL_law_276 : decode cL_law 276 = .ok (.iload_n 3, 1) := by decide +kernel
theorem dL_law_277 : decode cL_law 277 = .ok (.iconst 2, 1) := by decide +kernel
theorem dL_law_278 : decode cL_law 278 = .ok (.iadd, 1) := by decide +kernel
theorem dL_law_279 : decode cL_law 279 = .ok (.iaload, 1) := by decide +kernel
theorem dL_law_280 : decode cL_law 280 = .ok (.invokevirtual 57, 3) := by decide +kernel
theorem dL_law_283 : decode cL_law 283 = .ok (.if_icmp .eq 117, 3) := by decide +kernel
theorem dL_law_286 : decode cL_law 286 = .ok (.iconst 0, 1) := by decide +kernel
theorem dL_law_287 : decode cL_law 287 = .ok (.ireturn, 1) := by decide +kernel
theorem dL_law_288 : decode cL_law 288 = .ok (.aload_n 1, 1) := by decide +kernel
theorem dL_law_289 : decode cL_law 289 = .ok (.aload_n 0, 1) := by decide +kernel
theorem dL_law_290 : decode cL_law 290 = .ok (.iload_n 3, 1) := by decide +kernel
theorem dL_law_291 : decode cL_law 291 = .ok (.iconst 1, 1) := by decide +kernel
theorem dL_law_292 : decode cL_law 292 = .ok (.iadd, 1) := by decide +kernel
theorem dL_law_293 : decode cL_law 293 = .ok (.iaload, 1) := by decide +kernel
theorem dL_law_294 : decode cL_law 294 = .ok (.aload_n 0, 1) := by decide +kernel
theorem dL_law_295 : decode cL_law 295 = .ok (.iload_n 3, 1) := by decide +kernel
theorem dL_law_296 : decode cL_law 296 = .ok (.iconst 2, 1) := by decide +kernel
theorem dL_law_297 : decode cL_law 297 = .ok (.iadd, 1) := by decide +kernel
theorem dL_law_298 : decode cL_law 298 = .ok (.iaload, 1) := by decide +kernel
theorem dL_law_299 : decode cL_law 299 = .ok (.invokevirtual 58, 3) := by decide +kernel
end
section
theorem dL_law_302 : decode cL_law 302 = .ok (.aload_n 2, 1) := by decide +kernel
theorem dL_law_303 : decode cL_law 303 = .ok (.aload_n 0, 1) := by decide +kernel
theorem dL_law_304 : decode cL_law 304 = .ok (.iload_n 3, 1) := by decide +kernel
theorem dL_law_305 : decode cL_law 305 = .ok (.iconst 1, 1) := by decide +kernel
theorem dL_law_306 : decode cL_law 306 = .ok (.iadd, 1) := by decide +kernel
theorem dL_law_307 : decode cL_law 307 = .ok (.iaload, 1) := by decide +kernel
theorem dL_law_308 : decode cL_law 308 = .ok (.aload_n 0, 1) := by decide +kernel
theorem dL_law_309 : decode cL_law 309 = .ok (.iload_n 3, 1) := by decide +kernel
theorem dL_law_310 : decode cL_law 310 = .ok (.iconst 2, 1) := by decide +kernel
theorem dL_law_311 : decode cL_law 311 = .ok (.iadd, 1) := by decide +kernel
theorem dL_law_312 : decode cL_law 312 = .ok (.iaload, 1) := by decide +kernel
theorem dL_law_313 : decode cL_law 313 = .ok (.invokevirtual 61, 3) := by decide +kernel
theorem dL_law_316 : decode cL_law 316 = .ok (.if_icmp .eq 84, 3) := by decide +kernel
theorem dL_law_319 : decode cL_law 319 = .ok (.iconst 0, 1) := by decide +kernel
theorem dL_law_320 : decode cL_law 320 = .ok (.ireturn, 1) := by decide +kernel
theorem dL_law_321 : decode cL_law 321 = .ok (.aload_n 1, 1) := by decide +kernel
theorem dL_law_322 : decode cL_law 322 = .ok (.aload_n 0, 1) := by decide +kernel
theorem dL_law_323 : decode cL_law 323 = .ok (.iload_n 3, 1) := by decide +kernel
theorem dL_law_324 : decode cL_law 324 = .ok (.iconst 1, 1) := by decide +kernel
theorem dL_law_325 : decode cL_law 325 = .ok (.iadd, 1) := by decide +kernel
theorem dL_law_326 : decode cL_law 326 = .ok (.iaload, 1) := by decide +kernel
theorem dL_law_327 : decode cL_law 327 = .ok (.aload_n 0, 1) := by decide +kernel
theorem dL_law_328 : decode cL_law 328 = .ok (.iload_n 3, 1) := by decide +kernel
theorem dL_law_329 : decode cL_law 329 = .ok (.iconst 2, 1) := by decide +kernel
theorem dL_law_330 : decode cL_law 330 = .ok (.iadd, 1) := by decide +kernel
theorem dL_law_331 : decode cL_law 331 = .ok (.iaload, 1) := by decide +kernel
theorem dL_law_332 : decode cL_law 332 = .ok (.aload_n 0, 1) := by decide +kernel
theorem dL_law_333 : decode cL_law 333 = .ok (.iload_n 3, 1) := by decide +kernel
theorem dL_law_334 : decode cL_law 334 = .ok (.iconst 3, 1) := by decide +kernel
theorem dL_law_335 : decode cL_law 335 = .ok (.iadd, 1) := by decide +kernel
theorem dL_law_336 : decode cL_law 336 = .ok (.iaload, 1) := by decide +kernel
theorem dL_law_337 : decode cL_law 337 = .ok (.invokevirtual 62, 3) := by decide +kernel
theorem dL_law_340 : decode cL_law 340 = .ok (.aload_n 2, 1) := by decide +kernel
theorem dL_law_341 : decode cL_law 341 = .ok (.aload_n 0, 1) := by decide +kernel
theorem dL_law_342 : decode cL_law 342 = .ok (.iload_n 3, 1) := by decide +kernel
theorem dL_law_343 : decode cL_law 343 = .ok (.iconst 1, 1) := by decide +kernel
theorem dL_law_344 : decode cL_law 344 = .ok (.iadd, 1) := by decide +kernel
theorem dL_law_345 : decode cL_law 345 = .ok (.iaload, 1) := by decide +kernel
theorem dL_law_346 : decode cL_law 346 = .ok (.aload_n 0, 1) := by decide +kernel
theorem dL_law_347 : decode cL_law 347 = .ok (.iload_n 3, 1) := by decide +kernel
theorem dL_law_348 : decode cL_law 348 = .ok (.iconst 2, 1) := by decide +kernel
theorem dL_law_349 : decode cL_law 349 = .ok (.iadd, 1) := by decide +kernel
theorem dL_law_350 : decode cL_law 350 = .ok (.iaload, 1) := by decide +kernel
theorem dL_law_351 : decode cL_law 351 = .ok (.aload_n 0, 1) := by decide +kernel
theorem dL_law_352 : decode cL_law 352 = .ok (.iload_n 3, 1) := by decide +kernel
theorem dL_law_353 : decode cL_law 353 = .ok (.iconst 3, 1) := by decide +kernel
theorem dL_law_354 : decode cL_law 354 = .ok (.iadd, 1) := by decide +kernel
theorem dL_law_355 : decode cL_law 355 = .ok (.iaload, 1) := by decide +kernel
theorem dL_law_356 : decode cL_law 356 = .ok (.invokevirtual 66, 3) := by decide +kernel
theorem dL_law_359 : decode cL_law 359 = .ok (.if_icmp .eq 41, 3) := by decide +kernel
theorem dL_law_362 : decode cL_law 362 = .ok (.iconst 0, 1) := by decide +kernel
theorem dL_law_363 : decode cL_law 363 = .ok (.ireturn, 1) := by decide +kernel
theorem dL_law_364 : decode cL_law 364 = .ok (.aload_n 1, 1) := by decide +kernel
theorem dL_law_365 : decode cL_law 365 = .ok (.aload_n 0, 1) := by decide +kernel
theorem dL_law_366 : decode cL_law 366 = .ok (.iload_n 3, 1) := by decide +kernel
theorem dL_law_367 : decode cL_law 367 = .ok (.iconst 1, 1) := by decide +kernel
theorem dL_law_368 : decode cL_law 368 = .ok (.iadd, 1) := by decide +kernel
theorem dL_law_369 : decode cL_law 369 = .ok (.iaload, 1) := by decide +kernel
theorem dL_law_370 : decode cL_law 370 = .ok (.invokevirtual 67, 3) := by decide +kernel
theorem dL_law_373 : decode cL_law 373 = .ok (.aload_n 2, 1) := by decide +kernel
theorem dL_law_374 : decode cL_law 374 = .ok (.aload_n 0, 1) := by decide +kernel
theorem dL_law_375 : decode cL_law 375 = .ok (.iload_n 3, 1) := by decide +kernel
theorem dL_law_376 : decode cL_law 376 = .ok (.iconst 1, 1) := by decide +kernel
theorem dL_law_377 : decode cL_law 377 = .ok (.iadd, 1) := by decide +kernel
theorem dL_law_378 : decode cL_law 378 = .ok (.iaload, 1) := by decide +kernel
theorem dL_law_379 : decode cL_law 379 = .ok (.invokevirtual 70, 3) := by decide +kernel
theorem dL_law_382 : decode cL_law 382 = .ok (.if_icmp .eq 18, 3) := by decide +kernel
theorem dL_law_385 : decode cL_law 385 = .ok (.iconst 0, 1) := by decide +kernel
theorem dL_law_386 : decode cL_law 386 = .ok (.ireturn, 1) := by decide +kernel
theorem dL_law_387 : decode cL_law 387 = .ok (.aload_n 1, 1) := by decide +kernel
theorem dL_law_388 : decode cL_law 388 = .ok (.invokevirtual 71, 3) := by decide +kernel
theorem dL_law_391 : decode cL_law 391 = .ok (.aload_n 2, 1) := by decide +kernel
theorem dL_law_392 : decode cL_law 392 = .ok (.invokevirtual 75, 3) := by decide +kernel
theorem dL_law_395 : decode cL_law 395 = .ok (.if_icmp .eq 5, 3) := by decide +kernel
theorem dL_law_398 : decode cL_law 398 = .ok (.iconst 0, 1) := by decide +kernel
theorem dL_law_399 : decode cL_law 399 = .ok (.ireturn, 1) := by decide +kernel
theorem dL_law_400 : decode cL_law 400 = .ok (.iinc 3 4, 3) := by decide +kernel
theorem dL_law_403 : decode cL_law 403 = .ok (.goto (-365), 3) := by decide +kernel
theorem dL_law_406 : decode cL_law 406 = .ok (.iconst 1, 1) := by decide +kernel
theorem dL_law_407 : decode cL_law 407 = .ok (.ireturn, 1) := by decide +kernel
end
section
set_option maxRecDepth 20000 in
theorem giwsL_law_r1 : GoodIn lw_tbl wsL_law_r1 := goodIn_r _ [40, 41, 33, 351, 352, 38, 348, 349, 32, 350, 42, 43, 44, 45, 46, 47, 113, 114, 57, 58, 35, 115, 116, 117] (by decide +kernel) (by decide +kernel)
set_option maxRecDepth 20000 in
theorem giwsL_law_r2 : GoodIn lw_tbl wsL_law_r2 := goodIn_r _ [77, 78, 36, 118, 76, 119, 48, 49, 50, 51, 52, 34, 53, 54, 55, 56, 59, 60, 61, 62, 63, 64, 65, 66] (by decide +kernel) (by decide +kernel)
set_option maxRecDepth 20000 in
theorem giwsL_law_r3 : GoodIn lw_tbl wsL_law_r3 := goodIn_r _ [79, 80, 81, 82, 83, 84, 85, 86, 102, 104, 0, 105, 120, 121, 122, 123, 124, 125, 126, 106, 107, 108, 109, 110] (by decide +kernel) (by decide +kernel)
set_option maxRecDepth 20000 in
theorem giwsL_law_r4 : GoodIn lw_tbl wsL_law_r4 := goodIn_r _ [111, 37, 112, 353, 354, 355, 356, 363, 364, 365, 361, 362, 357, 358, 359, 360, 366, 369, 370, 371, 372, 156, 157, 158] (by decide +kernel) (by decide +kernel)
set_option maxRecDepth 20000 in
theorem giwsL_law_r5 : GoodIn lw_tbl wsL_law_r5 := goodIn_r _ [159, 398, 160, 161, 162, 163, 164, 166, 1, 167, 168, 170, 2, 171, 172, 173, 174, 175, 399, 400, 401, 402, 367, 368] (by decide +kernel) (by decide +kernel)
set_option maxRecDepth 20000 in
theorem giwsL_law_r6 : GoodIn lw_tbl wsL_law_r6 := goodIn_r _ [403, 405, 16, 406, 407, 409, 17, 410, 411, 413, 18, 414, 176, 177, 178, 179, 180, 181, 182, 183, 415, 416, 417, 418] (by decide +kernel) (by decide +kernel)
set_option maxRecDepth 20000 in
theorem giwsL_law_r7 : GoodIn lw_tbl wsL_law_r7 := goodIn_r _ [184, 185, 186, 187, 188, 190, 3, 191, 192, 194, 4, 195, 196, 197, 198, 199, 200, 202, 201, 39, 203, 205, 5, 206] (by decide +kernel) (by decide +kernel)
set_option maxRecDepth 20000 in
theorem giwsL_law_r8 : GoodIn lw_tbl wsL_law_r8 := goodIn_r _ [207, 209, 6, 210, 211, 212, 213, 214, 215, 217, 7, 218, 219, 221, 8, 222, 223, 224, 225, 226, 87, 88, 227, 228] (by decide +kernel) (by decide +kernel)
set_option maxRecDepth 20000 in
theorem giwsL_law_r9 : GoodIn lw_tbl wsL_law_r9 := goodIn_r _ [229, 230, 231, 232, 233, 234, 235, 236, 237, 238, 239, 240, 241, 242, 243, 244, 245, 246, 247, 248, 249, 251, 9, 252] (by decide +kernel) (by decide +kernel)
set_option maxRecDepth 20000 in
theorem giwsL_law_r10 : GoodIn lw_tbl wsL_law_r10 := goodIn_r _ [253, 254, 255, 256, 257, 258, 259, 260, 262, 10, 263, 264, 265, 266, 267, 268, 269, 270, 272, 11, 273, 274, 278, 275] (by decide +kernel) (by decide +kernel)
set_option maxRecDepth 20000 in
theorem giwsL_law_r11 : GoodIn lw_tbl wsL_law_r11 := goodIn_r _ [276, 277, 279, 281, 12, 282, 283, 284, 285, 286, 287, 288, 289, 290, 291, 293, 13, 294, 295, 297, 14, 298, 299, 300] (by decide +kernel) (by decide +kernel)
set_option maxRecDepth 20000 in
theorem giwsL_law_r12 : GoodIn lw_tbl wsL_law_r12 := goodIn_r _ [301, 302, 419, 420, 421, 422, 423, 425, 19, 426, 427, 429, 20, 430, 431, 433, 21, 434, 435, 437, 22, 438, 443, 439] (by decide +kernel) (by decide +kernel)
set_option maxRecDepth 20000 in
theorem giwsL_law_r13 : GoodIn lw_tbl wsL_law_r13 := goodIn_r _ [441, 23, 442, 444, 446, 24, 447, 448, 450, 25, 451, 452, 454, 26, 455, 456, 458, 27, 459, 468, 460, 462, 28, 463] (by decide +kernel) (by decide +kernel)
set_option maxRecDepth 20000 in
theorem giwsL_law_r14 : GoodIn lw_tbl wsL_law_r14 := goodIn_r _ [464, 466, 29, 467, 469, 471, 30, 472, 303, 304, 305, 306, 473, 474, 475, 476, 307, 308, 309, 310, 477, 478, 479, 480] (by decide +kernel) (by decide +kernel)
set_option maxRecDepth 20000 in
theorem giwsL_law_r15 : GoodIn lw_tbl wsL_law_r15 := goodIn_r _ [311, 312, 313, 314, 315, 316, 317, 318, 319, 481, 482, 483, 484, 485, 487, 31, 488, 320, 321, 322, 323, 489, 490, 491] (by decide +kernel) (by decide +kernel)
set_option maxRecDepth 20000 in
theorem giwsL_law_r16 : GoodIn lw_tbl wsL_law_r16 := goodIn_r _ [492, 324, 325, 326, 327, 493, 494, 495, 496, 328, 329, 330, 331, 497, 498, 499, 500, 332, 333, 334, 335, 501, 502, 503] (by decide +kernel) (by decide +kernel)
set_option maxRecDepth 20000 in
theorem giwsL_law_r17 : GoodIn lw_tbl wsL_law_r17 := goodIn_r _ [504, 336, 337, 338, 339, 340, 342, 15, 343, 344, 345, 346, 347, 505, 506, 507, 508] (by decide +kernel) (by decide +kernel)
set_option maxRecDepth 20000 in
theorem giwsX00 : GoodIn lw_tbl wsX00 := goodIn_r _ [67, 69, 71, 73] (by decide +kernel) (by decide +kernel)
set_option maxRecDepth 20000 in
theorem giwsX10 : GoodIn lw_tbl wsX10 := goodIn_r _ [89, 91, 93, 95, 97, 99] (by decide +kernel) (by decide +kernel)
set_option maxRecDepth 20000 in
theorem giwsX20 : GoodIn lw_tbl wsX20 := goodIn_r _ [127, 129, 131, 133, 135, 137, 139, 141, 143, 145, 147, 149, 151, 153] (by decide +kernel) (by decide +kernel)
set_option maxRecDepth 20000 in
theorem giwsX30 : GoodIn lw_tbl wsX30 := goodIn_r _ [373, 375, 377, 379, 381, 383, 385, 387, 389, 391, 393, 395] (by decide +kernel) (by decide +kernel)
theorem wsL_law_g : GoodIn lw_tbl wsL_law := by
  unfold wsL_law
  exact (goodIn_app (goodIn_app (goodIn_app (goodIn_app (goodIn_app (goodIn_app giwsL_law_r1 (goodIn_app giwsL_law_r2 (goodIn_app giwsL_law_r3 (goodIn_app giwsL_law_r4 (goodIn_app giwsL_law_r5 (goodIn_app giwsL_law_r6 (goodIn_app giwsL_law_r7 (goodIn_app giwsL_law_r8 (goodIn_app giwsL_law_r9 (goodIn_app giwsL_law_r10 (goodIn_app giwsL_law_r11 (goodIn_app giwsL_law_r12 (goodIn_app giwsL_law_r13 (goodIn_app giwsL_law_r14 (goodIn_app giwsL_law_r15 (goodIn_app giwsL_law_r16 giwsL_law_r17)))))))))))))))) giwsX20) giwsX30) giwsX00) giwsX10) (fun w h => absurd h List.not_mem_nil))
theorem wsL_law_in : ∀ w ∈ wsL_law, w ∈ lw_tbl := fun w h => (wsL_law_g w h).1
theorem inlX0 : ∀ w ∈ wsX00, w ∈ wsL_law := fun _ h => List.mem_append_left _ (List.mem_append_left _ (List.mem_append_right _ h))
theorem inX0 : ∀ w ∈ wsX00, w ∈ lw_tbl := fun w h => wsL_law_in w (inlX0 w h)
theorem inlX1 : ∀ w ∈ wsX10, w ∈ wsL_law := fun _ h => List.mem_append_left _ (List.mem_append_right _ h)
theorem inX1 : ∀ w ∈ wsX10, w ∈ lw_tbl := fun w h => wsL_law_in w (inlX1 w h)
theorem inlX2 : ∀ w ∈ wsX20, w ∈ wsL_law := fun _ h => List.mem_append_left _ (List.mem_append_left _ (List.mem_append_left _ (List.mem_append_left _ (List.mem_append_right _ h))))
theorem inX2 : ∀ w ∈ wsX20, w ∈ lw_tbl := fun w h => wsL_law_in w (inlX2 w h)
theorem inlX3 : ∀ w ∈ wsX30, w ∈ wsL_law := fun _ h => List.mem_append_left _ (List.mem_append_left _ (List.mem_append_left _ (List.mem_append_right _ h)))
theorem inX3 : ∀ w ∈ wsX30, w ∈ lw_tbl := fun w h => wsL_law_in w (inlX3 w h)
theorem inJ9 : ∀ w ∈ wsJ90, w ∈ lw_tbl := by decide +kernel
theorem inJ10 : ∀ w ∈ wsJ100, w ∈ lw_tbl := by decide +kernel
theorem inJ7 : ∀ w ∈ wsJ70, w ∈ lw_tbl := by decide +kernel
end
section
/-! Pure: a row wedged into a form of columns; why the steps divide without a rest. -/
def wd (x : Nat → Int) : List Nat → (List Nat → Int) → Int
  | [], _ => 0
  | c :: cs, g => x c * g cs - wd x cs (fun l => g (c :: l))
def sgn : Nat → Int
  | 0 => 1
  | n + 1 => - sgn n
theorem sgn_pm : ∀ n, sgn n = 1 ∨ sgn n = -1
  | 0 => Or.inl rfl
  | n + 1 => by
    rcases sgn_pm n with h | h
    · right; simp [sgn, h]
    · left; simp [sgn, h]
theorem wd_nil (x : Nat → Int) (g : List Nat → Int) : wd x [] g = 0 := by unfold wd; rfl
theorem wd_cons (x : Nat → Int) (c : Nat) (cs : List Nat) (g : List Nat → Int) : wd x (c :: cs) g = x c * g cs - wd x cs (fun l => g (c :: l)) := by
  conv => lhs; unfold wd
theorem wd_mul (x : Nat → Int) (a : Int) : ∀ (cs : List Nat) (g : List Nat → Int), wd x cs (fun l => a * g l) = a * wd x cs g
  | [], g => by rw [wd_nil, wd_nil]; simp
  | c :: cs, g => by
    rw [wd_cons, wd_cons, wd_mul x a cs (fun l => g (c :: l)), Int.mul_sub]
    congr 1
    rw [← Int.mul_assoc, ← Int.mul_assoc, Int.mul_comm a]
theorem wd_subg (x : Nat → Int) : ∀ (cs : List Nat) (g h : List Nat → Int), wd x cs (fun l => g l - h l) = wd x cs g - wd x cs h
  | [], g, h => by rw [wd_nil, wd_nil, wd_nil]; simp
  | c :: cs, g, h => by
    rw [wd_cons, wd_cons, wd_cons, wd_subg x cs (fun l => g (c :: l)) (fun l => h (c :: l)), Int.mul_sub]
    generalize x c * g cs = u
    generalize x c * h cs = v
    omega
theorem wd_zero (x : Nat → Int) : ∀ (cs : List Nat), wd x cs (fun _ => 0) = 0
  | [] => by rw [wd_nil]
  | c :: cs => by rw [wd_cons, wd_zero x cs]; simp
theorem wd_lin (a b : Int) (x y : Nat → Int) : ∀ (cs : List Nat) (g : List Nat → Int), wd (fun j => a * x j - b * y j) cs g = a * wd x cs g - b * wd y cs g
  | [], g => by rw [wd_nil, wd_nil, wd_nil]; simp
  | c :: cs, g => by
    rw [wd_cons, wd_cons, wd_cons, wd_lin a b x y cs (fun l => g (c :: l)), Int.sub_mul, Int.mul_sub, Int.mul_sub, Int.mul_assoc, Int.mul_assoc]
    generalize a * (x c * g cs) = u
    generalize b * (y c * g cs) = v
    omega
theorem wd_sm (a : Int) (x : Nat → Int) : ∀ (cs : List Nat) (g : List Nat → Int), wd (fun j => a * x j) cs g = a * wd x cs g
  | [], g => by rw [wd_nil, wd_nil]; simp
  | c :: cs, g => by
    rw [wd_cons, wd_cons, wd_sm a x cs (fun l => g (c :: l)), Int.mul_sub, Int.mul_assoc]
theorem wd_anti (x y : Nat → Int) : ∀ (cs : List Nat) (g : List Nat → Int), wd x cs (fun l => wd y l g) = - wd y cs (fun l => wd x l g)
  | [], g => by rw [wd_nil, wd_nil]; simp
  | c :: cs, g => by
    have ih := wd_anti x y cs (fun l => g (c :: l))
    have e1 : (fun l => wd y (c :: l) g) = fun l => y c * g l - wd y l (fun l' => g (c :: l')) := by
      funext l; rw [wd_cons]
    have e2 : (fun l => wd x (c :: l) g) = fun l => x c * g l - wd x l (fun l' => g (c :: l')) := by
      funext l; rw [wd_cons]
    rw [wd_cons, wd_cons, e1, e2, wd_subg x cs (fun l => y c * g l) (fun l => wd y l (fun l' => g (c :: l'))), wd_subg y cs (fun l => x c * g l) (fun l => wd x l (fun l' => g (c :: l'))), wd_mul, wd_mul, ih]
    generalize x c * wd y cs g = u
    generalize y c * wd x cs g = v
    omega
theorem wd_alt (x : Nat → Int) (cs : List Nat) (g : List Nat → Int) : wd x cs (fun l => wd x l g) = 0 := by
  have h := wd_anti x x cs g
  omega
theorem wd_pre (y : Nat → Int) : ∀ (pre cs : List Nat) (g : List Nat → Int), (∀ c ∈ pre, y c = 0) → wd y (pre ++ cs) g = sgn pre.length * wd y cs (fun l => g (pre ++ l))
  | [], cs, g, _ => by simp [sgn]
  | c :: pre, cs, g, h => by
    have ih := wd_pre y pre cs (fun l => g (c :: l)) (fun c' hc => h c' (List.mem_cons_of_mem _ hc))
    rw [List.cons_append, wd_cons, ih, h c List.mem_cons_self, List.length_cons]
    simp only [sgn, List.cons_append, Int.zero_mul, Int.zero_sub, Int.neg_mul]
theorem wd_one (y : Nat → Int) (k : Nat) (g : List Nat → Int) : wd y [k] g = y k * g [] := by
  rw [wd_cons, wd_nil]; simp
theorem wd_two (y : Nat → Int) (k j : Nat) (g : List Nat → Int) : wd y [k, j] g = y k * g [j] - y j * g [k] := by
  rw [wd_cons, wd_one]
/-- the facts of one step: p divides; the rows that it makes go on with the same facts -/
theorem bar_eq {F : List Nat → Int} {Ak Ai ai : Nat → Int} {p : Int} (hi : ∀ l, wd ai l F = p * wd Ai l F) (l : List Nat) : wd ai l (fun l => wd Ak l F) = p * wd Ai l (fun l => wd Ak l F) := by
  rw [wd_anti ai Ak, show (fun l => wd ai l F) = fun l => p * wd Ai l F from funext hi, wd_mul, wd_anti Ai Ak]
  simp only [Int.mul_neg]
theorem bar_self {F : List Nat → Int} {Ak ak : Nat → Int} {p : Int} (hk : ∀ l, wd ak l F = p * wd Ak l F) (l : List Nat) : wd ak l (fun l => wd Ak l F) = 0 := by
  rw [bar_eq hk, wd_alt]; simp
theorem bar_two {F : List Nat → Int} {Ak Ai ak ai : Nat → Int} {p : Int} (hk : ∀ l, wd ak l F = p * wd Ak l F) (hi : ∀ l, wd ai l F = p * wd Ai l F) (l : List Nat) : wd ai l (fun l => wd ak l F) = p * (p * wd Ai l (fun l => wd Ak l F)) := by
  rw [show (fun l => wd ak l F) = fun l => p * wd Ak l F from funext hk, wd_mul, bar_eq hi]
theorem bar_div {F : List Nat → Int} {Ak Ai ak ai : Nat → Int} {p s : Int} {pre : List Nat} (hp : p ≠ 0) (hs : s = 1 ∨ s = -1) (hF : F pre = s * p) (hk : ∀ l, wd ak l F = p * wd Ak l F) (hi : ∀ l, wd ai l F = p * wd Ai l F) (zk : ∀ c ∈ pre, ak c = 0) (zi : ∀ c ∈ pre, ai c = 0) (k j : Nat) : ∃ z, ak k * ai j - ai k * ak j = p * z := by
  have h := bar_two hk hi (pre ++ [k, j])
  rw [wd_pre ai pre [k, j] _ zi, wd_two, wd_pre ak pre [j] _ zk, wd_pre ak pre [k] _ zk, wd_one, wd_one, List.append_nil, hF] at h
  generalize wd Ai (pre ++ [k, j]) (fun l => wd Ak l F) = z at h
  have e : p * (ak k * ai j - ai k * ak j) = p * (p * (-s * z)) := by
    rcases sgn_pm pre.length with q | q <;> rcases hs with r | r <;> rw [q, r] at h <;> subst r <;> grind
  exact ⟨_, Int.eq_of_mul_eq_mul_left hp e⟩
theorem bar_next {F : List Nat → Int} {Ak Ai ak ai a' : Nat → Int} {p : Int} {k : Nat} (hp : p ≠ 0) (hk : ∀ l, wd ak l F = p * wd Ak l F) (hi : ∀ l, wd ai l F = p * wd Ai l F) (ha : ∀ j, p * a' j = ak k * ai j - ai k * ak j) (l : List Nat) : wd a' l (fun l => wd Ak l F) = ak k * wd Ai l (fun l => wd Ak l F) := by
  have h : p * wd a' l (fun l => wd Ak l F) = p * (ak k * wd Ai l (fun l => wd Ak l F)) := by
    rw [← wd_sm, show (fun j => p * a' j) = fun j => ak k * ai j - ai k * ak j from funext ha, wd_lin, bar_self hk, bar_eq hi]
    grind
  exact Int.eq_of_mul_eq_mul_left hp h
theorem bar_piv {F : List Nat → Int} {Ak ak : Nat → Int} {p s : Int} {pre : List Nat} {k : Nat} (hp : p ≠ 0) (hF : F pre = s * p) (hk : ∀ l, wd ak l F = p * wd Ak l F) (zk : ∀ c ∈ pre, ak c = 0) : wd Ak (pre ++ [k]) F = sgn pre.length * s * ak k := by
  have h := hk (pre ++ [k])
  rw [wd_pre ak pre [k] _ zk, wd_one, List.append_nil, hF] at h
  exact (Int.eq_of_mul_eq_mul_left hp (by grind)).symm
end
section
/-! Rows of my own over the kit's: guards of the pure functions, a method's entry, its end, a call with its frame. -/
theorem og_c {α : Type} {b : Bool} {a : Option α} {r : α} (h : cond b a none = some r) : b = true ∧ a = some r := by
  cases b
  · cases h
  · exact ⟨rfl, h⟩
theorem og_b {α β : Type} {o : Option α} {f : α → Option β} {r : β} (h : o.bind f = some r) : ∃ x, o = some x ∧ f x = some r := by
  cases o with
  | none => cases h
  | some x => exact ⟨x, rfl, h⟩
theorem og_t {α : Type} {c : Prop} {i : Decidable c} {a b : Option α} {r : α} (hc : c) (h : @ite _ c i a b = some r) : a = some r := by
  rw [if_pos hc] at h; exact h
theorem og_f {α : Type} {c : Prop} {i : Decidable c} {a b : Option α} {r : α} (hc : ¬ c) (h : @ite _ c i a b = some r) : b = some r := by
  rw [if_neg hc] at h; exact h
def inb (i : Int32) (n : Nat) : Bool := decide (¬ (i < 0 ∨ n ≤ i.toNatClampNeg))
theorem og_in {i : Int32} {n : Nat} (h : inb i n = true) : vp_in i n := of_decide_eq_true (p := ¬ (i < 0 ∨ n ≤ i.toNatClampNeg)) h
theorem inb_nI {j n : Nat} (h : j < n) (hn : n < 2 ^ 31) : inb (nI j) n = true := decide_eq_true (p := ¬ (nI j < 0 ∨ n ≤ (nI j).toNatClampNeg)) (vp_in_nI h hn)
/-- the copy of n ints from place sp of an array of n0 to place dp of one of n1 -/
def cpb (sp dp n : Int32) (n0 n1 : Nat) : Bool := decide (¬ sp < 0) && (decide (¬ dp < 0) && (decide (¬ n < 0) && (decide (sp.toNatClampNeg + n.toNatClampNeg ≤ n0) && decide (dp.toNatClampNeg + n.toNatClampNeg ≤ n1))))
theorem og_cp {sp dp n : Int32} {n0 n1 : Nat} (h : cpb sp dp n n0 n1 = true) : ¬ sp < 0 ∧ ¬ dp < 0 ∧ ¬ n < 0 ∧ sp.toNatClampNeg + n.toNatClampNeg ≤ n0 ∧ dp.toNatClampNeg + n.toNatClampNeg ≤ n1 := by
  simpa [cpb] using h
/-- an int that is a boolean -/
def isz (x : Int32) : Bool := decide (x = 0 ∨ x = 1)
theorem og_z {x : Int32} (h : isz x = true) : narrow .boolean (.int x) = .int x := by
  rcases of_decide_eq_true h with rfl | rfl <;> rfl
/-- a contract's start: its cells, apart -/
def c_Pre (D : va_G) (cl : List vw_C) (tys : List (ClassId × FieldType)) (W0 : va_W) (sz : Nat) (av : List Value) : Array Value → State → Prop := va_Pc av (fun U => U.heap.size = sz ∧ va_P D cl W0 U.heap ∧ va_K D cl tys U ∧ va_D (fun _ => True) W0)
def c_B (D : va_G) (cl : List vw_C) (tys : List (ClassId × FieldType)) (W1 : va_W) (A : Nat → Prop) : Unit → State → Prop := fun _ t => va_P D cl W1 t.heap ∧ va_K D cl tys t ∧ va_D A W1
def c_Qi (D : va_G) (cl : List vw_C) (tys : List (ClassId × FieldType)) (W1 : va_W) (A : Nat → Prop) (v : Int32) : Array Value → State → Outcome → State → Prop := va_Qi (fun r (_ : Unit) => r = v) (c_B D cl tys W1 A) A
def c_Qv (D : va_G) (cl : List vw_C) (tys : List (ClassId × FieldType)) (W1 : va_W) (A : Nat → Prop) : Array Value → State → Outcome → State → Prop := va_Qv (fun (_ : Unit) => True) (c_B D cl tys W1 A) A
theorem c_Pre_fb {D : va_G} {cl : List vw_C} {tys : List (ClassId × FieldType)} {W0 : va_W} {sz : Nat} {av : List Value} : FrameBlind (c_Pre D cl tys W0 sz av) := by
  intro a U g mk q
  obtain ⟨q0, q1, qP, qK, qD⟩ := q
  exact ⟨q0, q1, qP, va_K.moved (u := U) (U := U.calling g mk a) (Vm.Alike.refl U.vm) qK, qD⟩
section KR
variable {p : Program} {l : Launch} {e : Env} {R : Room} {s : State} {m : MethodId} {args : Array Value} {below : List Frame} {meth : Method} {c : Code} {H H0 : Heap} {locs : List Loc} {cells slots : Nat} {Q : State → Prop} {D : va_G} {cl : List vw_C} {tys : List (ClassId × FieldType)} {A0 : Nat → Prop} {ws wc wr w1 : va_W} {pc : Nat} {ls : Array Slot} {rest st0 : List Value} {a : Array Value}
theorem kc_preS {As : List Value} (hP : va_P D cl ws H) (hD : va_D A0 ws) (hK : va_K D cl tys s) (isC : List Nat) (hC : isC.map (fun i => ws[i]?) = wc.map some) (hs : isC.filterMap (fun i => ws[i]?) = wc) (hn : va_nd isC = true) : PreS s H (c_Pre D cl tys wc H.size As) As :=
  ⟨c_Pre_fb, fun U hU hW => ⟨rfl, by rw [hU], by rw [hU]; exact hP.sub isC hs, va_K.moved hW.alike hK, (hD.sub isC hn hC).weaken (fun _ _ _ _ => trivial)⟩⟩
theorem kc_preV {As : List Value} {b q0 ci : Nat} {q : vw_C} {fs : List Value} (hP : va_P D cl ws H) (hD : va_D A0 ws) (hK : va_K D cl tys s) (isC : List Nat) (hC : isC.map (fun i => ws[i]?) = wc.map some) (hs : isC.filterMap (fun i => ws[i]?) = wc) (hn : va_nd isC = true) (hc : cl[ci]? = some q) (he : ws[q0]? = some (b, .inr (ci, fs))) : PreV s H q.1 b (c_Pre D cl tys wc H.size (.ref b :: As)) As :=
  ⟨c_Pre_fb, va_recv hK hP hc he, fun U hU hW => ⟨rfl, by rw [hU], by rw [hU]; exact hP.sub isC hs, va_K.moved hW.alike hK, (hD.sub isC hn hC).weaken (fun _ _ _ _ => trivial)⟩⟩
theorem kc_i {v : Int32} (isC isR : List Nat) (hrun : va_Run p l e R s m args below meth c H locs cells slots 0 0 (F0 m pc ls st0) rest (c_Qi D cl tys w1 (va_A wc H.size) v a) (va_A wc H.size)) (hP : va_P D cl ws H) (hD : va_D A0 ws) (hS : va_S A0 H0 H locs) (hA : ∀ q, H0.size ≤ q → A0 q) (hC : isC.map (fun i => ws[i]?) = wc.map some) (hR : isR.map (fun i => ws[i]?) = wr.map some) (hn : va_nd isR = true) (hdis : ∀ i ∈ isR, i ∉ isC)
    (kk : ∀ (H1 : Heap) (locs1 : List Loc), va_P D cl (wr ++ w1) H1 → va_D A0 (wr ++ w1) → va_S A0 H0 H1 locs1 → W p l e R s m args below meth c H1 locs1 cells slots Q (F0 m (pc + 3) ls (.int v :: rest))) : W p l e R s m args below meth c H locs cells slots Q (F0 m pc ls st0) := by
  have hFc := va_free (wc := wc) hD hS hA isC hC
  refine va_calli hrun hS (fun q _ h => hFc q h) hFc (fun r u t H1 locs1 ht hvm hw hB hz1 hk1 hS1 => ?_)
  obtain ⟨hP1, hK1, hD1⟩ := hB
  rw [ht] at hP1
  obtain ⟨hP2, hD2⟩ := va_join hP hD isC isR hC hR hn hdis hk1 hFc hP1 hD1
  rw [hw]
  exact kk H1 locs1 hP2 hD2 hS1
theorem kc_v (isC isR : List Nat) (hrun : va_Run p l e R s m args below meth c H locs cells slots 0 0 (F0 m pc ls st0) rest (c_Qv D cl tys w1 (va_A wc H.size) a) (va_A wc H.size)) (hP : va_P D cl ws H) (hD : va_D A0 ws) (hS : va_S A0 H0 H locs) (hA : ∀ q, H0.size ≤ q → A0 q) (hC : isC.map (fun i => ws[i]?) = wc.map some) (hR : isR.map (fun i => ws[i]?) = wr.map some) (hn : va_nd isR = true) (hdis : ∀ i ∈ isR, i ∉ isC)
    (kk : ∀ (H1 : Heap) (locs1 : List Loc), va_P D cl (wr ++ w1) H1 → va_D A0 (wr ++ w1) → va_S A0 H0 H1 locs1 → W p l e R s m args below meth c H1 locs1 cells slots Q (F0 m (pc + 3) ls rest)) : W p l e R s m args below meth c H locs cells slots Q (F0 m pc ls st0) := by
  have hFc := va_free (wc := wc) hD hS hA isC hC
  refine va_callv hrun hS (fun q _ h => hFc q h) hFc (fun u t H1 locs1 ht hvm hw hB hz1 hk1 hS1 => ?_)
  obtain ⟨hP1, hK1, hD1⟩ := hB
  rw [ht] at hP1
  obtain ⟨hP2, hD2⟩ := va_join hP hD isC isR hC hR hn hdis hk1 hFc hP1 hD1
  exact kk H1 locs1 hP2 hD2 hS1
theorem kr_i {cc : ByteArray} {v : Int32} (hx : p.tables.exec = Jvm.exec) (hb : c.code = cc) (hr : meth.sig.returnType = some .int) (hlocks : meth.locks = false) (hK : va_K D cl tys s) (hS : va_S A0 s.heap H locs) (hP : va_P D cl w1 H) (hD : va_D A0 w1) (hdg : decode cc pc = .ok (.ireturn, 1)) : W p l e R s m args below meth c H locs cells slots (MQ below (c_Qi D cl tys w1 A0 v) args s cells slots A0) (F0 m pc ls [.int v]) :=
  W.iret (v := v) hx hb hr (fun t ht hW => ⟨⟨v, (), rfl, rfl, by rw [ht]; exact hP, va_K.moved hW.alike hK, hD⟩, hS.F ht⟩) hS.2.2 hdg
theorem kr_z {cc : ByteArray} {v : Int32} (hx : p.tables.exec = Jvm.exec) (hb : c.code = cc) (hr : meth.sig.returnType = some .boolean) (hlocks : meth.locks = false) (hv : narrow .boolean (.int v) = .int v) (hK : va_K D cl tys s) (hS : va_S A0 s.heap H locs) (hP : va_P D cl w1 H) (hD : va_D A0 w1) (hdg : decode cc pc = .ok (.ireturn, 1)) : W p l e R s m args below meth c H locs cells slots (MQ below (c_Qi D cl tys w1 A0 v) args s cells slots A0) (F0 m pc ls [.int v]) :=
  W.zret (v := v) hx hb hr hv (fun t ht hW => ⟨⟨v, (), rfl, rfl, by rw [ht]; exact hP, va_K.moved hW.alike hK, hD⟩, hS.F ht⟩) hS.2.2 hdg
theorem kr_v {cc : ByteArray} (hx : p.tables.exec = Jvm.exec) (hb : c.code = cc) (hr : meth.sig.returnType = none) (hlocks : meth.locks = false) (hK : va_K D cl tys s) (hS : va_S A0 s.heap H locs) (hP : va_P D cl w1 H) (hD : va_D A0 w1) (hdg : decode cc pc = .ok (.return_, 1)) : W p l e R s m args below meth c H locs cells slots (MQ below (c_Qv D cl tys w1 A0) args s cells slots A0) (F0 m pc ls []) :=
  W.vret hx hb hr (fun t ht hW => ⟨⟨(), rfl, trivial, by rw [ht]; exact hP, va_K.moved hW.alike hK, hD⟩, hS.F ht⟩) hS.2.2 hdg
/-- a method's entry: its contract out of the walk from pc 0 -/
theorem k_ent {y : MethodName} {Ws Ws' : List Cond} {rm : Room} {cc : ByteArray} {maxL mc ms sz : Nat} {ret : Option FieldType} {W0 : va_W} {av : List Value} {Qc : (Nat → Prop) → Array Value → State → Outcome → State → Prop} (hy : plainName y.cls = true) (hw : Ws = Cond.code y cc maxL ret :: Ws') (hlen : (lg_sl av).length ≤ maxL)
    (body : ∀ (p : Program) (e : Env) (s : State) (m : MethodId) (below : List Frame) (meth : Method) (c : Code) (A : Nat → Prop), p.tables.exec = Jvm.exec → c.code = cc → meth.sig.returnType = ret → s.vm.findClass y.cls = some m.cls → (∀ w ∈ Ws, w.before av.toArray s = true) → c.maxLocals = maxL → meth.locks = false → meth.name = y.name → s.heap.size = sz → (∀ q, s.heap.size ≤ q → A q) → va_K D cl tys s → ∀ (H : Heap) (locs : List Loc), va_P D cl W0 H → va_D A W0 → va_S A s.heap H locs → ∀ ls : Array Slot, lv_has ls maxL (lv_args 0 av) →
      W p l e rm s m av.toArray below meth c H locs 0 0 (MQ below (Qc A) av.toArray s mc ms A) (F0 m 0 ls [])) : Met l y Ws rm (c_Pre D cl tys W0 sz av) (Qc (va_A W0 sz)) mc ms (va_A W0 sz) := by
  refine Met.ofW (cc := cc) (maxL := maxL) (ret := ret) hy hw ?_
  intro p e s m args below meth c s₁ B hml hv
  obtain ⟨rfl, hsz, hP, hK, hD0⟩ := hv
  have hl := lv_entry av hlen
  rw [lg_entry_eq]
  subst hsz
  exact body p e s m below meth c (va_A W0 s.heap.size) B.exec B.bytes B.returns (findClass_of_methodNamed B.named) (atoms_spec (ws := Ws) B.pre) hml B.notSynchronized (name_of_methodNamed B.named B.method).1 rfl (fun q h => Or.inr h) hK s.heap [] hP (hD0.self (sz := s.heap.size)) va_S.rf _ hl
end KR
/-! Rows for what is made: arrays and objects. -/
def nab (n : Int32) (lim : Nat) : Bool := decide (¬ n < 0) && decide (n.toNatClampNeg ≤ lim)
theorem og_na {n : Int32} {lim : Nat} (h : nab n lim = true) : ¬ n < 0 ∧ n.toNatClampNeg ≤ lim := by
  simpa [nab] using h
theorem ka_eq {D : va_G} {cl : List vw_C} {cA cB : ClassId} {s : State} (h : va_K D cl ([(cA, .int)] ++ [(cB, .int)]) s) : cB = cA := by
  have a := (h.2 0 (cA, .int) rfl).2
  have b := (h.2 1 (cB, .int) rfl).2
  simp only [va_RA] at a b
  rw [a] at b
  exact (Option.some.inj b).symm
theorem ka_int {args : Array Value} {s : State} {D : va_G} {cl : List vw_C} (h : (Cond.arrayClass .int).before args s = true) (hK : va_K D cl [] s) : ∃ cA : ClassId, va_K D cl [(cA, .int)] s := by
  obtain ⟨cA, kA, comp, h1, h2, h3⟩ := Cond.arrayClass_spec h
  refine ⟨cA, hK.1, fun k q hq => ?_⟩
  have hz : k < 1 := (List.getElem?_eq_some_iff.mp hq).1
  rw [show k = 0 by omega] at hq
  cases hq
  exact ⟨fun n z => ⟨fun k h => (by cases h), kA, h2, comp, h3⟩, h1⟩
def c_Qn {S : Type} (D : va_G) (cl : List vw_C) (tys : List (ClassId × FieldType)) (W1 : S → va_W) (A : Nat → Prop) : Array Value → State → Outcome → State → Prop := va_Qv (fun (_ : S) => True) (fun u t => va_P D cl (W1 u) t.heap ∧ va_K D cl tys t ∧ va_D A (W1 u)) A
section KN
variable {p : Program} {l : Launch} {e : Env} {R : Room} {s : State} {m : MethodId} {args : Array Value} {below : List Frame} {meth : Method} {c : Code} {H H0 : Heap} {locs : List Loc} {cells slots mc ms : Nat} {Q : State → Prop} {D : va_G} {cl : List vw_C} {tys : List (ClassId × FieldType)} {A0 : Nat → Prop} {ws wc wr : va_W} {pc : Nat} {ls : Array Slot} {rest st0 : List Value} {a : Array Value} {S : Type} {w1 : S → va_W}
theorem kc_n (isC isR : List Nat) (hrun : va_Run p l e R s m args below meth c H locs cells slots mc ms (F0 m pc ls st0) rest (c_Qn D cl tys w1 (va_A wc H.size) a) (va_A wc H.size)) (hP : va_P D cl ws H) (hD : va_D A0 ws) (hS : va_S A0 H0 H locs) (hA : ∀ q, H0.size ≤ q → A0 q) (hC : isC.map (fun i => ws[i]?) = wc.map some) (hR : isR.map (fun i => ws[i]?) = wr.map some) (hn : va_nd isR = true) (hdis : ∀ i ∈ isR, i ∉ isC)
    (kk : ∀ (u : S) (H1 : Heap) (locs1 : List Loc), va_P D cl (wr ++ w1 u) H1 → va_D A0 (wr ++ w1 u) → va_S A0 H0 H1 locs1 → W p l e R s m args below meth c H1 locs1 (cells + mc) (slots + ms) Q (F0 m (pc + 3) ls rest)) : W p l e R s m args below meth c H locs cells slots Q (F0 m pc ls st0) := by
  have hFc := va_free (wc := wc) hD hS hA isC hC
  refine va_callv hrun hS (fun q _ h => hFc q h) hFc (fun u t H1 locs1 ht hvm hw hB hz1 hk1 hS1 => ?_)
  obtain ⟨hP1, hK1, hD1⟩ := hB
  rw [ht] at hP1
  obtain ⟨hP2, hD2⟩ := va_join hP hD isC isR hC hR hn hdis hk1 hFc hP1 hD1
  exact kk u H1 locs1 hP2 hD2 hS1
theorem kr_n {cc : ByteArray} (u : S) (hx : p.tables.exec = Jvm.exec) (hb : c.code = cc) (hr : meth.sig.returnType = none) (hlocks : meth.locks = false) (hK : va_K D cl tys s) (hS : va_S A0 s.heap H locs) (hP : va_P D cl (w1 u) H) (hD : va_D A0 (w1 u)) (hdg : decode cc pc = .ok (.return_, 1)) : W p l e R s m args below meth c H locs cells slots (MQ below (c_Qn D cl tys w1 A0) args s cells slots A0) (F0 m pc ls []) :=
  W.vret hx hb hr (fun t ht hW => ⟨⟨u, rfl, trivial, by rw [ht]; exact hP, va_K.moved hW.alike hK, hD⟩, hS.F ht⟩) hS.2.2 hdg
end KN
end
section
/-! Pure: limbs to the base 2^31, and what the machine's longs do with them. -/
def vl (f : Nat → Int32) : Nat → Nat
  | 0 => 0
  | n + 1 => vl f n + (f n).toNatClampNeg * 2147483648 ^ n
theorem vl_0 (f : Nat → Int32) : vl f 0 = 0 := rfl
theorem vl_s (f : Nat → Int32) (n : Nat) : vl f (n + 1) = vl f n + (f n).toNatClampNeg * 2147483648 ^ n := rfl
theorem cl_lt (x : Int32) : x.toNatClampNeg < 2147483648 := by
  have := Int32.toInt_lt x
  unfold Int32.toNatClampNeg
  omega
theorem vl_lt (f : Nat → Int32) : ∀ n, vl f n < 2147483648 ^ n
  | 0 => by rw [vl_0]; decide
  | n + 1 => by
    have h := vl_lt f n
    have c := cl_lt (f n)
    rw [vl_s, Nat.pow_succ]
    have : (f n).toNatClampNeg * 2147483648 ^ n ≤ 2147483647 * 2147483648 ^ n := Nat.mul_le_mul_right _ (by omega)
    omega
theorem vl_congr {f g : Nat → Int32} : ∀ n, (∀ i, i < n → f i = g i) → vl f n = vl g n
  | 0, _ => rfl
  | n + 1, h => by rw [vl_s, vl_s, vl_congr n (fun i hi => h i (by omega)), h n (by omega)]
theorem vl_upd {f : Nat → Int32} {k : Nat} {x : Int32} {n : Nat} (h : n ≤ k) : vl (upd f k x) n = vl f n := vl_congr n (fun i hi => pk_un (by omega))
theorem vl_app (f : Nat → Int32) (a : Nat) : ∀ b, vl f (a + b) = vl f a + 2147483648 ^ a * vl (fun i => f (a + i)) b
  | 0 => by rw [Nat.add_zero, vl_0]; simp
  | b + 1 => by
    rw [← Nat.add_assoc, vl_s, vl_app f a b, vl_s, Nat.mul_add, Nat.pow_add]
    have : 2147483648 ^ a * ((f (a + b)).toNatClampNeg * 2147483648 ^ b) = (f (a + b)).toNatClampNeg * (2147483648 ^ a * 2147483648 ^ b) := by
      rw [← Nat.mul_assoc, ← Nat.mul_assoc, Nat.mul_comm (2147483648 ^ a)]
    rw [this]
    omega
theorem vl_z {f : Nat → Int32} {a : Nat} : ∀ b, (∀ i, i < b → f (a + i) = 0) → vl f (a + b) = vl f a
  | 0, _ => rfl
  | b + 1, h => by
    rw [← Nat.add_assoc, vl_s, vl_z b (fun i hi => h i (by omega)), h b (by omega)]
    have : (0 : Int32).toNatClampNeg = 0 := by decide
    rw [this]; simp
theorem vl_one (f : Nat → Int32) (n : Nat) : vl f (n + 1) = (f 0).toNatClampNeg + 2147483648 * vl (fun i => f (i + 1)) n := by
  have h := vl_app f 1 n
  rw [Nat.add_comm 1 n] at h
  have e : (fun i => f (1 + i)) = fun i => f (i + 1) := by funext i; rw [Nat.add_comm]
  have e1 : vl f 1 = (f 0).toNatClampNeg := by rw [show (1 : Nat) = 0 + 1 from rfl, vl_s, vl_0]; simp
  rw [e, e1] at h
  rw [h]
theorem cl_nI {d : Nat} (h : d < 2147483648) : (nI d).toNatClampNeg = d := nI_clamp (by omega)
theorem nI_cl {x : Int32} (h : ¬ x < 0) : x = nI x.toNatClampNeg := by
  obtain ⟨j, hj, rfl⟩ := nI_of h
  rw [nI_clamp hj]
/-- the limbs are those of the number -/
theorem vl_inj {f g : Nat → Int32} : ∀ n, (∀ i, i < n → ¬ f i < 0) → (∀ i, i < n → ¬ g i < 0) → vl f n = vl g n → ∀ i, i < n → f i = g i
  | 0, _, _, _, i, hi => by omega
  | n + 1, hf, hg, h, i, hi => by
    have a := vl_lt f n
    have b := vl_lt g n
    rw [vl_s, vl_s] at h
    have e : (f n).toNatClampNeg = (g n).toNatClampNeg := by
      have p : 0 < 2147483648 ^ n := Nat.pow_pos (by decide)
      have q : (vl f n + (f n).toNatClampNeg * 2147483648 ^ n) / 2147483648 ^ n = (vl g n + (g n).toNatClampNeg * 2147483648 ^ n) / 2147483648 ^ n := by rw [h]
      rw [Nat.add_mul_div_right _ _ p, Nat.add_mul_div_right _ _ p, Nat.div_eq_of_lt a, Nat.div_eq_of_lt b] at q
      omega
    rcases Nat.lt_or_ge i n with c | c
    · refine vl_inj n (fun i hi => hf i (by omega)) (fun i hi => hg i (by omega)) ?_ i c
      rw [e] at h
      omega
    · have : i = n := by omega
      subst this
      rw [nI_cl (hf i (by omega)), nI_cl (hg i (by omega)), e]
/-- a long's low limb, and the rest behind it -/
theorem l_and (x : Int64) : (x &&& 2147483647).toInt = x.toInt % 2147483648 := by
  have e : (x &&& 2147483647).toBitVec.toNat = x.toBitVec.toNat % 2147483648 := by
    rw [show (x &&& 2147483647).toBitVec = x.toBitVec &&& 2147483647#64 from rfl, BitVec.toNat_and]
    exact Nat.and_two_pow_sub_one_eq_mod _ 31
  have a : (x &&& 2147483647).toInt = (x &&& 2147483647).toBitVec.toInt := rfl
  have b : x.toInt = x.toBitVec.toInt := rfl
  have c := x.toBitVec.isLt
  rw [a, b, BitVec.toInt_eq_toNat_cond, BitVec.toInt_eq_toNat_cond, e]
  split <;> split <;> omega
theorem l_shr (x : Int64) : (x >>> ((31 : Int32).toInt64 &&& 63)).toInt = x.toInt / 2147483648 := by
  have e : (x >>> ((31 : Int32).toInt64 &&& 63)).toBitVec = x.toBitVec.sshiftRight 31 := rfl
  have a : (x >>> ((31 : Int32).toInt64 &&& 63)).toInt = (x >>> ((31 : Int32).toInt64 &&& 63)).toBitVec.toInt := rfl
  have b : x.toInt = x.toBitVec.toInt := rfl
  rw [a, e, BitVec.toInt_sshiftRight, b, Int.shiftRight_eq_div_pow]
  rfl
theorem l_i32 {x : Int64} {n : Nat} (h : x.toInt = n) (hn : n < 2147483648) : x.toInt32 = nI n := by
  apply Int32.toInt_inj.mp
  rw [nI_toInt (by omega), Int64.toInt_toInt32, h]
  exact Int.bmod_eq_of_le (by omega) (by omega)
theorem l_low (x : Int64) : (x &&& 2147483647).toInt32 = nI (x.toInt % 2147483648).toNat := by
  have h := l_and x
  refine l_i32 (n := (x.toInt % 2147483648).toNat) ?_ (by omega)
  rw [h]; omega
theorem l_of (x : Int32) : x.toInt64.toInt = x.toInt := Int32.toInt_toInt64 x
theorem l_add {x y : Int64} (h1 : -9223372036854775808 ≤ x.toInt + y.toInt) (h2 : x.toInt + y.toInt < 9223372036854775808) : (x + y).toInt = x.toInt + y.toInt := by
  rw [Int64.toInt_add]
  exact Int.bmod_eq_of_le (by omega) (by omega)
theorem l_sub {x y : Int64} (h1 : -9223372036854775808 ≤ x.toInt - y.toInt) (h2 : x.toInt - y.toInt < 9223372036854775808) : (x - y).toInt = x.toInt - y.toInt := by
  rw [Int64.toInt_sub]
  exact Int.bmod_eq_of_le (by omega) (by omega)
theorem l_mul {x y : Int64} (h1 : -9223372036854775808 ≤ x.toInt * y.toInt) (h2 : x.toInt * y.toInt < 9223372036854775808) : (x * y).toInt = x.toInt * y.toInt := by
  rw [Int64.toInt_mul]
  exact Int.bmod_eq_of_le (by omega) (by omega)
theorem cl_toInt {x : Int32} (h : ¬ x < 0) : (x.toNatClampNeg : Int) = x.toInt := by
  obtain ⟨j, hj, rfl⟩ := nI_of h
  rw [nI_clamp hj, nI_toInt hj]
end
section
/-! The pure functions of the methods, laid by program out of the bytecode. -/
def f_fill_L5 (k : Nat) (v1 : Int32) (v3 : Int32) (n_row : Nat) : Nat → Int32 → (Nat → Int32) → Option (Int32 × (Nat → Int32))
  | 0, _, _ => none
  | j + 1, v2, a_row =>
    if v3 ≤ v2 then
      some (v2, a_row)
    else
      cond (inb v2 n_row) (
      f_fill_L5 k v1 v3 n_row j (v2 + 1) (upd a_row v2.toNatClampNeg v1)) none
def f_fill (k : Nat) (n_row : Nat) (a_row : Nat → Int32) (val : Int32) : Option ((Nat → Int32)) :=
  (f_fill_L5 k val (nI n_row) n_row k (0 : Int32) a_row).bind fun x7 =>
  some x7.2
def f_N_clearAll (k : Nat) (n_t_signs : Nat) (a_t_signs : Nat → Int32) (n_t_lengths : Nat) (a_t_lengths : Nat → Int32) : Option ((Nat → Int32) × (Nat → Int32)) :=
  (f_fill k n_t_signs a_t_signs (0 : Int32)).bind fun x1 =>
  (f_fill k n_t_lengths a_t_lengths (0 : Int32)).bind fun x3 =>
  some (x1, x3)
def f_N_clear (n_t_signs : Nat) (a_t_signs : Nat → Int32) (n_t_lengths : Nat) (a_t_lengths : Nat → Int32) (slot : Int32) : Option ((Nat → Int32) × (Nat → Int32)) :=
  cond (inb slot n_t_signs) (
  cond (inb slot n_t_lengths) (
  some (upd a_t_signs slot.toNatClampNeg 0, upd a_t_lengths slot.toNatClampNeg 0)) none) none
def f_N_signOf (n_t_signs : Nat) (a_t_signs : Nat → Int32) (slot : Int32) : Option (Int32) :=
  cond (inb slot n_t_signs) (
  some (a_t_signs slot.toNatClampNeg)) none
def f_N_lengthOf (n_t_lengths : Nat) (a_t_lengths : Nat → Int32) (slot : Int32) : Option (Int32) :=
  cond (inb slot n_t_lengths) (
  some (a_t_lengths slot.toNatClampNeg)) none
def f_N_limbOf (t_room : Int32) (n_t_limbs : Nat) (a_t_limbs : Nat → Int32) (slot : Int32) (place : Int32) : Option (Int32) :=
  cond (inb ((slot * t_room) + place) n_t_limbs) (
  some (a_t_limbs ((slot * t_room) + place).toNatClampNeg)) none
def f_N_putLimb (t_room : Int32) (n_t_signs : Nat) (a_t_signs : Nat → Int32) (n_t_lengths : Nat) (a_t_lengths : Nat → Int32) (n_t_limbs : Nat) (a_t_limbs : Nat → Int32) (slot : Int32) (place : Int32) (word : Int32) (sign : Int32) : Option ((Nat → Int32) × (Nat → Int32) × (Nat → Int32)) :=
  cond (inb ((slot * t_room) + place) n_t_limbs) (
  if word = 0 then
    some (a_t_signs, a_t_lengths, upd a_t_limbs ((slot * t_room) + place).toNatClampNeg word)
  else
    cond (inb slot n_t_lengths) (
    cond (inb slot n_t_signs) (
    some (upd a_t_signs slot.toNatClampNeg sign, upd a_t_lengths slot.toNatClampNeg (place + 1), upd a_t_limbs ((slot * t_room) + place).toNatClampNeg word)) none) none) none
def f_N_put (t_room : Int32) (n_t_signs : Nat) (a_t_signs : Nat → Int32) (n_t_lengths : Nat) (a_t_lengths : Nat → Int32) (n_t_limbs : Nat) (a_t_limbs : Nat → Int32) (slot : Int32) (n_row : Nat) (a_row : Nat → Int32) (len : Int32) (sign : Int32) : Option ((Nat → Int32) × (Nat → Int32) × (Nat → Int32)) :=
  cond (cpb (0 : Int32) (slot * t_room) len n_row n_t_limbs) (
  cond (inb slot n_t_lengths) (
  cond (inb slot n_t_signs) (
  some (upd a_t_signs slot.toNatClampNeg sign, upd a_t_lengths slot.toNatClampNeg len, va_cpy a_row a_t_limbs (0 : Int32).toNatClampNeg (slot * t_room).toNatClampNeg len.toNatClampNeg)) none) none) none
def f_N_copy (t_room : Int32) (n_t_signs : Nat) (a_t_signs : Nat → Int32) (n_t_lengths : Nat) (a_t_lengths : Nat → Int32) (n_t_limbs : Nat) (a_t_limbs : Nat → Int32) (slot : Int32) (n_u_signs : Nat) (a_u_signs : Nat → Int32) (n_u_lengths : Nat) (a_u_lengths : Nat → Int32) (n_u_limbs : Nat) (a_u_limbs : Nat → Int32) (fromSlot : Int32) : Option ((Nat → Int32) × (Nat → Int32) × (Nat → Int32)) :=
  cond (inb fromSlot n_u_lengths) (
  cond (cpb (fromSlot * t_room) (slot * t_room) (a_u_lengths fromSlot.toNatClampNeg) n_u_limbs n_t_limbs) (
  cond (inb fromSlot n_u_lengths) (
  cond (inb slot n_t_lengths) (
  cond (inb fromSlot n_u_signs) (
  cond (inb slot n_t_signs) (
  some (upd a_t_signs slot.toNatClampNeg (a_u_signs fromSlot.toNatClampNeg), upd a_t_lengths slot.toNatClampNeg (a_u_lengths fromSlot.toNatClampNeg), va_cpy a_u_limbs a_t_limbs (fromSlot * t_room).toNatClampNeg (slot * t_room).toNatClampNeg (a_u_lengths fromSlot.toNatClampNeg).toNatClampNeg)) none) none) none) none) none) none
def f_N_negate (n_t_signs : Nat) (a_t_signs : Nat → Int32) (slot : Int32) : Option ((Nat → Int32)) :=
  cond (inb slot n_t_signs) (
  cond (inb slot n_t_signs) (
  some (upd a_t_signs slot.toNatClampNeg (-(a_t_signs slot.toNatClampNeg)))) none) none
def f_N_tell (t_room : Int32) (n_t_signs : Nat) (a_t_signs : Nat → Int32) (n_t_lengths : Nat) (a_t_lengths : Nat → Int32) (n_t_limbs : Nat) (a_t_limbs : Nat → Int32) (slot : Int32) (what : Int32) : Option (Int32) :=
  if what = (-2) then
    cond (inb slot n_t_signs) (
    some (a_t_signs slot.toNatClampNeg)) none
  else
    if what = (-1) then
      cond (inb slot n_t_lengths) (
      some (a_t_lengths slot.toNatClampNeg)) none
    else
      if what < 0 then
        some (-1 : Int32)
      else
        cond (inb slot n_t_lengths) (
        if a_t_lengths slot.toNatClampNeg ≤ what then
          some (-1 : Int32)
        else
          (f_N_limbOf t_room n_t_limbs a_t_limbs slot what).bind fun x6 =>
          some x6) none
def f_S_clear (k : Nat) (n_t_plus : Nat) (a_t_plus : Nat → Int32) (n_t_minus : Nat) (a_t_minus : Nat → Int32) : Option (Int32 × Int32 × (Nat → Int32) × (Nat → Int32)) :=
  (f_fill k n_t_plus a_t_plus (0 : Int32)).bind fun x1 =>
  (f_fill k n_t_minus a_t_minus (0 : Int32)).bind fun x3 =>
  some ((0 : Int32), (0 : Int32), x1, x3)
def f_S_addMultiple_L13 (k : Nat) (v1 : Int32) (v3 : Int32) (v4 : Int64) (v6 : Int32) (n_row : Nat) (i0_b : Int32) (n_b_limbs : Nat) (a_b_limbs : Nat → Int32) : Nat → Int64 → Int32 → (Nat → Int32) → Option (Int64 × Int32 × (Nat → Int32))
  | 0, _, _, _ => none
  | j + 1, v7, v9, a_row =>
    if v6 ≤ v9 then
      some (v7, v9, a_row)
    else
      cond (inb (v1 + v9) n_row) (
      (f_N_limbOf i0_b n_b_limbs a_b_limbs v3 v9).bind fun x15 =>
      cond (inb (v1 + v9) n_row) (
      f_S_addMultiple_L13 k v1 v3 v4 v6 n_row i0_b n_b_limbs a_b_limbs j ((v7 + (((a_row (v1 + v9).toNatClampNeg).toInt64) + (v4 * x15.toInt64))) >>> ((31 : Int32).toInt64 &&& 63)) (v9 + 1) (upd a_row (v1 + v9).toNatClampNeg (((v7 + (((a_row (v1 + v9).toNatClampNeg).toInt64) + (v4 * x15.toInt64))) &&& 2147483647).toInt32))) none) none
def f_S_addMultiple_L76 (k : Nat) (n_row : Nat) : Nat → Int64 → Int32 → (Nat → Int32) → Option (Int64 × Int32 × (Nat → Int32))
  | 0, _, _, _ => none
  | j + 1, v7, v9, a_row =>
    if lg_cmp v7 (0 : Int64) = 0 then
      some (v7, v9, a_row)
    else
      if nI n_row ≤ v9 then
        some (v7, v9, a_row)
      else
        cond (inb v9 n_row) (
        cond (inb v9 n_row) (
        f_S_addMultiple_L76 k n_row j ((v7 + ((a_row v9.toNatClampNeg).toInt64)) >>> ((31 : Int32).toInt64 &&& 63)) (v9 + 1) (upd a_row v9.toNatClampNeg (((v7 + ((a_row v9.toNatClampNeg).toInt64)) &&& 2147483647).toInt32))) none) none
def f_S_addMultiple (k : Nat) (n_row : Nat) (a_row : Nat → Int32) (fro : Int32) (b_room : Int32) (n_b_lengths : Nat) (a_b_lengths : Nat → Int32) (n_b_limbs : Nat) (a_b_limbs : Nat → Int32) (slotB : Int32) (word : Int64) : Option ((Nat → Int32)) :=
  (f_N_lengthOf n_b_lengths a_b_lengths slotB).bind fun x1 =>
  (f_S_addMultiple_L13 k fro slotB word x1 n_row b_room n_b_limbs a_b_limbs k (0 : Int64) (0 : Int32) a_row).bind fun x18 =>
  (f_S_addMultiple_L76 k n_row k x18.1 (fro + x1) x18.2.2).bind fun x32 =>
  some x32.2.2
def f_S_addProduct_L44 (k : Nat) (v2 : Int32) (v4 : Int32) (n_t_minus : Nat) (i0_a : Int32) (n_a_lengths : Nat) (a_a_lengths : Nat → Int32) (n_a_limbs : Nat) (a_a_limbs : Nat → Int32) (i0_b : Int32) (n_b_lengths : Nat) (a_b_lengths : Nat → Int32) (n_b_limbs : Nat) (a_b_limbs : Nat → Int32) : Nat → Int32 → (Nat → Int32) → Option (Int32 × (Nat → Int32))
  | 0, _, _ => none
  | j + 1, v8, a_t_minus =>
    (f_N_lengthOf n_a_lengths a_a_lengths v2).bind fun x21 =>
    if x21 ≤ v8 then
      some (v8, a_t_minus)
    else
      (f_N_limbOf i0_a n_a_limbs a_a_limbs v2 v8).bind fun x24 =>
      (f_S_addMultiple k n_t_minus a_t_minus v8 i0_b n_b_lengths a_b_lengths n_b_limbs a_b_limbs v4 x24.toInt64).bind fun x26 =>
      f_S_addProduct_L44 k v2 v4 n_t_minus i0_a n_a_lengths a_a_lengths n_a_limbs a_a_limbs i0_b n_b_lengths a_b_lengths n_b_limbs a_b_limbs j (v8 + 1) x26
def f_S_addProduct_L44b (k : Nat) (v2 : Int32) (v4 : Int32) (n_t_plus : Nat) (i0_a : Int32) (n_a_lengths : Nat) (a_a_lengths : Nat → Int32) (n_a_limbs : Nat) (a_a_limbs : Nat → Int32) (i0_b : Int32) (n_b_lengths : Nat) (a_b_lengths : Nat → Int32) (n_b_limbs : Nat) (a_b_limbs : Nat → Int32) : Nat → Int32 → (Nat → Int32) → Option (Int32 × (Nat → Int32))
  | 0, _, _ => none
  | j + 1, v8, a_t_plus =>
    (f_N_lengthOf n_a_lengths a_a_lengths v2).bind fun x44 =>
    if x44 ≤ v8 then
      some (v8, a_t_plus)
    else
      (f_N_limbOf i0_a n_a_limbs a_a_limbs v2 v8).bind fun x47 =>
      (f_S_addMultiple k n_t_plus a_t_plus v8 i0_b n_b_lengths a_b_lengths n_b_limbs a_b_limbs v4 x47.toInt64).bind fun x49 =>
      f_S_addProduct_L44b k v2 v4 n_t_plus i0_a n_a_lengths a_a_lengths n_a_limbs a_a_limbs i0_b n_b_lengths a_b_lengths n_b_limbs a_b_limbs j (v8 + 1) x49
def f_S_addProduct (k : Nat) (n_t_plus : Nat) (a_t_plus : Nat → Int32) (n_t_minus : Nat) (a_t_minus : Nat → Int32) (a_room : Int32) (n_a_signs : Nat) (a_a_signs : Nat → Int32) (n_a_lengths : Nat) (a_a_lengths : Nat → Int32) (n_a_limbs : Nat) (a_a_limbs : Nat → Int32) (slotA : Int32) (b_room : Int32) (n_b_signs : Nat) (a_b_signs : Nat → Int32) (n_b_lengths : Nat) (a_b_lengths : Nat → Int32) (n_b_limbs : Nat) (a_b_limbs : Nat → Int32) (slotB : Int32) (factor : Int32) : Option ((Nat → Int32) × (Nat → Int32)) :=
  (f_N_signOf n_a_signs a_a_signs slotA).bind fun x1 =>
  (f_N_signOf n_b_signs a_b_signs slotB).bind fun x3 =>
  if (x1 * x3) * factor = 0 then
    some (a_t_plus, a_t_minus)
  else
    if (x1 * x3) * factor ≤ 0 then
      (f_S_addProduct_L44 k slotA slotB n_t_minus a_room n_a_lengths a_a_lengths n_a_limbs a_a_limbs b_room n_b_lengths a_b_lengths n_b_limbs a_b_limbs k (0 : Int32) a_t_minus).bind fun x28 =>
      some (a_t_plus, x28.2)
    else
      (f_S_addProduct_L44b k slotA slotB n_t_plus a_room n_a_lengths a_a_lengths n_a_limbs a_a_limbs b_room n_b_lengths a_b_lengths n_b_limbs a_b_limbs k (0 : Int32) a_t_plus).bind fun x51 =>
      some (x51.2, a_t_minus)
def f_S_addProductSame_L44 (k : Nat) (v2 : Int32) (v4 : Int32) (n_t_minus : Nat) (i0_a : Int32) (n_a_lengths : Nat) (a_a_lengths : Nat → Int32) (n_a_limbs : Nat) (a_a_limbs : Nat → Int32) : Nat → Int32 → (Nat → Int32) → Option (Int32 × (Nat → Int32))
  | 0, _, _ => none
  | j + 1, v8, a_t_minus =>
    (f_N_lengthOf n_a_lengths a_a_lengths v2).bind fun x21 =>
    if x21 ≤ v8 then
      some (v8, a_t_minus)
    else
      (f_N_limbOf i0_a n_a_limbs a_a_limbs v2 v8).bind fun x24 =>
      (f_S_addMultiple k n_t_minus a_t_minus v8 i0_a n_a_lengths a_a_lengths n_a_limbs a_a_limbs v4 x24.toInt64).bind fun x26 =>
      f_S_addProductSame_L44 k v2 v4 n_t_minus i0_a n_a_lengths a_a_lengths n_a_limbs a_a_limbs j (v8 + 1) x26
def f_S_addProductSame_L44b (k : Nat) (v2 : Int32) (v4 : Int32) (n_t_plus : Nat) (i0_a : Int32) (n_a_lengths : Nat) (a_a_lengths : Nat → Int32) (n_a_limbs : Nat) (a_a_limbs : Nat → Int32) : Nat → Int32 → (Nat → Int32) → Option (Int32 × (Nat → Int32))
  | 0, _, _ => none
  | j + 1, v8, a_t_plus =>
    (f_N_lengthOf n_a_lengths a_a_lengths v2).bind fun x44 =>
    if x44 ≤ v8 then
      some (v8, a_t_plus)
    else
      (f_N_limbOf i0_a n_a_limbs a_a_limbs v2 v8).bind fun x47 =>
      (f_S_addMultiple k n_t_plus a_t_plus v8 i0_a n_a_lengths a_a_lengths n_a_limbs a_a_limbs v4 x47.toInt64).bind fun x49 =>
      f_S_addProductSame_L44b k v2 v4 n_t_plus i0_a n_a_lengths a_a_lengths n_a_limbs a_a_limbs j (v8 + 1) x49
def f_S_addProductSame (k : Nat) (n_t_plus : Nat) (a_t_plus : Nat → Int32) (n_t_minus : Nat) (a_t_minus : Nat → Int32) (a_room : Int32) (n_a_signs : Nat) (a_a_signs : Nat → Int32) (n_a_lengths : Nat) (a_a_lengths : Nat → Int32) (n_a_limbs : Nat) (a_a_limbs : Nat → Int32) (slotA : Int32) (slotB : Int32) (factor : Int32) : Option ((Nat → Int32) × (Nat → Int32)) :=
  (f_N_signOf n_a_signs a_a_signs slotA).bind fun x1 =>
  (f_N_signOf n_a_signs a_a_signs slotB).bind fun x3 =>
  if (x1 * x3) * factor = 0 then
    some (a_t_plus, a_t_minus)
  else
    if (x1 * x3) * factor ≤ 0 then
      (f_S_addProductSame_L44 k slotA slotB n_t_minus a_room n_a_lengths a_a_lengths n_a_limbs a_a_limbs k (0 : Int32) a_t_minus).bind fun x28 =>
      some (a_t_plus, x28.2)
    else
      (f_S_addProductSame_L44b k slotA slotB n_t_plus a_room n_a_lengths a_a_lengths n_a_limbs a_a_limbs k (0 : Int32) a_t_plus).bind fun x51 =>
      some (x51.2, a_t_minus)
def f_S_compareSides_L8 (k : Nat) (n_t_plus : Nat) (a_t_plus : Nat → Int32) (n_t_minus : Nat) (a_t_minus : Nat → Int32) : Nat → Int32 → Option (Bool × Int32 × Int32)
  | 0, _ => none
  | j + 1, v1 =>
    if v1 < 0 then
      some (false, 0, v1)
    else
      cond (inb v1 n_t_plus) (
      cond (inb v1 n_t_minus) (
      if a_t_plus v1.toNatClampNeg = a_t_minus v1.toNatClampNeg then
        f_S_compareSides_L8 k n_t_plus a_t_plus n_t_minus a_t_minus j (v1 + (-1))
      else
        cond (inb v1 n_t_plus) (
        cond (inb v1 n_t_minus) (
        if a_t_plus v1.toNatClampNeg ≤ a_t_minus v1.toNatClampNeg then
          some (true, (-1), v1)
        else
          some (true, 1, v1)) none) none) none) none
def f_S_compareSides (k : Nat) (n_t_plus : Nat) (a_t_plus : Nat → Int32) (n_t_minus : Nat) (a_t_minus : Nat → Int32) : Option (Int32) :=
  (f_S_compareSides_L8 k n_t_plus a_t_plus n_t_minus a_t_minus k ((nI n_t_plus) - 1)).bind fun x22 =>
  if x22.1 = true then
    some x22.2.1
  else
    some (0 : Int32)
def f_S_isZero (k : Nat) (n_t_plus : Nat) (a_t_plus : Nat → Int32) (n_t_minus : Nat) (a_t_minus : Nat → Int32) : Option (Int32) :=
  (f_S_compareSides k n_t_plus a_t_plus n_t_minus a_t_minus).bind fun x1 =>
  if x1 = 0 then
    some (1 : Int32)
  else
    some (0 : Int32)
def f_S_trimmed_L2 (k : Nat) (n_row : Nat) (a_row : Nat → Int32) : Nat → Int32 → Option (Int32)
  | 0, _ => none
  | j + 1, v2 =>
    if v2 ≤ 0 then
      some v2
    else
      cond (inb (v2 - 1) n_row) (
      if a_row (v2 - 1).toNatClampNeg = 0 then
        f_S_trimmed_L2 k n_row a_row j (v2 + (-1))
      else
        some v2) none
def f_S_trimmed (k : Nat) (n_row : Nat) (a_row : Nat → Int32) (most : Int32) : Option (Int32) :=
  (f_S_trimmed_L2 k n_row a_row k most).bind fun x10 =>
  some x10
def f_S_settle_L12 (k : Nat) (i4_t : Int32) (n_t_plus : Nat) (n_t_minus : Nat) (a_t_minus : Nat → Int32) : Nat → Int64 → Int32 → (Nat → Int32) → Option (Int64 × Int32 × (Nat → Int32))
  | 0, _, _, _ => none
  | j + 1, v1, v3, a_t_plus =>
    if nI n_t_plus ≤ v3 then
      some (v1, v3, a_t_plus)
    else
      cond (inb v3 n_t_plus) (
      cond (inb v3 n_t_minus) (
      cond (inb v3 n_t_plus) (
      f_S_settle_L12 k i4_t n_t_plus n_t_minus a_t_minus j ((v1 + (i4_t.toInt64 * (((a_t_plus v3.toNatClampNeg).toInt64) - ((a_t_minus v3.toNatClampNeg).toInt64)))) >>> ((31 : Int32).toInt64 &&& 63)) (v3 + 1) (upd a_t_plus v3.toNatClampNeg (((v1 + (i4_t.toInt64 * (((a_t_plus v3.toNatClampNeg).toInt64) - ((a_t_minus v3.toNatClampNeg).toInt64)))) &&& 2147483647).toInt32))) none) none) none
def f_S_settle (k : Nat) (n_t_plus : Nat) (a_t_plus : Nat → Int32) (n_t_minus : Nat) (a_t_minus : Nat → Int32) : Option (Int32 × Int32 × (Nat → Int32)) :=
  (f_S_compareSides k n_t_plus a_t_plus n_t_minus a_t_minus).bind fun x1 =>
  (f_S_settle_L12 k x1 n_t_plus n_t_minus a_t_minus k (0 : Int64) (0 : Int32) a_t_plus).bind fun x15 =>
  (f_S_trimmed k n_t_plus x15.2.2 (nI n_t_plus)).bind fun x17 =>
  some (x1, x17, x15.2.2)
def f_S_countZeroLimbs_L2 (k : Nat) (v1 : Int32) (n_t_divisor : Nat) (a_t_divisor : Nat → Int32) : Nat → Int32 → Option (Int32)
  | 0, _ => none
  | j + 1, v2 =>
    if v1 - 1 ≤ v2 then
      some v2
    else
      cond (inb v2 n_t_divisor) (
      if a_t_divisor v2.toNatClampNeg = 0 then
        f_S_countZeroLimbs_L2 k v1 n_t_divisor a_t_divisor j (v2 + 1)
      else
        some v2) none
def f_S_countZeroLimbs (k : Nat) (n_t_divisor : Nat) (a_t_divisor : Nat → Int32) (size : Int32) : Option (Int32) :=
  (f_S_countZeroLimbs_L2 k size n_t_divisor a_t_divisor k (0 : Int32)).bind fun x10 =>
  some x10
def f_S_countZeroBits_L2 (k : Nat) (v0 : Int32) : Nat → Int32 → Option (Int32)
  | 0, _ => none
  | j + 1, v1 =>
    if 30 ≤ v1 then
      some v1
    else
      if (v0 >>> (v1 &&& 31)) &&& 1 = 0 then
        f_S_countZeroBits_L2 k v0 j (v1 + 1)
      else
        some v1
def f_S_countZeroBits (k : Nat) (word : Int32) : Option (Int32) :=
  (f_S_countZeroBits_L2 k word k (0 : Int32)).bind fun x7 =>
  some x7
def f_S_shiftDown_L3 (k : Nat) (v1 : Int32) (v2 : Int32) (v3 : Int32) (n_row : Nat) : Nat → Int32 → (Nat → Int32) → Option (Int32 × (Nat → Int32))
  | 0, _, _ => none
  | j + 1, v4, a_row =>
    if v1 ≤ v4 then
      some (v4, a_row)
    else
      if v1 ≤ v4 + v2 then
        if v1 ≤ (v4 + v2) + 1 then
          cond (inb v4 n_row) (
          f_S_shiftDown_L3 k v1 v2 v3 n_row j (v4 + 1) (upd a_row v4.toNatClampNeg ((((((0 : Int64) <<< ((31 : Int32).toInt64 &&& 63)) ||| 0) >>> (v3.toInt64 &&& 63)) &&& 2147483647).toInt32))) none
        else
          cond (inb ((v4 + v2) + 1) n_row) (
          cond (inb v4 n_row) (
          f_S_shiftDown_L3 k v1 v2 v3 n_row j (v4 + 1) (upd a_row v4.toNatClampNeg (((((((a_row ((v4 + v2) + 1).toNatClampNeg).toInt64) <<< ((31 : Int32).toInt64 &&& 63)) ||| 0) >>> (v3.toInt64 &&& 63)) &&& 2147483647).toInt32))) none) none
      else
        cond (inb (v4 + v2) n_row) (
        if v1 ≤ (v4 + v2) + 1 then
          cond (inb v4 n_row) (
          f_S_shiftDown_L3 k v1 v2 v3 n_row j (v4 + 1) (upd a_row v4.toNatClampNeg ((((((0 : Int64) <<< ((31 : Int32).toInt64 &&& 63)) ||| ((a_row (v4 + v2).toNatClampNeg).toInt64)) >>> (v3.toInt64 &&& 63)) &&& 2147483647).toInt32))) none
        else
          cond (inb ((v4 + v2) + 1) n_row) (
          cond (inb v4 n_row) (
          f_S_shiftDown_L3 k v1 v2 v3 n_row j (v4 + 1) (upd a_row v4.toNatClampNeg (((((((a_row ((v4 + v2) + 1).toNatClampNeg).toInt64) <<< ((31 : Int32).toInt64 &&& 63)) ||| ((a_row (v4 + v2).toNatClampNeg).toInt64)) >>> (v3.toInt64 &&& 63)) &&& 2147483647).toInt32))) none) none) none
def f_S_shiftDown (k : Nat) (n_row : Nat) (a_row : Nat → Int32) (size : Int32) (byLimbs : Int32) (byBits : Int32) : Option ((Nat → Int32)) :=
  (f_S_shiftDown_L3 k size byLimbs byBits n_row k (0 : Int32) a_row).bind fun x34 =>
  some x34.2
def f_S_inverseOf_L4 (k : Nat) (v0 : Int32) : Nat → Int32 → Int32 → Option (Int32 × Int32)
  | 0, _, _ => none
  | j + 1, v1, v2 =>
    if 4 ≤ v2 then
      some (v1, v2)
    else
      f_S_inverseOf_L4 k v0 j (v1 * (2 - (v0 * v1))) (v2 + 1)
def f_S_inverseOf (k : Nat) (word : Int32) : Option (Int32) :=
  (f_S_inverseOf_L4 k word k word (0 : Int32)).bind fun x4 =>
  some x4.1
def f_S_takeMultiple_L6 (k : Nat) (v1 : Int32) (v2 : Int32) (v3 : Int32) (v4 : Int64) (n_t_plus : Nat) (n_t_divisor : Nat) (a_t_divisor : Nat → Int32) : Nat → Int64 → Int32 → (Nat → Int32) → Option (Int64 × Int32 × (Nat → Int32))
  | 0, _, _, _ => none
  | j + 1, v6, v8, a_t_plus =>
    if v2 ≤ v8 then
      some (v6, v8, a_t_plus)
    else
      if v8 - v1 < v3 then
        cond (inb v8 n_t_plus) (
        if v3 ≤ v8 - v1 then
          cond (inb v8 n_t_plus) (
          f_S_takeMultiple_L6 k v1 v2 v3 v4 n_t_plus n_t_divisor a_t_divisor j ((v6 + ((a_t_plus v8.toNatClampNeg).toInt64)) >>> ((31 : Int32).toInt64 &&& 63)) (v8 + 1) (upd a_t_plus v8.toNatClampNeg (((v6 + ((a_t_plus v8.toNatClampNeg).toInt64)) &&& 2147483647).toInt32))) none
        else
          cond (inb (v8 - v1) n_t_divisor) (
          cond (inb v8 n_t_plus) (
          f_S_takeMultiple_L6 k v1 v2 v3 v4 n_t_plus n_t_divisor a_t_divisor j (((v6 + ((a_t_plus v8.toNatClampNeg).toInt64)) - (v4 * ((a_t_divisor (v8 - v1).toNatClampNeg).toInt64))) >>> ((31 : Int32).toInt64 &&& 63)) (v8 + 1) (upd a_t_plus v8.toNatClampNeg ((((v6 + ((a_t_plus v8.toNatClampNeg).toInt64)) - (v4 * ((a_t_divisor (v8 - v1).toNatClampNeg).toInt64))) &&& 2147483647).toInt32))) none) none) none
      else
        if lg_cmp v6 (0 : Int64) = 0 then
          some (v6, v8, a_t_plus)
        else
          cond (inb v8 n_t_plus) (
          if v3 ≤ v8 - v1 then
            cond (inb v8 n_t_plus) (
            f_S_takeMultiple_L6 k v1 v2 v3 v4 n_t_plus n_t_divisor a_t_divisor j ((v6 + ((a_t_plus v8.toNatClampNeg).toInt64)) >>> ((31 : Int32).toInt64 &&& 63)) (v8 + 1) (upd a_t_plus v8.toNatClampNeg (((v6 + ((a_t_plus v8.toNatClampNeg).toInt64)) &&& 2147483647).toInt32))) none
          else
            cond (inb (v8 - v1) n_t_divisor) (
            cond (inb v8 n_t_plus) (
            f_S_takeMultiple_L6 k v1 v2 v3 v4 n_t_plus n_t_divisor a_t_divisor j (((v6 + ((a_t_plus v8.toNatClampNeg).toInt64)) - (v4 * ((a_t_divisor (v8 - v1).toNatClampNeg).toInt64))) >>> ((31 : Int32).toInt64 &&& 63)) (v8 + 1) (upd a_t_plus v8.toNatClampNeg ((((v6 + ((a_t_plus v8.toNatClampNeg).toInt64)) - (v4 * ((a_t_divisor (v8 - v1).toNatClampNeg).toInt64))) &&& 2147483647).toInt32))) none) none) none
def f_S_takeMultiple (k : Nat) (n_t_plus : Nat) (a_t_plus : Nat → Int32) (n_t_divisor : Nat) (a_t_divisor : Nat → Int32) (fro : Int32) (fin : Int32) (size : Int32) (word : Int64) : Option ((Nat → Int32)) :=
  (f_S_takeMultiple_L6 k fro fin size word n_t_plus n_t_divisor a_t_divisor k (0 : Int64) fro a_t_plus).bind fun x40 =>
  some x40.2.2
def f_S_divideByOdd_L24 (k : Nat) (v1 : Int32) (v3 : Int32) (v4 : Int32) (n_t_plus : Nat) (n_t_divisor : Nat) (a_t_divisor : Nat → Int32) : Nat → Int32 → (Nat → Int32) → Option (Int32 × (Nat → Int32))
  | 0, _, _ => none
  | j + 1, v5, a_t_plus =>
    if v3 ≤ v5 then
      some (v5, a_t_plus)
    else
      cond (inb v5 n_t_plus) (
      (f_S_takeMultiple k n_t_plus a_t_plus n_t_divisor a_t_divisor v5 v3 v1 ((((a_t_plus v5.toNatClampNeg) * v4) &&& 2147483647).toInt64)).bind fun x16 =>
      cond (inb v5 n_t_plus) (
      f_S_divideByOdd_L24 k v1 v3 v4 n_t_plus n_t_divisor a_t_divisor j (v5 + 1) (upd x16 v5.toNatClampNeg (((a_t_plus v5.toNatClampNeg) * v4) &&& 2147483647))) none) none
def f_S_divideByOdd (k : Nat) (n_t_plus : Nat) (a_t_plus : Nat → Int32) (n_t_divisor : Nat) (a_t_divisor : Nat → Int32) (size : Int32) (lengthLeft : Int32) : Option (Int32 × (Nat → Int32)) :=
  cond (inb 0 n_t_divisor) (
  (f_S_inverseOf k (a_t_divisor (0 : Int32).toNatClampNeg)).bind fun x2 =>
  (f_S_divideByOdd_L24 k size (if (0 : Int32) < (lengthLeft - size) + 1 then (lengthLeft - size) + 1 else (0 : Int32)) x2 n_t_plus n_t_divisor a_t_divisor k (0 : Int32) a_t_plus).bind fun x19 =>
  (f_S_trimmed k n_t_plus x19.2 (if (0 : Int32) < (lengthLeft - size) + 1 then (lengthLeft - size) + 1 else (0 : Int32))).bind fun x21 =>
  some (x21, x19.2)) none
def f_S_divideBy_L22 (k : Nat) (v2 : Int32) (v3 : Int32) (n_t_divisor : Nat) (i0_u : Int32) (n_u_limbs : Nat) (a_u_limbs : Nat → Int32) : Nat → Int32 → (Nat → Int32) → Option (Int32 × (Nat → Int32))
  | 0, _, _ => none
  | j + 1, v4, a_t_divisor =>
    if v3 ≤ v4 then
      some (v4, a_t_divisor)
    else
      (f_N_limbOf i0_u n_u_limbs a_u_limbs v2 v4).bind fun x14 =>
      cond (inb v4 n_t_divisor) (
      f_S_divideBy_L22 k v2 v3 n_t_divisor i0_u n_u_limbs a_u_limbs j (v4 + 1) (upd a_t_divisor v4.toNatClampNeg x14)) none
def f_S_divideBy (k : Nat) (t_sign : Int32) (t_length : Int32) (n_t_plus : Nat) (a_t_plus : Nat → Int32) (n_t_divisor : Nat) (a_t_divisor : Nat → Int32) (u_room : Int32) (n_u_signs : Nat) (a_u_signs : Nat → Int32) (n_u_lengths : Nat) (a_u_lengths : Nat → Int32) (n_u_limbs : Nat) (a_u_limbs : Nat → Int32) (slot : Int32) : Option (Int32 × Int32 × (Nat → Int32) × (Nat → Int32)) :=
  (f_N_lengthOf n_u_lengths a_u_lengths slot).bind fun x1 =>
  if x1 = 0 then
    some (t_sign, t_length, a_t_plus, a_t_divisor)
  else
    if x1 ≤ t_length then
      (f_S_divideBy_L22 k slot x1 n_t_divisor u_room n_u_limbs a_u_limbs k (0 : Int32) a_t_divisor).bind fun x17 =>
      (f_S_countZeroLimbs k n_t_divisor x17.2 x1).bind fun x19 =>
      cond (inb x19 n_t_divisor) (
      (f_S_countZeroBits k (x17.2 x19.toNatClampNeg)).bind fun x22 =>
      (f_S_shiftDown k n_t_divisor x17.2 x1 x19 x22).bind fun x24 =>
      (f_S_shiftDown k n_t_plus a_t_plus t_length x19 x22).bind fun x26 =>
      (f_S_trimmed k n_t_divisor x24 x1).bind fun x28 =>
      (f_S_trimmed k n_t_plus x26 t_length).bind fun x30 =>
      (f_S_divideByOdd k n_t_plus x26 n_t_divisor x24 x28 x30).bind fun x32 =>
      (f_N_signOf n_u_signs a_u_signs slot).bind fun x34 =>
      some (t_sign * x34, x32.1, x32.2, x24)) none
    else
      some (t_sign, t_length, a_t_plus, a_t_divisor)
def f_S_storeIn (t_room : Int32) (t_sign : Int32) (t_length : Int32) (n_t_plus : Nat) (a_t_plus : Nat → Int32) (u_room : Int32) (n_u_signs : Nat) (a_u_signs : Nat → Int32) (n_u_lengths : Nat) (a_u_lengths : Nat → Int32) (n_u_limbs : Nat) (a_u_limbs : Nat → Int32) (slot : Int32) : Option (Int32 × (Nat → Int32) × (Nat → Int32) × (Nat → Int32)) :=
  if t_length ≤ t_room then
    (f_N_put u_room n_u_signs a_u_signs n_u_lengths a_u_lengths n_u_limbs a_u_limbs slot n_t_plus a_t_plus t_length t_sign).bind fun x2 =>
    some ((1 : Int32), x2.1, x2.2.1, x2.2.2)
  else
    some ((0 : Int32), a_u_signs, a_u_lengths, a_u_limbs)
def f_M_startLoading_L9 (k : Nat) (i0_t : Int32) (n_t_rowAt : Nat) : Nat → Int32 → (Nat → Int32) → Option (Int32 × (Nat → Int32))
  | 0, _, _ => none
  | j + 1, v1, a_t_rowAt =>
    if i0_t ≤ v1 then
      some (v1, a_t_rowAt)
    else
      cond (inb v1 n_t_rowAt) (
      f_M_startLoading_L9 k i0_t n_t_rowAt j (v1 + 1) (upd a_t_rowAt v1.toNatClampNeg v1)) none
def f_M_startLoading (k : Nat) (t_n : Int32) (n_t_matrix_signs : Nat) (a_t_matrix_signs : Nat → Int32) (n_t_matrix_lengths : Nat) (a_t_matrix_lengths : Nat → Int32) (n_t_rowAt : Nat) (a_t_rowAt : Nat → Int32) : Option (Int32 × Int32 × Int32 × Int32 × Int32 × Int32 × Int32 × (Nat → Int32) × (Nat → Int32) × (Nat → Int32)) :=
  (f_N_clearAll k n_t_matrix_signs a_t_matrix_signs n_t_matrix_lengths a_t_matrix_lengths).bind fun x1 =>
  (f_M_startLoading_L9 k t_n n_t_rowAt k (0 : Int32) a_t_rowAt).bind fun x9 =>
  some ((4 : Int32), (0 : Int32), (0 : Int32), (0 : Int32), (-1 : Int32), (0 : Int32), (0 : Int32), x1.1, x1.2, x9.2)
def f_M_within (value : Int32) (most : Int32) : Option (Int32) :=
  some (if (1 : Int32) < (if most < value then most else value) then (if most < value then most else value) else (1 : Int32))
def f_M_reset (k : Nat) (t_n : Int32) (n_t_matrix_signs : Nat) (a_t_matrix_signs : Nat → Int32) (n_t_matrix_lengths : Nat) (a_t_matrix_lengths : Nat → Int32) (n_t_rowAt : Nat) (a_t_rowAt : Nat → Int32) : Option (Int32 × Int32 × Int32 × Int32 × Int32 × Int32 × Int32 × (Nat → Int32) × (Nat → Int32) × (Nat → Int32)) :=
  (f_M_startLoading k t_n n_t_matrix_signs a_t_matrix_signs n_t_matrix_lengths a_t_matrix_lengths n_t_rowAt a_t_rowAt).bind fun x1 =>
  some (x1.1, x1.2.1, x1.2.2.1, x1.2.2.2.1, x1.2.2.2.2.1, x1.2.2.2.2.2.1, x1.2.2.2.2.2.2.1, x1.2.2.2.2.2.2.2.1, x1.2.2.2.2.2.2.2.2.1, x1.2.2.2.2.2.2.2.2.2)
def f_M_isPlace (t_n : Int32) (row : Int32) (column : Int32) : Option (Int32) :=
  if row < 0 then
    some (0 : Int32)
  else
    if t_n ≤ row then
      some (0 : Int32)
    else
      if column < 0 then
        some (0 : Int32)
      else
        if t_n < column then
          some (0 : Int32)
        else
          some (1 : Int32)
def f_M_slotAt (t_n : Int32) (n_t_rowAt : Nat) (a_t_rowAt : Nat → Int32) (row : Int32) (column : Int32) : Option (Int32) :=
  cond (inb row n_t_rowAt) (
  some (((a_t_rowAt row.toNatClampNeg) * (t_n + 1)) + column)) none
def f_M_entry (t_n : Int32) (t_told : Int32) (t_chosen : Int32) (t_chosenSign : Int32) (t_chosenLimbs : Int32) (n_t_matrix_signs : Nat) (a_t_matrix_signs : Nat → Int32) (n_t_matrix_lengths : Nat) (a_t_matrix_lengths : Nat → Int32) (n_t_rowAt : Nat) (a_t_rowAt : Nat → Int32) (row : Int32) (column : Int32) (sign : Int32) : Option (Int32 × Int32 × Int32 × Int32 × (Nat → Int32) × (Nat → Int32)) :=
  if t_told = 4 then
    (f_M_isPlace t_n row column).bind fun x2 =>
    if x2 = 0 then
      some ((0 : Int32), t_chosen, t_chosenSign, t_chosenLimbs, a_t_matrix_signs, a_t_matrix_lengths)
    else
      if sign < (-1) then
        some ((0 : Int32), t_chosen, t_chosenSign, t_chosenLimbs, a_t_matrix_signs, a_t_matrix_lengths)
      else
        if sign ≤ 1 then
          (f_M_slotAt t_n n_t_rowAt a_t_rowAt row column).bind fun x7 =>
          (f_N_clear n_t_matrix_signs a_t_matrix_signs n_t_matrix_lengths a_t_matrix_lengths x7).bind fun x9 =>
          some ((1 : Int32), x7, sign, (0 : Int32), x9.1, x9.2)
        else
          some ((0 : Int32), t_chosen, t_chosenSign, t_chosenLimbs, a_t_matrix_signs, a_t_matrix_lengths)
  else
    some ((0 : Int32), t_chosen, t_chosenSign, t_chosenLimbs, a_t_matrix_signs, a_t_matrix_lengths)
def f_M_limb (t_room : Int32) (t_chosen : Int32) (t_chosenSign : Int32) (t_chosenLimbs : Int32) (t_matrix_room : Int32) (n_t_matrix_signs : Nat) (a_t_matrix_signs : Nat → Int32) (n_t_matrix_lengths : Nat) (a_t_matrix_lengths : Nat → Int32) (n_t_matrix_limbs : Nat) (a_t_matrix_limbs : Nat → Int32) (word : Int32) : Option (Int32 × Int32 × (Nat → Int32) × (Nat → Int32) × (Nat → Int32)) :=
  if t_chosen = (-1) then
    some ((0 : Int32), t_chosenLimbs, a_t_matrix_signs, a_t_matrix_lengths, a_t_matrix_limbs)
  else
    if t_chosenSign = 0 then
      some ((0 : Int32), t_chosenLimbs, a_t_matrix_signs, a_t_matrix_lengths, a_t_matrix_limbs)
    else
      if word < 0 then
        some ((0 : Int32), t_chosenLimbs, a_t_matrix_signs, a_t_matrix_lengths, a_t_matrix_limbs)
      else
        if t_chosenLimbs < t_room then
          (f_N_putLimb t_matrix_room n_t_matrix_signs a_t_matrix_signs n_t_matrix_lengths a_t_matrix_lengths n_t_matrix_limbs a_t_matrix_limbs t_chosen t_chosenLimbs word t_chosenSign).bind fun x5 =>
          some ((1 : Int32), t_chosenLimbs + 1, x5.1, x5.2.1, x5.2.2)
        else
          some ((0 : Int32), t_chosenLimbs, a_t_matrix_signs, a_t_matrix_lengths, a_t_matrix_limbs)
def f_M_isEnded (t_told : Int32) : Option (Int32) :=
  if t_told = 1 then
    some (1 : Int32)
  else
    if t_told = 2 then
      some (1 : Int32)
    else
      if t_told = 3 then
        some (1 : Int32)
      else
        some (0 : Int32)
def f_M_endLoading_L7 (k : Nat) (i0_t : Int32) (n_t_matrix_signs : Nat) (a_t_matrix_signs : Nat → Int32) (n_t_matrix_lengths : Nat) (a_t_matrix_lengths : Nat → Int32) (n_t_matrix_limbs : Nat) (a_t_matrix_limbs : Nat → Int32) (i0_t_loaded : Int32) (n_t_loaded_signs : Nat) (n_t_loaded_lengths : Nat) (n_t_loaded_limbs : Nat) : Nat → Int32 → (Nat → Int32) → (Nat → Int32) → (Nat → Int32) → Option (Int32 × (Nat → Int32) × (Nat → Int32) × (Nat → Int32))
  | 0, _, _, _, _ => none
  | j + 1, v1, a_t_loaded_signs, a_t_loaded_lengths, a_t_loaded_limbs =>
    if i0_t * (i0_t + 1) ≤ v1 then
      some (v1, a_t_loaded_signs, a_t_loaded_lengths, a_t_loaded_limbs)
    else
      (f_N_copy i0_t_loaded n_t_loaded_signs a_t_loaded_signs n_t_loaded_lengths a_t_loaded_lengths n_t_loaded_limbs a_t_loaded_limbs v1 n_t_matrix_signs a_t_matrix_signs n_t_matrix_lengths a_t_matrix_lengths n_t_matrix_limbs a_t_matrix_limbs v1).bind fun x8 =>
      f_M_endLoading_L7 k i0_t n_t_matrix_signs a_t_matrix_signs n_t_matrix_lengths a_t_matrix_lengths n_t_matrix_limbs a_t_matrix_limbs i0_t_loaded n_t_loaded_signs n_t_loaded_lengths n_t_loaded_limbs j (v1 + 1) x8.1 x8.2.1 x8.2.2
def f_M_endLoading (k : Nat) (t_n : Int32) (n_t_matrix_signs : Nat) (a_t_matrix_signs : Nat → Int32) (n_t_matrix_lengths : Nat) (a_t_matrix_lengths : Nat → Int32) (n_t_matrix_limbs : Nat) (a_t_matrix_limbs : Nat → Int32) (t_loaded_room : Int32) (n_t_loaded_signs : Nat) (a_t_loaded_signs : Nat → Int32) (n_t_loaded_lengths : Nat) (a_t_loaded_lengths : Nat → Int32) (n_t_loaded_limbs : Nat) (a_t_loaded_limbs : Nat → Int32) : Option (Int32 × (Nat → Int32) × (Nat → Int32) × (Nat → Int32)) :=
  (f_M_endLoading_L7 k t_n n_t_matrix_signs a_t_matrix_signs n_t_matrix_lengths a_t_matrix_lengths n_t_matrix_limbs a_t_matrix_limbs t_loaded_room n_t_loaded_signs n_t_loaded_lengths n_t_loaded_limbs k (0 : Int32) a_t_loaded_signs a_t_loaded_lengths a_t_loaded_limbs).bind fun x10 =>
  some ((-1 : Int32), x10.2.1, x10.2.2.1, x10.2.2.2)
def f_M_findPivotRow_L2 (k : Nat) (v1 : Int32) (i0_t : Int32) (n_t_matrix_signs : Nat) (a_t_matrix_signs : Nat → Int32) (n_t_rowAt : Nat) (a_t_rowAt : Nat → Int32) : Nat → Int32 → Option (Bool × Int32 × Int32)
  | 0, _ => none
  | j + 1, v2 =>
    if i0_t ≤ v2 then
      some (false, 0, v2)
    else
      (f_M_slotAt i0_t n_t_rowAt a_t_rowAt v2 v1).bind fun x14 =>
      (f_N_signOf n_t_matrix_signs a_t_matrix_signs x14).bind fun x16 =>
      if x16 = 0 then
        f_M_findPivotRow_L2 k v1 i0_t n_t_matrix_signs a_t_matrix_signs n_t_rowAt a_t_rowAt j (v2 + 1)
      else
        some (true, v2, v2)
def f_M_findPivotRow (k : Nat) (t_n : Int32) (n_t_matrix_signs : Nat) (a_t_matrix_signs : Nat → Int32) (n_t_rowAt : Nat) (a_t_rowAt : Nat → Int32) (kk : Int32) : Option (Int32) :=
  (f_M_findPivotRow_L2 k kk t_n n_t_matrix_signs a_t_matrix_signs n_t_rowAt a_t_rowAt k kk).bind fun x19 =>
  if x19.1 = true then
    some x19.2.1
  else
    some (-1 : Int32)
def f_M_swapRows (t_oddSwaps : Int32) (n_t_rowAt : Nat) (a_t_rowAt : Nat → Int32) (upper : Int32) (lower : Int32) : Option (Int32 × (Nat → Int32)) :=
  cond (inb upper n_t_rowAt) (
  cond (inb lower n_t_rowAt) (
  cond (inb upper n_t_rowAt) (
  cond (inb lower n_t_rowAt) (
  if t_oddSwaps = 0 then
    some ((1 : Int32), upd (upd a_t_rowAt upper.toNatClampNeg (a_t_rowAt lower.toNatClampNeg)) lower.toNatClampNeg (a_t_rowAt upper.toNatClampNeg))
  else
    some ((0 : Int32), upd (upd a_t_rowAt upper.toNatClampNeg (a_t_rowAt lower.toNatClampNeg)) lower.toNatClampNeg (a_t_rowAt upper.toNatClampNeg))) none) none) none) none
def f_M_makeMinor (k : Nat) (t_n : Int32) (t_matrix_room : Int32) (n_t_matrix_signs : Nat) (a_t_matrix_signs : Nat → Int32) (n_t_matrix_lengths : Nat) (a_t_matrix_lengths : Nat → Int32) (n_t_matrix_limbs : Nat) (a_t_matrix_limbs : Nat → Int32) (t_sum_room : Int32) (n_t_sum_plus : Nat) (a_t_sum_plus : Nat → Int32) (n_t_sum_minus : Nat) (a_t_sum_minus : Nat → Int32) (n_t_sum_divisor : Nat) (a_t_sum_divisor : Nat → Int32) (n_t_rowAt : Nat) (a_t_rowAt : Nat → Int32) (kk : Int32) (row : Int32) (column : Int32) : Option (Int32 × (Nat → Int32) × (Nat → Int32) × (Nat → Int32) × Int32 × Int32 × (Nat → Int32) × (Nat → Int32) × (Nat → Int32)) :=
  (f_S_clear k n_t_sum_plus a_t_sum_plus n_t_sum_minus a_t_sum_minus).bind fun x1 =>
  (f_M_slotAt t_n n_t_rowAt a_t_rowAt kk kk).bind fun x3 =>
  (f_M_slotAt t_n n_t_rowAt a_t_rowAt row column).bind fun x5 =>
  (f_S_addProductSame k n_t_sum_plus x1.2.2.1 n_t_sum_minus x1.2.2.2 t_matrix_room n_t_matrix_signs a_t_matrix_signs n_t_matrix_lengths a_t_matrix_lengths n_t_matrix_limbs a_t_matrix_limbs x3 x5 (1 : Int32)).bind fun x7 =>
  (f_M_slotAt t_n n_t_rowAt a_t_rowAt row kk).bind fun x9 =>
  (f_M_slotAt t_n n_t_rowAt a_t_rowAt kk column).bind fun x11 =>
  (f_S_addProductSame k n_t_sum_plus x7.1 n_t_sum_minus x7.2 t_matrix_room n_t_matrix_signs a_t_matrix_signs n_t_matrix_lengths a_t_matrix_lengths n_t_matrix_limbs a_t_matrix_limbs x9 x11 (-1 : Int32)).bind fun x13 =>
  (f_S_settle k n_t_sum_plus x13.1 n_t_sum_minus x13.2).bind fun x15 =>
  if kk ≤ 0 then
    (f_M_slotAt t_n n_t_rowAt a_t_rowAt row column).bind fun x18 =>
    (f_S_storeIn t_sum_room x15.1 x15.2.1 n_t_sum_plus x15.2.2 t_matrix_room n_t_matrix_signs a_t_matrix_signs n_t_matrix_lengths a_t_matrix_lengths n_t_matrix_limbs a_t_matrix_limbs x18).bind fun x20 =>
    cond (isz x20.1) (
    some (x20.1, x20.2.1, x20.2.2.1, x20.2.2.2, x15.1, x15.2.1, x15.2.2, x13.2, a_t_sum_divisor)) none
  else
    (f_M_slotAt t_n n_t_rowAt a_t_rowAt (kk - 1) (kk - 1)).bind fun x23 =>
    (f_S_divideBy k x15.1 x15.2.1 n_t_sum_plus x15.2.2 n_t_sum_divisor a_t_sum_divisor t_matrix_room n_t_matrix_signs a_t_matrix_signs n_t_matrix_lengths a_t_matrix_lengths n_t_matrix_limbs a_t_matrix_limbs x23).bind fun x25 =>
    (f_M_slotAt t_n n_t_rowAt a_t_rowAt row column).bind fun x27 =>
    (f_S_storeIn t_sum_room x25.1 x25.2.1 n_t_sum_plus x25.2.2.1 t_matrix_room n_t_matrix_signs a_t_matrix_signs n_t_matrix_lengths a_t_matrix_lengths n_t_matrix_limbs a_t_matrix_limbs x27).bind fun x29 =>
    cond (isz x29.1) (
    some (x29.1, x29.2.1, x29.2.2.1, x29.2.2.2, x25.1, x25.2.1, x25.2.2.1, x13.2, x25.2.2.2)) none
def f_M_eliminateColumn_L48 (k : Nat) (v1 : Int32) (v3 : Int32) (i0_t : Int32) (i0_t_matrix : Int32) (n_t_matrix_signs : Nat) (n_t_matrix_lengths : Nat) (n_t_matrix_limbs : Nat) (i0_t_sum : Int32) (n_t_sum_plus : Nat) (n_t_sum_minus : Nat) (n_t_sum_divisor : Nat) (n_t_rowAt : Nat) (a_t_rowAt : Nat → Int32) : Nat → Int32 → (Nat → Int32) → (Nat → Int32) → (Nat → Int32) → Int32 → Int32 → (Nat → Int32) → (Nat → Int32) → (Nat → Int32) → Option (Bool × Int32 × Int32 × (Nat → Int32) × (Nat → Int32) × (Nat → Int32) × Int32 × Int32 × (Nat → Int32) × (Nat → Int32) × (Nat → Int32))
  | 0, _, _, _, _, _, _, _, _, _ => none
  | j + 1, v4, a_t_matrix_signs, a_t_matrix_lengths, a_t_matrix_limbs, i4_t_sum, i5_t_sum, a_t_sum_plus, a_t_sum_minus, a_t_sum_divisor =>
    if i0_t < v4 then
      some (false, 0, v4, a_t_matrix_signs, a_t_matrix_lengths, a_t_matrix_limbs, i4_t_sum, i5_t_sum, a_t_sum_plus, a_t_sum_minus, a_t_sum_divisor)
    else
      (f_M_makeMinor k i0_t i0_t_matrix n_t_matrix_signs a_t_matrix_signs n_t_matrix_lengths a_t_matrix_lengths n_t_matrix_limbs a_t_matrix_limbs i0_t_sum n_t_sum_plus a_t_sum_plus n_t_sum_minus a_t_sum_minus n_t_sum_divisor a_t_sum_divisor n_t_rowAt a_t_rowAt v1 v3 v4).bind fun x31 =>
      if x31.1 = 0 then
        some (true, 3, v4, x31.2.1, x31.2.2.1, x31.2.2.2.1, x31.2.2.2.2.1, x31.2.2.2.2.2.1, x31.2.2.2.2.2.2.1, x31.2.2.2.2.2.2.2.1, x31.2.2.2.2.2.2.2.2)
      else
        f_M_eliminateColumn_L48 k v1 v3 i0_t i0_t_matrix n_t_matrix_signs n_t_matrix_lengths n_t_matrix_limbs i0_t_sum n_t_sum_plus n_t_sum_minus n_t_sum_divisor n_t_rowAt a_t_rowAt j (v4 + 1) x31.2.1 x31.2.2.1 x31.2.2.2.1 x31.2.2.2.2.1 x31.2.2.2.2.2.1 x31.2.2.2.2.2.2.1 x31.2.2.2.2.2.2.2.1 x31.2.2.2.2.2.2.2.2
def f_M_eliminateColumn_L35 (k : Nat) (v1 : Int32) (i0_t : Int32) (i0_t_matrix : Int32) (n_t_matrix_signs : Nat) (n_t_matrix_lengths : Nat) (n_t_matrix_limbs : Nat) (i0_t_sum : Int32) (n_t_sum_plus : Nat) (n_t_sum_minus : Nat) (n_t_sum_divisor : Nat) (n_t_rowAt : Nat) (a_t_rowAt : Nat → Int32) : Nat → Int32 → (Nat → Int32) → (Nat → Int32) → (Nat → Int32) → Int32 → Int32 → (Nat → Int32) → (Nat → Int32) → (Nat → Int32) → Option (Bool × Int32 × Int32 × (Nat → Int32) × (Nat → Int32) × (Nat → Int32) × Int32 × Int32 × (Nat → Int32) × (Nat → Int32) × (Nat → Int32))
  | 0, _, _, _, _, _, _, _, _, _ => none
  | j + 1, v3, a_t_matrix_signs, a_t_matrix_lengths, a_t_matrix_limbs, i4_t_sum, i5_t_sum, a_t_sum_plus, a_t_sum_minus, a_t_sum_divisor =>
    if i0_t ≤ v3 then
      some (false, 0, v3, a_t_matrix_signs, a_t_matrix_lengths, a_t_matrix_limbs, i4_t_sum, i5_t_sum, a_t_sum_plus, a_t_sum_minus, a_t_sum_divisor)
    else
      (f_M_eliminateColumn_L48 k v1 v3 i0_t i0_t_matrix n_t_matrix_signs n_t_matrix_lengths n_t_matrix_limbs i0_t_sum n_t_sum_plus n_t_sum_minus n_t_sum_divisor n_t_rowAt a_t_rowAt k (v1 + 1) a_t_matrix_signs a_t_matrix_lengths a_t_matrix_limbs i4_t_sum i5_t_sum a_t_sum_plus a_t_sum_minus a_t_sum_divisor).bind fun x38 =>
      if x38.1 = true then
        some (true, x38.2.1, (0 : Int32), x38.2.2.2.1, x38.2.2.2.2.1, x38.2.2.2.2.2.1, x38.2.2.2.2.2.2.1, x38.2.2.2.2.2.2.2.1, x38.2.2.2.2.2.2.2.2.1, x38.2.2.2.2.2.2.2.2.2.1, x38.2.2.2.2.2.2.2.2.2.2)
      else
        f_M_eliminateColumn_L35 k v1 i0_t i0_t_matrix n_t_matrix_signs n_t_matrix_lengths n_t_matrix_limbs i0_t_sum n_t_sum_plus n_t_sum_minus n_t_sum_divisor n_t_rowAt a_t_rowAt j (v3 + 1) x38.2.2.2.1 x38.2.2.2.2.1 x38.2.2.2.2.2.1 x38.2.2.2.2.2.2.1 x38.2.2.2.2.2.2.2.1 x38.2.2.2.2.2.2.2.2.1 x38.2.2.2.2.2.2.2.2.2.1 x38.2.2.2.2.2.2.2.2.2.2
def f_M_eliminateColumn (k : Nat) (t_n : Int32) (t_pivotsMade : Int32) (t_oddSwaps : Int32) (t_matrix_room : Int32) (n_t_matrix_signs : Nat) (a_t_matrix_signs : Nat → Int32) (n_t_matrix_lengths : Nat) (a_t_matrix_lengths : Nat → Int32) (n_t_matrix_limbs : Nat) (a_t_matrix_limbs : Nat → Int32) (t_sum_room : Int32) (t_sum_sign : Int32) (t_sum_length : Int32) (n_t_sum_plus : Nat) (a_t_sum_plus : Nat → Int32) (n_t_sum_minus : Nat) (a_t_sum_minus : Nat → Int32) (n_t_sum_divisor : Nat) (a_t_sum_divisor : Nat → Int32) (n_t_rowAt : Nat) (a_t_rowAt : Nat → Int32) (kk : Int32) : Option (Int32 × Int32 × Int32 × (Nat → Int32) × (Nat → Int32) × (Nat → Int32) × Int32 × Int32 × (Nat → Int32) × (Nat → Int32) × (Nat → Int32) × (Nat → Int32)) :=
  (f_M_findPivotRow k t_n n_t_matrix_signs a_t_matrix_signs n_t_rowAt a_t_rowAt kk).bind fun x1 =>
  if x1 = (-1) then
    some ((2 : Int32), t_pivotsMade, t_oddSwaps, a_t_matrix_signs, a_t_matrix_lengths, a_t_matrix_limbs, t_sum_sign, t_sum_length, a_t_sum_plus, a_t_sum_minus, a_t_sum_divisor, a_t_rowAt)
  else
    if x1 = kk then
      (f_M_eliminateColumn_L35 k kk t_n t_matrix_room n_t_matrix_signs n_t_matrix_lengths n_t_matrix_limbs t_sum_room n_t_sum_plus n_t_sum_minus n_t_sum_divisor n_t_rowAt a_t_rowAt k (kk + 1) a_t_matrix_signs a_t_matrix_lengths a_t_matrix_limbs t_sum_sign t_sum_length a_t_sum_plus a_t_sum_minus a_t_sum_divisor).bind fun x41 =>
      if x41.1 = true then
        some (x41.2.1, kk + 1, t_oddSwaps, x41.2.2.2.1, x41.2.2.2.2.1, x41.2.2.2.2.2.1, x41.2.2.2.2.2.2.1, x41.2.2.2.2.2.2.2.1, x41.2.2.2.2.2.2.2.2.1, x41.2.2.2.2.2.2.2.2.2.1, x41.2.2.2.2.2.2.2.2.2.2, a_t_rowAt)
      else
        some ((0 : Int32), kk + 1, t_oddSwaps, x41.2.2.2.1, x41.2.2.2.2.1, x41.2.2.2.2.2.1, x41.2.2.2.2.2.2.1, x41.2.2.2.2.2.2.2.1, x41.2.2.2.2.2.2.2.2.1, x41.2.2.2.2.2.2.2.2.2.1, x41.2.2.2.2.2.2.2.2.2.2, a_t_rowAt)
    else
      (f_M_swapRows t_oddSwaps n_t_rowAt a_t_rowAt kk x1).bind fun x44 =>
      (f_M_eliminateColumn_L35 k kk t_n t_matrix_room n_t_matrix_signs n_t_matrix_lengths n_t_matrix_limbs t_sum_room n_t_sum_plus n_t_sum_minus n_t_sum_divisor n_t_rowAt x44.2 k (kk + 1) a_t_matrix_signs a_t_matrix_lengths a_t_matrix_limbs t_sum_sign t_sum_length a_t_sum_plus a_t_sum_minus a_t_sum_divisor).bind fun x46 =>
      if x46.1 = true then
        some (x46.2.1, kk + 1, x44.1, x46.2.2.2.1, x46.2.2.2.2.1, x46.2.2.2.2.2.1, x46.2.2.2.2.2.2.1, x46.2.2.2.2.2.2.2.1, x46.2.2.2.2.2.2.2.2.1, x46.2.2.2.2.2.2.2.2.2.1, x46.2.2.2.2.2.2.2.2.2.2, x44.2)
      else
        some ((0 : Int32), kk + 1, x44.1, x46.2.2.2.1, x46.2.2.2.2.1, x46.2.2.2.2.2.1, x46.2.2.2.2.2.2.1, x46.2.2.2.2.2.2.2.1, x46.2.2.2.2.2.2.2.2.1, x46.2.2.2.2.2.2.2.2.2.1, x46.2.2.2.2.2.2.2.2.2.2, x44.2)
def f_M_finishOutcome_L40 (k : Nat) (i0_t : Int32) (n_t_outcome_signs : Nat) : Nat → Int32 → (Nat → Int32) → Option (Int32 × (Nat → Int32))
  | 0, _, _ => none
  | j + 1, v1, a_t_outcome_signs =>
    if i0_t < v1 then
      some (v1, a_t_outcome_signs)
    else
      (f_N_negate n_t_outcome_signs a_t_outcome_signs v1).bind fun x13 =>
      f_M_finishOutcome_L40 k i0_t n_t_outcome_signs j (v1 + 1) x13
def f_M_finishOutcome (k : Nat) (t_n : Int32) (t_oddSwaps : Int32) (n_t_matrix_signs : Nat) (a_t_matrix_signs : Nat → Int32) (n_t_matrix_lengths : Nat) (a_t_matrix_lengths : Nat → Int32) (n_t_matrix_limbs : Nat) (a_t_matrix_limbs : Nat → Int32) (t_outcome_room : Int32) (n_t_outcome_signs : Nat) (a_t_outcome_signs : Nat → Int32) (n_t_outcome_lengths : Nat) (a_t_outcome_lengths : Nat → Int32) (n_t_outcome_limbs : Nat) (a_t_outcome_limbs : Nat → Int32) (n_t_rowAt : Nat) (a_t_rowAt : Nat → Int32) : Option ((Nat → Int32) × (Nat → Int32) × (Nat → Int32)) :=
  (f_M_slotAt t_n n_t_rowAt a_t_rowAt (t_n - 1) (t_n - 1)).bind fun x1 =>
  (f_N_copy t_outcome_room n_t_outcome_signs a_t_outcome_signs n_t_outcome_lengths a_t_outcome_lengths n_t_outcome_limbs a_t_outcome_limbs t_n n_t_matrix_signs a_t_matrix_signs n_t_matrix_lengths a_t_matrix_lengths n_t_matrix_limbs a_t_matrix_limbs x1).bind fun x3 =>
  if t_oddSwaps = 0 then
    some (x3.1, x3.2.1, x3.2.2)
  else
    (f_M_finishOutcome_L40 k t_n n_t_outcome_signs k (0 : Int32) x3.1).bind fun x15 =>
    some (x15.2, x3.2.1, x3.2.2)
def f_M_solveRow_L52 (k : Nat) (v1 : Int32) (i0_t : Int32) (i0_t_matrix : Int32) (n_t_matrix_signs : Nat) (a_t_matrix_signs : Nat → Int32) (n_t_matrix_lengths : Nat) (a_t_matrix_lengths : Nat → Int32) (n_t_matrix_limbs : Nat) (a_t_matrix_limbs : Nat → Int32) (i0_t_outcome : Int32) (n_t_outcome_signs : Nat) (a_t_outcome_signs : Nat → Int32) (n_t_outcome_lengths : Nat) (a_t_outcome_lengths : Nat → Int32) (n_t_outcome_limbs : Nat) (a_t_outcome_limbs : Nat → Int32) (n_t_sum_plus : Nat) (n_t_sum_minus : Nat) (n_t_rowAt : Nat) (a_t_rowAt : Nat → Int32) : Nat → Int32 → (Nat → Int32) → (Nat → Int32) → Option (Int32 × (Nat → Int32) × (Nat → Int32))
  | 0, _, _, _ => none
  | j + 1, v2, a_t_sum_plus, a_t_sum_minus =>
    if i0_t ≤ v2 then
      some (v2, a_t_sum_plus, a_t_sum_minus)
    else
      (f_M_slotAt i0_t n_t_rowAt a_t_rowAt v1 v2).bind fun x20 =>
      (f_S_addProduct k n_t_sum_plus a_t_sum_plus n_t_sum_minus a_t_sum_minus i0_t_matrix n_t_matrix_signs a_t_matrix_signs n_t_matrix_lengths a_t_matrix_lengths n_t_matrix_limbs a_t_matrix_limbs x20 i0_t_outcome n_t_outcome_signs a_t_outcome_signs n_t_outcome_lengths a_t_outcome_lengths n_t_outcome_limbs a_t_outcome_limbs v2 (-1 : Int32)).bind fun x22 =>
      f_M_solveRow_L52 k v1 i0_t i0_t_matrix n_t_matrix_signs a_t_matrix_signs n_t_matrix_lengths a_t_matrix_lengths n_t_matrix_limbs a_t_matrix_limbs i0_t_outcome n_t_outcome_signs a_t_outcome_signs n_t_outcome_lengths a_t_outcome_lengths n_t_outcome_limbs a_t_outcome_limbs n_t_sum_plus n_t_sum_minus n_t_rowAt a_t_rowAt j (v2 + 1) x22.1 x22.2
def f_M_solveRow (k : Nat) (t_n : Int32) (t_oddSwaps : Int32) (t_matrix_room : Int32) (n_t_matrix_signs : Nat) (a_t_matrix_signs : Nat → Int32) (n_t_matrix_lengths : Nat) (a_t_matrix_lengths : Nat → Int32) (n_t_matrix_limbs : Nat) (a_t_matrix_limbs : Nat → Int32) (t_outcome_room : Int32) (n_t_outcome_signs : Nat) (a_t_outcome_signs : Nat → Int32) (n_t_outcome_lengths : Nat) (a_t_outcome_lengths : Nat → Int32) (n_t_outcome_limbs : Nat) (a_t_outcome_limbs : Nat → Int32) (t_sum_room : Int32) (n_t_sum_plus : Nat) (a_t_sum_plus : Nat → Int32) (n_t_sum_minus : Nat) (a_t_sum_minus : Nat → Int32) (n_t_sum_divisor : Nat) (a_t_sum_divisor : Nat → Int32) (n_t_rowAt : Nat) (a_t_rowAt : Nat → Int32) (row : Int32) : Option (Int32 × (Nat → Int32) × (Nat → Int32) × (Nat → Int32) × Int32 × Int32 × (Nat → Int32) × (Nat → Int32) × (Nat → Int32)) :=
  (f_S_clear k n_t_sum_plus a_t_sum_plus n_t_sum_minus a_t_sum_minus).bind fun x1 =>
  (f_M_slotAt t_n n_t_rowAt a_t_rowAt (t_n - 1) (t_n - 1)).bind fun x3 =>
  (f_M_slotAt t_n n_t_rowAt a_t_rowAt row t_n).bind fun x5 =>
  (f_S_addProductSame k n_t_sum_plus x1.2.2.1 n_t_sum_minus x1.2.2.2 t_matrix_room n_t_matrix_signs a_t_matrix_signs n_t_matrix_lengths a_t_matrix_lengths n_t_matrix_limbs a_t_matrix_limbs x3 x5 (1 : Int32)).bind fun x7 =>
  (f_M_solveRow_L52 k row t_n t_matrix_room n_t_matrix_signs a_t_matrix_signs n_t_matrix_lengths a_t_matrix_lengths n_t_matrix_limbs a_t_matrix_limbs t_outcome_room n_t_outcome_signs a_t_outcome_signs n_t_outcome_lengths a_t_outcome_lengths n_t_outcome_limbs a_t_outcome_limbs n_t_sum_plus n_t_sum_minus n_t_rowAt a_t_rowAt k (row + 1) x7.1 x7.2).bind fun x24 =>
  (f_S_settle k n_t_sum_plus x24.2.1 n_t_sum_minus x24.2.2).bind fun x26 =>
  (f_M_slotAt t_n n_t_rowAt a_t_rowAt row row).bind fun x28 =>
  (f_S_divideBy k x26.1 x26.2.1 n_t_sum_plus x26.2.2 n_t_sum_divisor a_t_sum_divisor t_matrix_room n_t_matrix_signs a_t_matrix_signs n_t_matrix_lengths a_t_matrix_lengths n_t_matrix_limbs a_t_matrix_limbs x28).bind fun x30 =>
  (f_S_storeIn t_sum_room x30.1 x30.2.1 n_t_sum_plus x30.2.2.1 t_outcome_room n_t_outcome_signs a_t_outcome_signs n_t_outcome_lengths a_t_outcome_lengths n_t_outcome_limbs a_t_outcome_limbs row).bind fun x32 =>
  if x32.1 = 0 then
    some ((3 : Int32), x32.2.1, x32.2.2.1, x32.2.2.2, x30.1, x30.2.1, x30.2.2.1, x24.2.2, x30.2.2.2)
  else
    if row ≤ 0 then
      (f_M_finishOutcome k t_n t_oddSwaps n_t_matrix_signs a_t_matrix_signs n_t_matrix_lengths a_t_matrix_lengths n_t_matrix_limbs a_t_matrix_limbs t_outcome_room n_t_outcome_signs x32.2.1 n_t_outcome_lengths x32.2.2.1 n_t_outcome_limbs x32.2.2.2 n_t_rowAt a_t_rowAt).bind fun x36 =>
      some ((1 : Int32), x36.1, x36.2.1, x36.2.2, x30.1, x30.2.1, x30.2.2.1, x24.2.2, x30.2.2.2)
    else
      some ((0 : Int32), x32.2.1, x32.2.2.1, x32.2.2.2, x30.1, x30.2.1, x30.2.2.1, x24.2.2, x30.2.2.2)
def f_M_step (k : Nat) (t_n : Int32) (t_told : Int32) (t_stepsDone : Int32) (t_pivotsMade : Int32) (t_oddSwaps : Int32) (t_chosen : Int32) (t_matrix_room : Int32) (n_t_matrix_signs : Nat) (a_t_matrix_signs : Nat → Int32) (n_t_matrix_lengths : Nat) (a_t_matrix_lengths : Nat → Int32) (n_t_matrix_limbs : Nat) (a_t_matrix_limbs : Nat → Int32) (t_loaded_room : Int32) (n_t_loaded_signs : Nat) (a_t_loaded_signs : Nat → Int32) (n_t_loaded_lengths : Nat) (a_t_loaded_lengths : Nat → Int32) (n_t_loaded_limbs : Nat) (a_t_loaded_limbs : Nat → Int32) (t_outcome_room : Int32) (n_t_outcome_signs : Nat) (a_t_outcome_signs : Nat → Int32) (n_t_outcome_lengths : Nat) (a_t_outcome_lengths : Nat → Int32) (n_t_outcome_limbs : Nat) (a_t_outcome_limbs : Nat → Int32) (t_sum_room : Int32) (t_sum_sign : Int32) (t_sum_length : Int32) (n_t_sum_plus : Nat) (a_t_sum_plus : Nat → Int32) (n_t_sum_minus : Nat) (a_t_sum_minus : Nat → Int32) (n_t_sum_divisor : Nat) (a_t_sum_divisor : Nat → Int32) (n_t_rowAt : Nat) (a_t_rowAt : Nat → Int32) : Option (Int32 × Int32 × Int32 × Int32 × Int32 × Int32 × (Nat → Int32) × (Nat → Int32) × (Nat → Int32) × (Nat → Int32) × (Nat → Int32) × (Nat → Int32) × (Nat → Int32) × (Nat → Int32) × (Nat → Int32) × Int32 × Int32 × (Nat → Int32) × (Nat → Int32) × (Nat → Int32) × (Nat → Int32)) :=
  (f_M_isEnded t_told).bind fun x1 =>
  if x1 = 0 then
    if t_told = 4 then
      (f_M_endLoading k t_n n_t_matrix_signs a_t_matrix_signs n_t_matrix_lengths a_t_matrix_lengths n_t_matrix_limbs a_t_matrix_limbs t_loaded_room n_t_loaded_signs a_t_loaded_signs n_t_loaded_lengths a_t_loaded_lengths n_t_loaded_limbs a_t_loaded_limbs).bind fun x10 =>
      if t_n ≤ t_stepsDone then
        (f_M_solveRow k t_n t_oddSwaps t_matrix_room n_t_matrix_signs a_t_matrix_signs n_t_matrix_lengths a_t_matrix_lengths n_t_matrix_limbs a_t_matrix_limbs t_outcome_room n_t_outcome_signs a_t_outcome_signs n_t_outcome_lengths a_t_outcome_lengths n_t_outcome_limbs a_t_outcome_limbs t_sum_room n_t_sum_plus a_t_sum_plus n_t_sum_minus a_t_sum_minus n_t_sum_divisor a_t_sum_divisor n_t_rowAt a_t_rowAt (((2 * t_n) - 1) - t_stepsDone)).bind fun x13 =>
        some (x13.1, x13.1, t_stepsDone + 1, t_pivotsMade, t_oddSwaps, x10.1, a_t_matrix_signs, a_t_matrix_lengths, a_t_matrix_limbs, x10.2.1, x10.2.2.1, x10.2.2.2, x13.2.1, x13.2.2.1, x13.2.2.2.1, x13.2.2.2.2.1, x13.2.2.2.2.2.1, x13.2.2.2.2.2.2.1, x13.2.2.2.2.2.2.2.1, x13.2.2.2.2.2.2.2.2, a_t_rowAt)
      else
        (f_M_eliminateColumn k t_n t_pivotsMade t_oddSwaps t_matrix_room n_t_matrix_signs a_t_matrix_signs n_t_matrix_lengths a_t_matrix_lengths n_t_matrix_limbs a_t_matrix_limbs t_sum_room t_sum_sign t_sum_length n_t_sum_plus a_t_sum_plus n_t_sum_minus a_t_sum_minus n_t_sum_divisor a_t_sum_divisor n_t_rowAt a_t_rowAt t_stepsDone).bind fun x15 =>
        some (x15.1, x15.1, t_stepsDone + 1, x15.2.1, x15.2.2.1, x10.1, x15.2.2.2.1, x15.2.2.2.2.1, x15.2.2.2.2.2.1, x10.2.1, x10.2.2.1, x10.2.2.2, a_t_outcome_signs, a_t_outcome_lengths, a_t_outcome_limbs, x15.2.2.2.2.2.2.1, x15.2.2.2.2.2.2.2.1, x15.2.2.2.2.2.2.2.2.1, x15.2.2.2.2.2.2.2.2.2.1, x15.2.2.2.2.2.2.2.2.2.2.1, x15.2.2.2.2.2.2.2.2.2.2.2)
    else
      if t_n ≤ t_stepsDone then
        (f_M_solveRow k t_n t_oddSwaps t_matrix_room n_t_matrix_signs a_t_matrix_signs n_t_matrix_lengths a_t_matrix_lengths n_t_matrix_limbs a_t_matrix_limbs t_outcome_room n_t_outcome_signs a_t_outcome_signs n_t_outcome_lengths a_t_outcome_lengths n_t_outcome_limbs a_t_outcome_limbs t_sum_room n_t_sum_plus a_t_sum_plus n_t_sum_minus a_t_sum_minus n_t_sum_divisor a_t_sum_divisor n_t_rowAt a_t_rowAt (((2 * t_n) - 1) - t_stepsDone)).bind fun x6 =>
        some (x6.1, x6.1, t_stepsDone + 1, t_pivotsMade, t_oddSwaps, t_chosen, a_t_matrix_signs, a_t_matrix_lengths, a_t_matrix_limbs, a_t_loaded_signs, a_t_loaded_lengths, a_t_loaded_limbs, x6.2.1, x6.2.2.1, x6.2.2.2.1, x6.2.2.2.2.1, x6.2.2.2.2.2.1, x6.2.2.2.2.2.2.1, x6.2.2.2.2.2.2.2.1, x6.2.2.2.2.2.2.2.2, a_t_rowAt)
      else
        (f_M_eliminateColumn k t_n t_pivotsMade t_oddSwaps t_matrix_room n_t_matrix_signs a_t_matrix_signs n_t_matrix_lengths a_t_matrix_lengths n_t_matrix_limbs a_t_matrix_limbs t_sum_room t_sum_sign t_sum_length n_t_sum_plus a_t_sum_plus n_t_sum_minus a_t_sum_minus n_t_sum_divisor a_t_sum_divisor n_t_rowAt a_t_rowAt t_stepsDone).bind fun x8 =>
        some (x8.1, x8.1, t_stepsDone + 1, x8.2.1, x8.2.2.1, t_chosen, x8.2.2.2.1, x8.2.2.2.2.1, x8.2.2.2.2.2.1, a_t_loaded_signs, a_t_loaded_lengths, a_t_loaded_limbs, a_t_outcome_signs, a_t_outcome_lengths, a_t_outcome_limbs, x8.2.2.2.2.2.2.1, x8.2.2.2.2.2.2.2.1, x8.2.2.2.2.2.2.2.2.1, x8.2.2.2.2.2.2.2.2.2.1, x8.2.2.2.2.2.2.2.2.2.2.1, x8.2.2.2.2.2.2.2.2.2.2.2)
  else
    some (t_told, t_told, t_stepsDone, t_pivotsMade, t_oddSwaps, t_chosen, a_t_matrix_signs, a_t_matrix_lengths, a_t_matrix_limbs, a_t_loaded_signs, a_t_loaded_lengths, a_t_loaded_limbs, a_t_outcome_signs, a_t_outcome_lengths, a_t_outcome_limbs, t_sum_sign, t_sum_length, a_t_sum_plus, a_t_sum_minus, a_t_sum_divisor, a_t_rowAt)
def f_M_status (t_told : Int32) : Option (Int32) :=
  some t_told
def f_M_steps (t_stepsDone : Int32) : Option (Int32) :=
  some t_stepsDone
def f_M_determinant (t_n : Int32) (t_told : Int32) (t_outcome_room : Int32) (n_t_outcome_signs : Nat) (a_t_outcome_signs : Nat → Int32) (n_t_outcome_lengths : Nat) (a_t_outcome_lengths : Nat → Int32) (n_t_outcome_limbs : Nat) (a_t_outcome_limbs : Nat → Int32) (what : Int32) : Option (Int32) :=
  if t_told = 2 then
    if what = (-2) then
      some (0 : Int32)
    else
      if what = (-1) then
        some (0 : Int32)
      else
        some (-1 : Int32)
  else
    if t_told = 1 then
      (f_N_tell t_outcome_room n_t_outcome_signs a_t_outcome_signs n_t_outcome_lengths a_t_outcome_lengths n_t_outcome_limbs a_t_outcome_limbs t_n what).bind fun x3 =>
      some x3
    else
      some (-1 : Int32)
def f_M_numerator (t_n : Int32) (t_told : Int32) (t_outcome_room : Int32) (n_t_outcome_signs : Nat) (a_t_outcome_signs : Nat → Int32) (n_t_outcome_lengths : Nat) (a_t_outcome_lengths : Nat → Int32) (n_t_outcome_limbs : Nat) (a_t_outcome_limbs : Nat → Int32) (jj : Int32) (what : Int32) : Option (Int32) :=
  if t_told = 1 then
    if jj < 0 then
      some (-1 : Int32)
    else
      if t_n ≤ jj then
        some (-1 : Int32)
      else
        (f_N_tell t_outcome_room n_t_outcome_signs a_t_outcome_signs n_t_outcome_lengths a_t_outcome_lengths n_t_outcome_limbs a_t_outcome_limbs jj what).bind fun x4 =>
        some x4
  else
    some (-1 : Int32)
def f_M_pivot (t_n : Int32) (t_pivotsMade : Int32) (t_matrix_room : Int32) (n_t_matrix_signs : Nat) (a_t_matrix_signs : Nat → Int32) (n_t_matrix_lengths : Nat) (a_t_matrix_lengths : Nat → Int32) (n_t_matrix_limbs : Nat) (a_t_matrix_limbs : Nat → Int32) (n_t_rowAt : Nat) (a_t_rowAt : Nat → Int32) (kk : Int32) (what : Int32) : Option (Int32) :=
  if kk < 0 then
    some (-1 : Int32)
  else
    if t_pivotsMade ≤ kk then
      some (-1 : Int32)
    else
      (f_M_slotAt t_n n_t_rowAt a_t_rowAt kk kk).bind fun x3 =>
      (f_N_tell t_matrix_room n_t_matrix_signs a_t_matrix_signs n_t_matrix_lengths a_t_matrix_lengths n_t_matrix_limbs a_t_matrix_limbs x3 what).bind fun x5 =>
      some x5
def f_M_number (t_n : Int32) (t_matrix_room : Int32) (n_t_matrix_signs : Nat) (a_t_matrix_signs : Nat → Int32) (n_t_matrix_lengths : Nat) (a_t_matrix_lengths : Nat → Int32) (n_t_matrix_limbs : Nat) (a_t_matrix_limbs : Nat → Int32) (n_t_rowAt : Nat) (a_t_rowAt : Nat → Int32) (row : Int32) (column : Int32) (what : Int32) : Option (Int32) :=
  (f_M_isPlace t_n row column).bind fun x1 =>
  if x1 = 0 then
    some (-1 : Int32)
  else
    (f_M_slotAt t_n n_t_rowAt a_t_rowAt row column).bind fun x4 =>
    (f_N_tell t_matrix_room n_t_matrix_signs a_t_matrix_signs n_t_matrix_lengths a_t_matrix_lengths n_t_matrix_limbs a_t_matrix_limbs x4 what).bind fun x6 =>
    some x6
def f_M_row (t_n : Int32) (n_t_rowAt : Nat) (a_t_rowAt : Nat → Int32) (ii : Int32) : Option (Int32) :=
  if ii < 0 then
    some (-1 : Int32)
  else
    if t_n ≤ ii then
      some (-1 : Int32)
    else
      cond (inb ii n_t_rowAt) (
      some (a_t_rowAt ii.toNatClampNeg)) none
def f_M_equationHolds_L18 (k : Nat) (v2 : Int32) (i0_t : Int32) (i0_t_loaded : Int32) (n_t_loaded_signs : Nat) (a_t_loaded_signs : Nat → Int32) (n_t_loaded_lengths : Nat) (a_t_loaded_lengths : Nat → Int32) (n_t_loaded_limbs : Nat) (a_t_loaded_limbs : Nat → Int32) (i0_t_outcome : Int32) (n_t_outcome_signs : Nat) (a_t_outcome_signs : Nat → Int32) (n_t_outcome_lengths : Nat) (a_t_outcome_lengths : Nat → Int32) (n_t_outcome_limbs : Nat) (a_t_outcome_limbs : Nat → Int32) (n_t_sum_plus : Nat) (n_t_sum_minus : Nat) : Nat → Int32 → (Nat → Int32) → (Nat → Int32) → Option (Int32 × (Nat → Int32) × (Nat → Int32))
  | 0, _, _, _ => none
  | j + 1, v3, a_t_sum_plus, a_t_sum_minus =>
    if i0_t ≤ v3 then
      some (v3, a_t_sum_plus, a_t_sum_minus)
    else
      (f_S_addProduct k n_t_sum_plus a_t_sum_plus n_t_sum_minus a_t_sum_minus i0_t_loaded n_t_loaded_signs a_t_loaded_signs n_t_loaded_lengths a_t_loaded_lengths n_t_loaded_limbs a_t_loaded_limbs (v2 + v3) i0_t_outcome n_t_outcome_signs a_t_outcome_signs n_t_outcome_lengths a_t_outcome_lengths n_t_outcome_limbs a_t_outcome_limbs v3 (1 : Int32)).bind fun x10 =>
      f_M_equationHolds_L18 k v2 i0_t i0_t_loaded n_t_loaded_signs a_t_loaded_signs n_t_loaded_lengths a_t_loaded_lengths n_t_loaded_limbs a_t_loaded_limbs i0_t_outcome n_t_outcome_signs a_t_outcome_signs n_t_outcome_lengths a_t_outcome_lengths n_t_outcome_limbs a_t_outcome_limbs n_t_sum_plus n_t_sum_minus j (v3 + 1) x10.1 x10.2
def f_M_equationHolds (k : Nat) (t_n : Int32) (t_loaded_room : Int32) (n_t_loaded_signs : Nat) (a_t_loaded_signs : Nat → Int32) (n_t_loaded_lengths : Nat) (a_t_loaded_lengths : Nat → Int32) (n_t_loaded_limbs : Nat) (a_t_loaded_limbs : Nat → Int32) (t_outcome_room : Int32) (n_t_outcome_signs : Nat) (a_t_outcome_signs : Nat → Int32) (n_t_outcome_lengths : Nat) (a_t_outcome_lengths : Nat → Int32) (n_t_outcome_limbs : Nat) (a_t_outcome_limbs : Nat → Int32) (n_t_sum_plus : Nat) (a_t_sum_plus : Nat → Int32) (n_t_sum_minus : Nat) (a_t_sum_minus : Nat → Int32) (loadedRow : Int32) : Option (Int32 × Int32 × Int32 × (Nat → Int32) × (Nat → Int32)) :=
  (f_S_clear k n_t_sum_plus a_t_sum_plus n_t_sum_minus a_t_sum_minus).bind fun x1 =>
  (f_M_equationHolds_L18 k (loadedRow * (t_n + 1)) t_n t_loaded_room n_t_loaded_signs a_t_loaded_signs n_t_loaded_lengths a_t_loaded_lengths n_t_loaded_limbs a_t_loaded_limbs t_outcome_room n_t_outcome_signs a_t_outcome_signs n_t_outcome_lengths a_t_outcome_lengths n_t_outcome_limbs a_t_outcome_limbs n_t_sum_plus n_t_sum_minus k (0 : Int32) x1.2.2.1 x1.2.2.2).bind fun x12 =>
  (f_S_addProduct k n_t_sum_plus x12.2.1 n_t_sum_minus x12.2.2 t_loaded_room n_t_loaded_signs a_t_loaded_signs n_t_loaded_lengths a_t_loaded_lengths n_t_loaded_limbs a_t_loaded_limbs ((loadedRow * (t_n + 1)) + t_n) t_outcome_room n_t_outcome_signs a_t_outcome_signs n_t_outcome_lengths a_t_outcome_lengths n_t_outcome_limbs a_t_outcome_limbs t_n (-1 : Int32)).bind fun x14 =>
  (f_S_isZero k n_t_sum_plus x14.1 n_t_sum_minus x14.2).bind fun x16 =>
  cond (isz x16) (
  some (x16, x1.1, x1.2.1, x14.1, x14.2)) none
def f_M_holds_L12 (k : Nat) (i0_t : Int32) (i0_t_loaded : Int32) (n_t_loaded_signs : Nat) (a_t_loaded_signs : Nat → Int32) (n_t_loaded_lengths : Nat) (a_t_loaded_lengths : Nat → Int32) (n_t_loaded_limbs : Nat) (a_t_loaded_limbs : Nat → Int32) (i0_t_outcome : Int32) (n_t_outcome_signs : Nat) (a_t_outcome_signs : Nat → Int32) (n_t_outcome_lengths : Nat) (a_t_outcome_lengths : Nat → Int32) (n_t_outcome_limbs : Nat) (a_t_outcome_limbs : Nat → Int32) (n_t_sum_plus : Nat) (n_t_sum_minus : Nat) : Nat → Int32 → Int32 → Int32 → (Nat → Int32) → (Nat → Int32) → Option (Bool × Int32 × Int32 × Int32 × Int32 × (Nat → Int32) × (Nat → Int32))
  | 0, _, _, _, _, _ => none
  | j + 1, v1, i4_t_sum, i5_t_sum, a_t_sum_plus, a_t_sum_minus =>
    if i0_t ≤ v1 then
      some (false, 0, v1, i4_t_sum, i5_t_sum, a_t_sum_plus, a_t_sum_minus)
    else
      (f_M_equationHolds k i0_t i0_t_loaded n_t_loaded_signs a_t_loaded_signs n_t_loaded_lengths a_t_loaded_lengths n_t_loaded_limbs a_t_loaded_limbs i0_t_outcome n_t_outcome_signs a_t_outcome_signs n_t_outcome_lengths a_t_outcome_lengths n_t_outcome_limbs a_t_outcome_limbs n_t_sum_plus a_t_sum_plus n_t_sum_minus a_t_sum_minus v1).bind fun x11 =>
      if x11.1 = 0 then
        some (true, 0, v1, x11.2.1, x11.2.2.1, x11.2.2.2.1, x11.2.2.2.2)
      else
        f_M_holds_L12 k i0_t i0_t_loaded n_t_loaded_signs a_t_loaded_signs n_t_loaded_lengths a_t_loaded_lengths n_t_loaded_limbs a_t_loaded_limbs i0_t_outcome n_t_outcome_signs a_t_outcome_signs n_t_outcome_lengths a_t_outcome_lengths n_t_outcome_limbs a_t_outcome_limbs n_t_sum_plus n_t_sum_minus j (v1 + 1) x11.2.1 x11.2.2.1 x11.2.2.2.1 x11.2.2.2.2
def f_M_holds (k : Nat) (t_n : Int32) (t_told : Int32) (t_loaded_room : Int32) (n_t_loaded_signs : Nat) (a_t_loaded_signs : Nat → Int32) (n_t_loaded_lengths : Nat) (a_t_loaded_lengths : Nat → Int32) (n_t_loaded_limbs : Nat) (a_t_loaded_limbs : Nat → Int32) (t_outcome_room : Int32) (n_t_outcome_signs : Nat) (a_t_outcome_signs : Nat → Int32) (n_t_outcome_lengths : Nat) (a_t_outcome_lengths : Nat → Int32) (n_t_outcome_limbs : Nat) (a_t_outcome_limbs : Nat → Int32) (t_sum_sign : Int32) (t_sum_length : Int32) (n_t_sum_plus : Nat) (a_t_sum_plus : Nat → Int32) (n_t_sum_minus : Nat) (a_t_sum_minus : Nat → Int32) : Option (Int32 × Int32 × Int32 × (Nat → Int32) × (Nat → Int32)) :=
  if t_told = 1 then
    (f_M_holds_L12 k t_n t_loaded_room n_t_loaded_signs a_t_loaded_signs n_t_loaded_lengths a_t_loaded_lengths n_t_loaded_limbs a_t_loaded_limbs t_outcome_room n_t_outcome_signs a_t_outcome_signs n_t_outcome_lengths a_t_outcome_lengths n_t_outcome_limbs a_t_outcome_limbs n_t_sum_plus n_t_sum_minus k (0 : Int32) t_sum_sign t_sum_length a_t_sum_plus a_t_sum_minus).bind fun x14 =>
    if x14.1 = true then
      cond (isz x14.2.1) (
      some (x14.2.1, x14.2.2.2.1, x14.2.2.2.2.1, x14.2.2.2.2.2.1, x14.2.2.2.2.2.2)) none
    else
      some ((1 : Int32), x14.2.2.2.1, x14.2.2.2.2.1, x14.2.2.2.2.2.1, x14.2.2.2.2.2.2)
  else
    some ((0 : Int32), t_sum_sign, t_sum_length, a_t_sum_plus, a_t_sum_minus)
def f_X_reset_L2 (k : Nat) (n_t_limbs : Nat) : Nat → Int32 → (Nat → Int32) → Option (Int32 × (Nat → Int32))
  | 0, _, _ => none
  | j + 1, v1, a_t_limbs =>
    if 2160 ≤ v1 then
      some (v1, a_t_limbs)
    else
      cond (inb v1 n_t_limbs) (
      f_X_reset_L2 k n_t_limbs j (v1 + 1) (upd a_t_limbs v1.toNatClampNeg 0)) none
def f_X_reset_L24 (k : Nat) (n_t_signs : Nat) : Nat → Int32 → (Nat → Int32) → Option (Int32 × (Nat → Int32))
  | 0, _, _ => none
  | j + 1, v1, a_t_signs =>
    if 54 ≤ v1 then
      some (v1, a_t_signs)
    else
      cond (inb v1 n_t_signs) (
      f_X_reset_L24 k n_t_signs j (v1 + 1) (upd a_t_signs v1.toNatClampNeg 0)) none
def f_X_reset_L45 (k : Nat) (n_t_rows : Nat) : Nat → Int32 → (Nat → Int32) → Option (Int32 × (Nat → Int32))
  | 0, _, _ => none
  | j + 1, v1, a_t_rows =>
    if 6 ≤ v1 then
      some (v1, a_t_rows)
    else
      cond (inb v1 n_t_rows) (
      f_X_reset_L45 k n_t_rows j (v1 + 1) (upd a_t_rows v1.toNatClampNeg v1)) none
def f_X_reset (k : Nat) (n_t_limbs : Nat) (a_t_limbs : Nat → Int32) (n_t_signs : Nat) (a_t_signs : Nat → Int32) (n_t_rows : Nat) (a_t_rows : Nat → Int32) : Option (Int32 × Int32 × Int32 × Int32 × Int32 × (Nat → Int32) × (Nat → Int32) × (Nat → Int32)) :=
  (f_X_reset_L2 k n_t_limbs k (0 : Int32) a_t_limbs).bind fun x7 =>
  (f_X_reset_L24 k n_t_signs k (0 : Int32) a_t_signs).bind fun x15 =>
  (f_X_reset_L45 k n_t_rows k (0 : Int32) a_t_rows).bind fun x23 =>
  some ((-1 : Int32), (4 : Int32), (0 : Int32), (0 : Int32), (0 : Int32), x7.2, x15.2, x23.2)
def f_X_isPlace (t_n : Int32) (row : Int32) (column : Int32) : Option (Int32) :=
  if row < 0 then
    some (0 : Int32)
  else
    if t_n ≤ row then
      some (0 : Int32)
    else
      if column < 0 then
        some (0 : Int32)
      else
        if t_n < column then
          some (0 : Int32)
        else
          some (1 : Int32)
def f_X_place (t_n : Int32) (row : Int32) (column : Int32) : Option (Int32) :=
  if column = t_n then
    some ((7 * row) + 6)
  else
    some ((7 * row) + column)
def f_X_clear_L2 (k : Nat) (v1 : Int32) (n_t_limbs : Nat) : Nat → Int32 → (Nat → Int32) → Option (Int32 × (Nat → Int32))
  | 0, _, _ => none
  | j + 1, v2, a_t_limbs =>
    if 40 ≤ v2 then
      some (v2, a_t_limbs)
    else
      cond (inb ((40 * v1) + v2) n_t_limbs) (
      f_X_clear_L2 k v1 n_t_limbs j (v2 + 1) (upd a_t_limbs ((40 * v1) + v2).toNatClampNeg 0)) none
def f_X_clear (k : Nat) (n_t_limbs : Nat) (a_t_limbs : Nat → Int32) (n_t_signs : Nat) (a_t_signs : Nat → Int32) (pp : Int32) : Option ((Nat → Int32) × (Nat → Int32)) :=
  (f_X_clear_L2 k pp n_t_limbs k (0 : Int32) a_t_limbs).bind fun x7 =>
  cond (inb pp n_t_signs) (
  some (x7.2, upd a_t_signs pp.toNatClampNeg 0)) none
def f_X_entry (k : Nat) (t_n : Int32) (t_chosen : Int32) (t_chosenSign : Int32) (t_chosenLimbs : Int32) (t_state : Int32) (n_t_limbs : Nat) (a_t_limbs : Nat → Int32) (n_t_signs : Nat) (a_t_signs : Nat → Int32) (row : Int32) (column : Int32) (sign : Int32) : Option (Int32 × Int32 × Int32 × Int32 × (Nat → Int32) × (Nat → Int32)) :=
  if t_state = 4 then
    (f_X_isPlace t_n row column).bind fun x2 =>
    if x2 = 0 then
      some ((0 : Int32), t_chosen, t_chosenSign, t_chosenLimbs, a_t_limbs, a_t_signs)
    else
      if sign < (-1) then
        some ((0 : Int32), t_chosen, t_chosenSign, t_chosenLimbs, a_t_limbs, a_t_signs)
      else
        if sign ≤ 1 then
          (f_X_place t_n row column).bind fun x7 =>
          (f_X_clear k n_t_limbs a_t_limbs n_t_signs a_t_signs x7).bind fun x9 =>
          some ((1 : Int32), x7, sign, (0 : Int32), x9.1, x9.2)
        else
          some ((0 : Int32), t_chosen, t_chosenSign, t_chosenLimbs, a_t_limbs, a_t_signs)
  else
    some ((0 : Int32), t_chosen, t_chosenSign, t_chosenLimbs, a_t_limbs, a_t_signs)
def f_X_limb (t_room : Int32) (t_chosen : Int32) (t_chosenSign : Int32) (t_chosenLimbs : Int32) (t_state : Int32) (n_t_limbs : Nat) (a_t_limbs : Nat → Int32) (n_t_signs : Nat) (a_t_signs : Nat → Int32) (word : Int32) : Option (Int32 × Int32 × (Nat → Int32) × (Nat → Int32)) :=
  if t_state = 4 then
    if t_chosen < 0 then
      some ((0 : Int32), t_chosenLimbs, a_t_limbs, a_t_signs)
    else
      if t_chosenSign = 0 then
        some ((0 : Int32), t_chosenLimbs, a_t_limbs, a_t_signs)
      else
        if word < 0 then
          some ((0 : Int32), t_chosenLimbs, a_t_limbs, a_t_signs)
        else
          if t_chosenLimbs = t_room then
            some ((0 : Int32), t_chosenLimbs, a_t_limbs, a_t_signs)
          else
            cond (inb ((40 * t_chosen) + t_chosenLimbs) n_t_limbs) (
            if word ≤ 0 then
              cond (inb t_chosen n_t_signs) (
              cond (inb t_chosen n_t_signs) (
              some ((1 : Int32), t_chosenLimbs + 1, upd a_t_limbs ((40 * t_chosen) + t_chosenLimbs).toNatClampNeg word, upd a_t_signs t_chosen.toNatClampNeg (a_t_signs t_chosen.toNatClampNeg))) none) none
            else
              cond (inb t_chosen n_t_signs) (
              some ((1 : Int32), t_chosenLimbs + 1, upd a_t_limbs ((40 * t_chosen) + t_chosenLimbs).toNatClampNeg word, upd a_t_signs t_chosen.toNatClampNeg t_chosenSign)) none) none
  else
    some ((0 : Int32), t_chosenLimbs, a_t_limbs, a_t_signs)
def f_X_copy_L2 (k : Nat) (v1 : Int32) (v2 : Int32) (n_t_limbs : Nat) : Nat → Int32 → (Nat → Int32) → Option (Int32 × (Nat → Int32))
  | 0, _, _ => none
  | j + 1, v3, a_t_limbs =>
    if 40 ≤ v3 then
      some (v3, a_t_limbs)
    else
      cond (inb ((40 * v1) + v3) n_t_limbs) (
      cond (inb ((40 * v2) + v3) n_t_limbs) (
      f_X_copy_L2 k v1 v2 n_t_limbs j (v3 + 1) (upd a_t_limbs ((40 * v2) + v3).toNatClampNeg (a_t_limbs ((40 * v1) + v3).toNatClampNeg))) none) none
def f_X_copy (k : Nat) (n_t_limbs : Nat) (a_t_limbs : Nat → Int32) (n_t_signs : Nat) (a_t_signs : Nat → Int32) (fro : Int32) (tt : Int32) : Option ((Nat → Int32) × (Nat → Int32)) :=
  (f_X_copy_L2 k fro tt n_t_limbs k (0 : Int32) a_t_limbs).bind fun x10 =>
  cond (inb fro n_t_signs) (
  cond (inb tt n_t_signs) (
  some (x10.2, upd a_t_signs tt.toNatClampNeg (a_t_signs fro.toNatClampNeg))) none) none
def f_X_count_L3 (k : Nat) (v1 : Int32) (n_t_limbs : Nat) (a_t_limbs : Nat → Int32) : Nat → Int32 → Option (Int32)
  | 0, _ => none
  | j + 1, v2 =>
    if v2 ≤ 0 then
      some v2
    else
      cond (inb (((40 * v1) + v2) - 1) n_t_limbs) (
      if a_t_limbs (((40 * v1) + v2) - 1).toNatClampNeg = 0 then
        f_X_count_L3 k v1 n_t_limbs a_t_limbs j (v2 + (-1))
      else
        some v2) none
def f_X_count (k : Nat) (n_t_limbs : Nat) (a_t_limbs : Nat → Int32) (pp : Int32) : Option (Int32) :=
  (f_X_count_L3 k pp n_t_limbs a_t_limbs k (40 : Int32)).bind fun x10 =>
  some x10
def f_X_multiply_L31 (k : Nat) (v1 : Int32) (v2 : Int32) (v3 : Int32) (v4 : Int32) (n_t_limbs : Nat) : Nat → Int64 → Int32 → (Nat → Int32) → Option (Int64 × Int32 × (Nat → Int32))
  | 0, _, _, _ => none
  | j + 1, v5, v7, a_t_limbs =>
    if v7 < v3 then
      cond (inb ((40 * v1) + v4) n_t_limbs) (
      if v3 ≤ v7 then
        cond (inb ((1920 + v4) + v7) n_t_limbs) (
        cond (inb ((1920 + v4) + v7) n_t_limbs) (
        f_X_multiply_L31 k v1 v2 v3 v4 n_t_limbs j ((((((a_t_limbs ((40 * v1) + v4).toNatClampNeg).toInt64) * ((0 : Int32).toInt64)) + ((a_t_limbs ((1920 + v4) + v7).toNatClampNeg).toInt64)) + v5) >>> ((31 : Int32).toInt64 &&& 63)) (v7 + 1) (upd a_t_limbs ((1920 + v4) + v7).toNatClampNeg (((((((a_t_limbs ((40 * v1) + v4).toNatClampNeg).toInt64) * ((0 : Int32).toInt64)) + ((a_t_limbs ((1920 + v4) + v7).toNatClampNeg).toInt64)) + v5) &&& 2147483647).toInt32))) none) none
      else
        cond (inb ((40 * v2) + v7) n_t_limbs) (
        cond (inb ((1920 + v4) + v7) n_t_limbs) (
        cond (inb ((1920 + v4) + v7) n_t_limbs) (
        f_X_multiply_L31 k v1 v2 v3 v4 n_t_limbs j ((((((a_t_limbs ((40 * v1) + v4).toNatClampNeg).toInt64) * ((a_t_limbs ((40 * v2) + v7).toNatClampNeg).toInt64)) + ((a_t_limbs ((1920 + v4) + v7).toNatClampNeg).toInt64)) + v5) >>> ((31 : Int32).toInt64 &&& 63)) (v7 + 1) (upd a_t_limbs ((1920 + v4) + v7).toNatClampNeg (((((((a_t_limbs ((40 * v1) + v4).toNatClampNeg).toInt64) * ((a_t_limbs ((40 * v2) + v7).toNatClampNeg).toInt64)) + ((a_t_limbs ((1920 + v4) + v7).toNatClampNeg).toInt64)) + v5) &&& 2147483647).toInt32))) none) none) none) none
    else
      if lg_cmp v5 (0 : Int64) ≤ 0 then
        some (v5, v7, a_t_limbs)
      else
        cond (inb ((40 * v1) + v4) n_t_limbs) (
        if v3 ≤ v7 then
          cond (inb ((1920 + v4) + v7) n_t_limbs) (
          cond (inb ((1920 + v4) + v7) n_t_limbs) (
          f_X_multiply_L31 k v1 v2 v3 v4 n_t_limbs j ((((((a_t_limbs ((40 * v1) + v4).toNatClampNeg).toInt64) * ((0 : Int32).toInt64)) + ((a_t_limbs ((1920 + v4) + v7).toNatClampNeg).toInt64)) + v5) >>> ((31 : Int32).toInt64 &&& 63)) (v7 + 1) (upd a_t_limbs ((1920 + v4) + v7).toNatClampNeg (((((((a_t_limbs ((40 * v1) + v4).toNatClampNeg).toInt64) * ((0 : Int32).toInt64)) + ((a_t_limbs ((1920 + v4) + v7).toNatClampNeg).toInt64)) + v5) &&& 2147483647).toInt32))) none) none
        else
          cond (inb ((40 * v2) + v7) n_t_limbs) (
          cond (inb ((1920 + v4) + v7) n_t_limbs) (
          cond (inb ((1920 + v4) + v7) n_t_limbs) (
          f_X_multiply_L31 k v1 v2 v3 v4 n_t_limbs j ((((((a_t_limbs ((40 * v1) + v4).toNatClampNeg).toInt64) * ((a_t_limbs ((40 * v2) + v7).toNatClampNeg).toInt64)) + ((a_t_limbs ((1920 + v4) + v7).toNatClampNeg).toInt64)) + v5) >>> ((31 : Int32).toInt64 &&& 63)) (v7 + 1) (upd a_t_limbs ((1920 + v4) + v7).toNatClampNeg (((((((a_t_limbs ((40 * v1) + v4).toNatClampNeg).toInt64) * ((a_t_limbs ((40 * v2) + v7).toNatClampNeg).toInt64)) + ((a_t_limbs ((1920 + v4) + v7).toNatClampNeg).toInt64)) + v5) &&& 2147483647).toInt32))) none) none) none) none
def f_X_multiply_L15 (k : Nat) (v1 : Int32) (v2 : Int32) (v3 : Int32) (n_t_limbs : Nat) : Nat → Int32 → (Nat → Int32) → Option (Int32 × (Nat → Int32))
  | 0, _, _ => none
  | j + 1, v4, a_t_limbs =>
    (f_X_count k n_t_limbs a_t_limbs v1).bind fun x111 =>
    if x111 ≤ v4 then
      some (v4, a_t_limbs)
    else
      (f_X_multiply_L31 k v1 v2 v3 v4 n_t_limbs k (0 : Int64) (0 : Int32) a_t_limbs).bind fun x114 =>
      f_X_multiply_L15 k v1 v2 v3 n_t_limbs j (v4 + 1) x114.2.2
def f_X_multiply (k : Nat) (n_t_limbs : Nat) (a_t_limbs : Nat → Int32) (n_t_signs : Nat) (a_t_signs : Nat → Int32) (aa : Int32) (bb : Int32) : Option ((Nat → Int32) × (Nat → Int32)) :=
  (f_X_clear k n_t_limbs a_t_limbs n_t_signs a_t_signs (48 : Int32)).bind fun x1 =>
  (f_X_count k n_t_limbs x1.1 bb).bind fun x3 =>
  (f_X_multiply_L15 k aa bb x3 n_t_limbs k (0 : Int32) x1.1).bind fun x116 =>
  cond (inb aa n_t_signs) (
  cond (inb bb n_t_signs) (
  cond (inb 48 n_t_signs) (
  some (x116.2, upd x1.2 (48 : Int32).toNatClampNeg ((x1.2 aa.toNatClampNeg) * (x1.2 bb.toNatClampNeg)))) none) none) none
def f_X_compare_L3 (k : Nat) (v1 : Int32) (v2 : Int32) (n_t_limbs : Nat) (a_t_limbs : Nat → Int32) : Nat → Int32 → Option (Bool × Int32 × Int32)
  | 0, _ => none
  | j + 1, v3 =>
    if v3 < 0 then
      some (false, 0, v3)
    else
      cond (inb ((40 * v1) + v3) n_t_limbs) (
      cond (inb ((40 * v2) + v3) n_t_limbs) (
      if a_t_limbs ((40 * v1) + v3).toNatClampNeg = a_t_limbs ((40 * v2) + v3).toNatClampNeg then
        f_X_compare_L3 k v1 v2 n_t_limbs a_t_limbs j (v3 + (-1))
      else
        if a_t_limbs ((40 * v2) + v3).toNatClampNeg ≤ a_t_limbs ((40 * v1) + v3).toNatClampNeg then
          some (true, 1, v3)
        else
          some (true, (-1), v3)) none) none
def f_X_compare (k : Nat) (n_t_limbs : Nat) (a_t_limbs : Nat → Int32) (aa : Int32) (bb : Int32) : Option (Int32) :=
  (f_X_compare_L3 k aa bb n_t_limbs a_t_limbs k (39 : Int32)).bind fun x16 =>
  if x16.1 = true then
    some x16.2.1
  else
    some (0 : Int32)
def f_X_join_L6 (k : Nat) (v1 : Int32) (v2 : Int32) (v3 : Int32) (v4 : Int32) (n_t_limbs : Nat) : Nat → Int64 → Int32 → (Nat → Int32) → Option (Int64 × Int32 × (Nat → Int32))
  | 0, _, _, _ => none
  | j + 1, v5, v7, a_t_limbs =>
    if 40 ≤ v7 then
      some (v5, v7, a_t_limbs)
    else
      cond (inb ((40 * v1) + v7) n_t_limbs) (
      if v3 = 0 then
        cond (inb ((40 * v2) + v7) n_t_limbs) (
        cond (inb ((40 * v4) + v7) n_t_limbs) (
        f_X_join_L6 k v1 v2 v3 v4 n_t_limbs j (((((a_t_limbs ((40 * v1) + v7).toNatClampNeg).toInt64) + (-((a_t_limbs ((40 * v2) + v7).toNatClampNeg).toInt64))) + v5) >>> ((31 : Int32).toInt64 &&& 63)) (v7 + 1) (upd a_t_limbs ((40 * v4) + v7).toNatClampNeg ((((((a_t_limbs ((40 * v1) + v7).toNatClampNeg).toInt64) + (-((a_t_limbs ((40 * v2) + v7).toNatClampNeg).toInt64))) + v5) &&& 2147483647).toInt32))) none) none
      else
        cond (inb ((40 * v2) + v7) n_t_limbs) (
        cond (inb ((40 * v4) + v7) n_t_limbs) (
        f_X_join_L6 k v1 v2 v3 v4 n_t_limbs j (((((a_t_limbs ((40 * v1) + v7).toNatClampNeg).toInt64) + ((a_t_limbs ((40 * v2) + v7).toNatClampNeg).toInt64)) + v5) >>> ((31 : Int32).toInt64 &&& 63)) (v7 + 1) (upd a_t_limbs ((40 * v4) + v7).toNatClampNeg ((((((a_t_limbs ((40 * v1) + v7).toNatClampNeg).toInt64) + ((a_t_limbs ((40 * v2) + v7).toNatClampNeg).toInt64)) + v5) &&& 2147483647).toInt32))) none) none) none
def f_X_join (k : Nat) (n_t_limbs : Nat) (a_t_limbs : Nat → Int32) (aa : Int32) (bb : Int32) (add : Int32) (tt : Int32) : Option ((Nat → Int32)) :=
  (f_X_join_L6 k aa bb add tt n_t_limbs k (0 : Int64) (0 : Int32) a_t_limbs).bind fun x22 =>
  some x22.2.2
def f_X_less (k : Nat) (n_t_limbs : Nat) (a_t_limbs : Nat → Int32) (n_t_signs : Nat) (a_t_signs : Nat → Int32) : Option ((Nat → Int32) × (Nat → Int32)) :=
  cond (inb 48 n_t_signs) (
  if a_t_signs (48 : Int32).toNatClampNeg = 0 then
    some (a_t_limbs, a_t_signs)
  else
    cond (inb 48 n_t_signs) (
    cond (inb 49 n_t_signs) (
    if a_t_signs (49 : Int32).toNatClampNeg = 0 then
      (f_X_join k n_t_limbs a_t_limbs (49 : Int32) (48 : Int32) (1 : Int32) (49 : Int32)).bind fun x6 =>
      cond (inb 49 n_t_signs) (
      some (x6, upd a_t_signs (49 : Int32).toNatClampNeg (-(a_t_signs (48 : Int32).toNatClampNeg)))) none
    else
      cond (inb 49 n_t_signs) (
      if a_t_signs (49 : Int32).toNatClampNeg = -(a_t_signs (48 : Int32).toNatClampNeg) then
        (f_X_join k n_t_limbs a_t_limbs (49 : Int32) (48 : Int32) (1 : Int32) (49 : Int32)).bind fun x29 =>
        cond (inb 49 n_t_signs) (
        some (x29, upd a_t_signs (49 : Int32).toNatClampNeg (-(a_t_signs (48 : Int32).toNatClampNeg)))) none
      else
        (f_X_compare k n_t_limbs a_t_limbs (49 : Int32) (48 : Int32)).bind fun x11 =>
        cond (inb 49 n_t_signs) (
        if x11 < 0 then
          (f_X_join k n_t_limbs a_t_limbs (48 : Int32) (49 : Int32) (0 : Int32) (49 : Int32)).bind fun x15 =>
          if x11 = 0 then
            cond (inb 49 n_t_signs) (
            some (x15, upd a_t_signs (49 : Int32).toNatClampNeg 0)) none
          else
            if x11 ≤ 0 then
              cond (inb 49 n_t_signs) (
              some (x15, upd a_t_signs (49 : Int32).toNatClampNeg (-(a_t_signs (48 : Int32).toNatClampNeg)))) none
            else
              cond (inb 49 n_t_signs) (
              some (x15, upd a_t_signs (49 : Int32).toNatClampNeg (a_t_signs (49 : Int32).toNatClampNeg))) none
        else
          (f_X_join k n_t_limbs a_t_limbs (49 : Int32) (48 : Int32) (0 : Int32) (49 : Int32)).bind fun x22 =>
          if x11 = 0 then
            cond (inb 49 n_t_signs) (
            some (x22, upd a_t_signs (49 : Int32).toNatClampNeg 0)) none
          else
            if x11 ≤ 0 then
              cond (inb 49 n_t_signs) (
              some (x22, upd a_t_signs (49 : Int32).toNatClampNeg (-(a_t_signs (48 : Int32).toNatClampNeg)))) none
            else
              cond (inb 49 n_t_signs) (
              some (x22, upd a_t_signs (49 : Int32).toNatClampNeg (a_t_signs (49 : Int32).toNatClampNeg))) none) none) none) none) none) none
def f_X_zeros_L2 (k : Nat) (v1 : Int32) (n_t_limbs : Nat) (a_t_limbs : Nat → Int32) : Nat → Int32 → Option (Int32)
  | 0, _ => none
  | j + 1, v2 =>
    cond (inb ((40 * v1) + (v2 / 31)) n_t_limbs) (
    if ((a_t_limbs ((40 * v1) + (v2 / 31)).toNatClampNeg) >>> ((v2 - v2 / 31 * 31) &&& 31)) &&& 1 = 0 then
      f_X_zeros_L2 k v1 n_t_limbs a_t_limbs j (v2 + 1)
    else
      some v2) none
def f_X_zeros (k : Nat) (n_t_limbs : Nat) (a_t_limbs : Nat → Int32) (pp : Int32) : Option (Int32) :=
  (f_X_zeros_L2 k pp n_t_limbs a_t_limbs k (0 : Int32)).bind fun x7 =>
  some x7
def f_X_shift_L3 (k : Nat) (v1 : Int32) (v2 : Int32) (v3 : Int32) (n_t_limbs : Nat) : Nat → Int32 → (Nat → Int32) → Option (Int32 × (Nat → Int32))
  | 0, _, _ => none
  | j + 1, v4, a_t_limbs =>
    if 40 ≤ v4 then
      some (v4, a_t_limbs)
    else
      if 40 ≤ v4 + (v2 / 31) then
        if 40 ≤ (v4 + (v2 / 31)) + 1 then
          cond (inb ((40 * v3) + v4) n_t_limbs) (
          f_X_shift_L3 k v1 v2 v3 n_t_limbs j (v4 + 1) (upd a_t_limbs ((40 * v3) + v4).toNatClampNeg ((((0 ||| ((0 : Int64) <<< ((31 : Int32).toInt64 &&& 63))) >>> ((v2 - v2 / 31 * 31).toInt64 &&& 63)) &&& 2147483647).toInt32))) none
        else
          cond (inb (((40 * v1) + (v4 + (v2 / 31))) + 1) n_t_limbs) (
          cond (inb ((40 * v3) + v4) n_t_limbs) (
          f_X_shift_L3 k v1 v2 v3 n_t_limbs j (v4 + 1) (upd a_t_limbs ((40 * v3) + v4).toNatClampNeg ((((0 ||| (((a_t_limbs (((40 * v1) + (v4 + (v2 / 31))) + 1).toNatClampNeg).toInt64) <<< ((31 : Int32).toInt64 &&& 63))) >>> ((v2 - v2 / 31 * 31).toInt64 &&& 63)) &&& 2147483647).toInt32))) none) none
      else
        cond (inb ((40 * v1) + (v4 + (v2 / 31))) n_t_limbs) (
        if 40 ≤ (v4 + (v2 / 31)) + 1 then
          cond (inb ((40 * v3) + v4) n_t_limbs) (
          f_X_shift_L3 k v1 v2 v3 n_t_limbs j (v4 + 1) (upd a_t_limbs ((40 * v3) + v4).toNatClampNeg ((((((a_t_limbs ((40 * v1) + (v4 + (v2 / 31))).toNatClampNeg).toInt64) ||| ((0 : Int64) <<< ((31 : Int32).toInt64 &&& 63))) >>> ((v2 - v2 / 31 * 31).toInt64 &&& 63)) &&& 2147483647).toInt32))) none
        else
          cond (inb (((40 * v1) + (v4 + (v2 / 31))) + 1) n_t_limbs) (
          cond (inb ((40 * v3) + v4) n_t_limbs) (
          f_X_shift_L3 k v1 v2 v3 n_t_limbs j (v4 + 1) (upd a_t_limbs ((40 * v3) + v4).toNatClampNeg ((((((a_t_limbs ((40 * v1) + (v4 + (v2 / 31))).toNatClampNeg).toInt64) ||| (((a_t_limbs (((40 * v1) + (v4 + (v2 / 31))) + 1).toNatClampNeg).toInt64) <<< ((31 : Int32).toInt64 &&& 63))) >>> ((v2 - v2 / 31 * 31).toInt64 &&& 63)) &&& 2147483647).toInt32))) none) none) none
def f_X_shift (k : Nat) (n_t_limbs : Nat) (a_t_limbs : Nat → Int32) (fro : Int32) (by_ : Int32) (tt : Int32) : Option ((Nat → Int32)) :=
  (f_X_shift_L3 k fro by_ tt n_t_limbs k (0 : Int32) a_t_limbs).bind fun x34 =>
  some x34.2
def f_X_divide_L56 (k : Nat) (v3 : Int64) : Nat → Int64 → Int32 → Option (Int64 × Int32)
  | 0, _, _ => none
  | j + 1, v5, v7 =>
    if 5 ≤ v7 then
      some (v5, v7)
    else
      f_X_divide_L56 k v3 j ((v5 * ((2 - (v3 * v5)) &&& 2147483647)) &&& 2147483647) (v7 + 1)
def f_X_divide_L140 (k : Nat) (v7 : Int32) (v8 : Int64) (n_t_limbs : Nat) : Nat → Int64 → Int32 → (Nat → Int32) → Option (Int64 × Int32 × (Nat → Int32))
  | 0, _, _, _ => none
  | j + 1, v10, v12, a_t_limbs =>
    if 40 ≤ v7 + v12 then
      some (v10, v12, a_t_limbs)
    else
      cond (inb (2040 + v12) n_t_limbs) (
      cond (inb ((2000 + v7) + v12) n_t_limbs) (
      cond (inb ((2000 + v7) + v12) n_t_limbs) (
      if 0 ≤ lg_cmp (((a_t_limbs ((2000 + v7) + v12).toNatClampNeg).toInt64) - (((v8 * ((a_t_limbs (2040 + v12).toNatClampNeg).toInt64)) + v10) &&& 2147483647)) (0 : Int64) then
        f_X_divide_L140 k v7 v8 n_t_limbs j ((((v8 * ((a_t_limbs (2040 + v12).toNatClampNeg).toInt64)) + v10) >>> ((31 : Int32).toInt64 &&& 63)) + 0) (v12 + 1) (upd a_t_limbs ((2000 + v7) + v12).toNatClampNeg (((((a_t_limbs ((2000 + v7) + v12).toNatClampNeg).toInt64) - (((v8 * ((a_t_limbs (2040 + v12).toNatClampNeg).toInt64)) + v10) &&& 2147483647)) &&& 2147483647).toInt32))
      else
        f_X_divide_L140 k v7 v8 n_t_limbs j ((((v8 * ((a_t_limbs (2040 + v12).toNatClampNeg).toInt64)) + v10) >>> ((31 : Int32).toInt64 &&& 63)) + 1) (v12 + 1) (upd a_t_limbs ((2000 + v7) + v12).toNatClampNeg (((((a_t_limbs ((2000 + v7) + v12).toNatClampNeg).toInt64) - (((v8 * ((a_t_limbs (2040 + v12).toNatClampNeg).toInt64)) + v10) &&& 2147483647)) &&& 2147483647).toInt32))) none) none) none
def f_X_divide_L92 (k : Nat) (v5 : Int64) (n_t_limbs : Nat) : Nat → Int32 → (Nat → Int32) → Option (Int32 × (Nat → Int32))
  | 0, _, _ => none
  | j + 1, v7, a_t_limbs =>
    if 40 ≤ v7 then
      some (v7, a_t_limbs)
    else
      cond (inb (2000 + v7) n_t_limbs) (
      cond (inb (2080 + v7) n_t_limbs) (
      (f_X_divide_L140 k v7 ((((a_t_limbs (2000 + v7).toNatClampNeg).toInt64) * v5) &&& 2147483647) n_t_limbs k (0 : Int64) (0 : Int32) (upd a_t_limbs (2080 + v7).toNatClampNeg (((((a_t_limbs (2000 + v7).toNatClampNeg).toInt64) * v5) &&& 2147483647).toInt32))).bind fun x60 =>
      f_X_divide_L92 k v5 n_t_limbs j (v7 + 1) x60.2.2) none) none
def f_X_divide (k : Nat) (n_t_limbs : Nat) (a_t_limbs : Nat → Int32) (n_t_signs : Nat) (a_t_signs : Nat → Int32) (by_ : Int32) : Option ((Nat → Int32) × (Nat → Int32)) :=
  (f_X_clear k n_t_limbs a_t_limbs n_t_signs a_t_signs (52 : Int32)).bind fun x1 =>
  cond (inb 49 n_t_signs) (
  if x1.2 (49 : Int32).toNatClampNeg = 0 then
    some (x1.1, x1.2)
  else
    (f_X_zeros k n_t_limbs x1.1 by_).bind fun x5 =>
    (f_X_shift k n_t_limbs x1.1 (49 : Int32) x5 (50 : Int32)).bind fun x7 =>
    (f_X_shift k n_t_limbs x7 by_ x5 (51 : Int32)).bind fun x9 =>
    cond (inb 2040 n_t_limbs) (
    (f_X_divide_L56 k ((x9 (2040 : Int32).toNatClampNeg).toInt64) k ((x9 (2040 : Int32).toNatClampNeg).toInt64) (0 : Int32)).bind fun x15 =>
    (f_X_divide_L92 k x15.1 n_t_limbs k (0 : Int32) x9).bind fun x62 =>
    cond (inb 49 n_t_signs) (
    cond (inb by_ n_t_signs) (
    cond (inb 52 n_t_signs) (
    some (x62.2, upd x1.2 (52 : Int32).toNatClampNeg ((x1.2 (49 : Int32).toNatClampNeg) * (x1.2 by_.toNatClampNeg)))) none) none) none) none) none
def f_X_swap_L2 (k : Nat) (v1 : Int32) (v2 : Int32) (n_t_limbs : Nat) (n_t_signs : Nat) : Nat → Int32 → (Nat → Int32) → (Nat → Int32) → Option (Int32 × (Nat → Int32) × (Nat → Int32))
  | 0, _, _, _ => none
  | j + 1, v3, a_t_limbs, a_t_signs =>
    if 7 ≤ v3 then
      some (v3, a_t_limbs, a_t_signs)
    else
      (f_X_copy k n_t_limbs a_t_limbs n_t_signs a_t_signs ((7 * v1) + v3) (50 : Int32)).bind fun x16 =>
      (f_X_copy k n_t_limbs x16.1 n_t_signs x16.2 ((7 * v2) + v3) ((7 * v1) + v3)).bind fun x18 =>
      (f_X_copy k n_t_limbs x18.1 n_t_signs x18.2 (50 : Int32) ((7 * v2) + v3)).bind fun x20 =>
      f_X_swap_L2 k v1 v2 n_t_limbs n_t_signs j (v3 + 1) x20.1 x20.2
def f_X_swap (k : Nat) (t_odd : Int32) (n_t_limbs : Nat) (a_t_limbs : Nat → Int32) (n_t_signs : Nat) (a_t_signs : Nat → Int32) (n_t_rows : Nat) (a_t_rows : Nat → Int32) (ii : Int32) (kk : Int32) : Option (Int32 × (Nat → Int32) × (Nat → Int32) × (Nat → Int32)) :=
  (f_X_swap_L2 k ii kk n_t_limbs n_t_signs k (0 : Int32) a_t_limbs a_t_signs).bind fun x22 =>
  cond (inb ii n_t_rows) (
  cond (inb kk n_t_rows) (
  cond (inb ii n_t_rows) (
  cond (inb kk n_t_rows) (
  if ii = kk then
    some (t_odd, x22.2.1, x22.2.2, upd (upd a_t_rows ii.toNatClampNeg (a_t_rows kk.toNatClampNeg)) kk.toNatClampNeg (a_t_rows ii.toNatClampNeg))
  else
    if t_odd = 0 then
      some ((1 : Int32), x22.2.1, x22.2.2, upd (upd a_t_rows ii.toNatClampNeg (a_t_rows kk.toNatClampNeg)) kk.toNatClampNeg (a_t_rows ii.toNatClampNeg))
    else
      some ((0 : Int32), x22.2.1, x22.2.2, upd (upd a_t_rows ii.toNatClampNeg (a_t_rows kk.toNatClampNeg)) kk.toNatClampNeg (a_t_rows ii.toNatClampNeg))) none) none) none) none
def f_X_eliminate_L2 (k : Nat) (v1 : Int32) (i0_t : Int32) (n_t_signs : Nat) (a_t_signs : Nat → Int32) : Nat → Int32 → Option (Int32)
  | 0, _ => none
  | j + 1, v2 =>
    if i0_t ≤ v2 then
      some v2
    else
      (f_X_place i0_t v2 v1).bind fun x12 =>
      cond (inb x12 n_t_signs) (
      if a_t_signs x12.toNatClampNeg = 0 then
        f_X_eliminate_L2 k v1 i0_t n_t_signs a_t_signs j (v2 + 1)
      else
        some v2) none
def f_X_eliminate_L70 (k : Nat) (v1 : Int32) (v3 : Int32) (i0_t : Int32) (i1_t : Int32) (n_t_limbs : Nat) (n_t_signs : Nat) : Nat → Int32 → (Nat → Int32) → (Nat → Int32) → Option (Bool × Int32 × Int32 × (Nat → Int32) × (Nat → Int32))
  | 0, _, _, _ => none
  | j + 1, v4, a_t_limbs, a_t_signs =>
    if i0_t < v4 then
      some (false, 0, v4, a_t_limbs, a_t_signs)
    else
      (f_X_place i0_t v1 v1).bind fun x217 =>
      (f_X_place i0_t v3 v4).bind fun x219 =>
      (f_X_multiply k n_t_limbs a_t_limbs n_t_signs a_t_signs x217 x219).bind fun x221 =>
      (f_X_copy k n_t_limbs x221.1 n_t_signs x221.2 (48 : Int32) (49 : Int32)).bind fun x223 =>
      (f_X_place i0_t v3 v1).bind fun x225 =>
      (f_X_place i0_t v1 v4).bind fun x227 =>
      (f_X_multiply k n_t_limbs x223.1 n_t_signs x223.2 x225 x227).bind fun x229 =>
      (f_X_less k n_t_limbs x229.1 n_t_signs x229.2).bind fun x231 =>
      (f_X_copy k n_t_limbs x231.1 n_t_signs x231.2 (49 : Int32) (52 : Int32)).bind fun x233 =>
      if v1 ≤ 0 then
        (f_X_count k n_t_limbs x233.1 (52 : Int32)).bind fun x236 =>
        if x236 ≤ i1_t then
          (f_X_place i0_t v3 v4).bind fun x239 =>
          (f_X_copy k n_t_limbs x233.1 n_t_signs x233.2 (52 : Int32) x239).bind fun x241 =>
          f_X_eliminate_L70 k v1 v3 i0_t i1_t n_t_limbs n_t_signs j (v4 + 1) x241.1 x241.2
        else
          some (true, 3, v4, x233.1, x233.2)
      else
        (f_X_place i0_t (v1 - 1) (v1 - 1)).bind fun x243 =>
        (f_X_divide k n_t_limbs x233.1 n_t_signs x233.2 x243).bind fun x245 =>
        (f_X_count k n_t_limbs x245.1 (52 : Int32)).bind fun x247 =>
        if x247 ≤ i1_t then
          (f_X_place i0_t v3 v4).bind fun x250 =>
          (f_X_copy k n_t_limbs x245.1 n_t_signs x245.2 (52 : Int32) x250).bind fun x252 =>
          f_X_eliminate_L70 k v1 v3 i0_t i1_t n_t_limbs n_t_signs j (v4 + 1) x252.1 x252.2
        else
          some (true, 3, v4, x245.1, x245.2)
def f_X_eliminate_L57 (k : Nat) (v1 : Int32) (i0_t : Int32) (i1_t : Int32) (n_t_limbs : Nat) (n_t_signs : Nat) : Nat → Int32 → (Nat → Int32) → (Nat → Int32) → Option (Bool × Int32 × Int32 × (Nat → Int32) × (Nat → Int32))
  | 0, _, _, _ => none
  | j + 1, v3, a_t_limbs, a_t_signs =>
    if i0_t ≤ v3 then
      some (false, 0, v3, a_t_limbs, a_t_signs)
    else
      (f_X_eliminate_L70 k v1 v3 i0_t i1_t n_t_limbs n_t_signs k (v1 + 1) a_t_limbs a_t_signs).bind fun x258 =>
      if x258.1 = true then
        some (true, x258.2.1, (0 : Int32), x258.2.2.2.1, x258.2.2.2.2)
      else
        f_X_eliminate_L57 k v1 i0_t i1_t n_t_limbs n_t_signs j (v3 + 1) x258.2.2.2.1 x258.2.2.2.2
def f_X_eliminate (k : Nat) (t_n : Int32) (t_room : Int32) (t_pivots : Int32) (t_odd : Int32) (n_t_limbs : Nat) (a_t_limbs : Nat → Int32) (n_t_signs : Nat) (a_t_signs : Nat → Int32) (n_t_rows : Nat) (a_t_rows : Nat → Int32) (kk : Int32) : Option (Int32 × Int32 × Int32 × (Nat → Int32) × (Nat → Int32) × (Nat → Int32)) :=
  (f_X_eliminate_L2 k kk t_n n_t_signs a_t_signs k kk).bind fun x16 =>
  if x16 = t_n then
    some ((2 : Int32), t_pivots, t_odd, a_t_limbs, a_t_signs, a_t_rows)
  else
    (f_X_swap k t_odd n_t_limbs a_t_limbs n_t_signs a_t_signs n_t_rows a_t_rows x16 kk).bind fun x19 =>
    (f_X_eliminate_L57 k kk t_n t_room n_t_limbs n_t_signs k (kk + 1) x19.2.1 x19.2.2.1).bind fun x261 =>
    if x261.1 = true then
      some (x261.2.1, kk + 1, x19.1, x261.2.2.2.1, x261.2.2.2.2, x19.2.2.2)
    else
      some ((0 : Int32), kk + 1, x19.1, x261.2.2.2.1, x261.2.2.2.2, x19.2.2.2)
def f_X_insert_L41 (k : Nat) (v1 : Int32) (i0_t : Int32) (n_t_limbs : Nat) (n_t_signs : Nat) : Nat → Int32 → (Nat → Int32) → (Nat → Int32) → Option (Int32 × (Nat → Int32) × (Nat → Int32))
  | 0, _, _, _ => none
  | j + 1, v2, a_t_limbs, a_t_signs =>
    if i0_t ≤ v2 then
      some (v2, a_t_limbs, a_t_signs)
    else
      (f_X_place i0_t v1 v2).bind fun x24 =>
      (f_X_multiply k n_t_limbs a_t_limbs n_t_signs a_t_signs x24 (42 + v2)).bind fun x26 =>
      (f_X_less k n_t_limbs x26.1 n_t_signs x26.2).bind fun x28 =>
      f_X_insert_L41 k v1 i0_t n_t_limbs n_t_signs j (v2 + 1) x28.1 x28.2
def f_X_insert (k : Nat) (t_n : Int32) (t_room : Int32) (n_t_limbs : Nat) (a_t_limbs : Nat → Int32) (n_t_signs : Nat) (a_t_signs : Nat → Int32) (ii : Int32) : Option (Int32 × (Nat → Int32) × (Nat → Int32)) :=
  (f_X_place t_n (t_n - 1) (t_n - 1)).bind fun x1 =>
  (f_X_place t_n ii t_n).bind fun x3 =>
  (f_X_multiply k n_t_limbs a_t_limbs n_t_signs a_t_signs x1 x3).bind fun x5 =>
  (f_X_copy k n_t_limbs x5.1 n_t_signs x5.2 (48 : Int32) (49 : Int32)).bind fun x7 =>
  (f_X_insert_L41 k ii t_n n_t_limbs n_t_signs k (ii + 1) x7.1 x7.2).bind fun x30 =>
  (f_X_place t_n ii ii).bind fun x32 =>
  (f_X_divide k n_t_limbs x30.2.1 n_t_signs x30.2.2 x32).bind fun x34 =>
  (f_X_count k n_t_limbs x34.1 (52 : Int32)).bind fun x36 =>
  if x36 ≤ t_room then
    (f_X_copy k n_t_limbs x34.1 n_t_signs x34.2 (52 : Int32) (42 + ii)).bind fun x39 =>
    if ii ≤ 0 then
      some ((1 : Int32), x39.1, x39.2)
    else
      some ((0 : Int32), x39.1, x39.2)
  else
    some ((3 : Int32), x34.1, x34.2)
def f_X_step (k : Nat) (t_n : Int32) (t_room : Int32) (t_state : Int32) (t_done : Int32) (t_pivots : Int32) (t_odd : Int32) (n_t_limbs : Nat) (a_t_limbs : Nat → Int32) (n_t_signs : Nat) (a_t_signs : Nat → Int32) (n_t_rows : Nat) (a_t_rows : Nat → Int32) : Option (Int32 × Int32 × Int32 × Int32 × Int32 × (Nat → Int32) × (Nat → Int32) × (Nat → Int32)) :=
  if t_state = 4 then
    if t_n ≤ t_done then
      (f_X_insert k t_n t_room n_t_limbs a_t_limbs n_t_signs a_t_signs (((2 * t_n) - 1) - t_done)).bind fun x3 =>
      some (x3.1, x3.1, t_done + 1, t_pivots, t_odd, x3.2.1, x3.2.2, a_t_rows)
    else
      (f_X_eliminate k t_n t_room t_pivots t_odd n_t_limbs a_t_limbs n_t_signs a_t_signs n_t_rows a_t_rows t_done).bind fun x5 =>
      some (x5.1, x5.1, t_done + 1, x5.2.1, x5.2.2.1, x5.2.2.2.1, x5.2.2.2.2.1, x5.2.2.2.2.2)
  else
    if t_state = 0 then
      if t_n ≤ t_done then
        (f_X_insert k t_n t_room n_t_limbs a_t_limbs n_t_signs a_t_signs (((2 * t_n) - 1) - t_done)).bind fun x9 =>
        some (x9.1, x9.1, t_done + 1, t_pivots, t_odd, x9.2.1, x9.2.2, a_t_rows)
      else
        (f_X_eliminate k t_n t_room t_pivots t_odd n_t_limbs a_t_limbs n_t_signs a_t_signs n_t_rows a_t_rows t_done).bind fun x11 =>
        some (x11.1, x11.1, t_done + 1, x11.2.1, x11.2.2.1, x11.2.2.2.1, x11.2.2.2.2.1, x11.2.2.2.2.2)
    else
      some (t_state, t_state, t_done, t_pivots, t_odd, a_t_limbs, a_t_signs, a_t_rows)
def f_X_status (t_state : Int32) : Option (Int32) :=
  some t_state
def f_X_steps (t_done : Int32) : Option (Int32) :=
  some t_done
def f_X_told (k : Nat) (n_t_limbs : Nat) (a_t_limbs : Nat → Int32) (n_t_signs : Nat) (a_t_signs : Nat → Int32) (pp : Int32) (what : Int32) (turn : Int32) : Option (Int32) :=
  (f_X_count k n_t_limbs a_t_limbs pp).bind fun x1 =>
  if what = (-2) then
    cond (inb pp n_t_signs) (
    some (turn * (a_t_signs pp.toNatClampNeg))) none
  else
    if what = (-1) then
      some x1
    else
      if what < 0 then
        some (-1 : Int32)
      else
        if x1 ≤ what then
          some (-1 : Int32)
        else
          cond (inb ((40 * pp) + what) n_t_limbs) (
          some (a_t_limbs ((40 * pp) + what).toNatClampNeg)) none
def f_X_determinant (k : Nat) (t_n : Int32) (t_state : Int32) (t_odd : Int32) (n_t_limbs : Nat) (a_t_limbs : Nat → Int32) (n_t_signs : Nat) (a_t_signs : Nat → Int32) (what : Int32) : Option (Int32) :=
  if t_state = 2 then
    if what = (-2) then
      some (0 : Int32)
    else
      if what = (-1) then
        some (0 : Int32)
      else
        some (-1 : Int32)
  else
    if t_state = 1 then
      (f_X_place t_n (t_n - 1) (t_n - 1)).bind fun x3 =>
      if t_odd = 0 then
        (f_X_told k n_t_limbs a_t_limbs n_t_signs a_t_signs x3 what (1 : Int32)).bind fun x6 =>
        some x6
      else
        (f_X_told k n_t_limbs a_t_limbs n_t_signs a_t_signs x3 what (-1 : Int32)).bind fun x8 =>
        some x8
    else
      some (-1 : Int32)
def f_X_numerator (k : Nat) (t_n : Int32) (t_state : Int32) (t_odd : Int32) (n_t_limbs : Nat) (a_t_limbs : Nat → Int32) (n_t_signs : Nat) (a_t_signs : Nat → Int32) (jj : Int32) (what : Int32) : Option (Int32) :=
  if t_state = 1 then
    if jj < 0 then
      some (-1 : Int32)
    else
      if t_n ≤ jj then
        some (-1 : Int32)
      else
        if t_odd = 0 then
          (f_X_told k n_t_limbs a_t_limbs n_t_signs a_t_signs (42 + jj) what (1 : Int32)).bind fun x5 =>
          some x5
        else
          (f_X_told k n_t_limbs a_t_limbs n_t_signs a_t_signs (42 + jj) what (-1 : Int32)).bind fun x7 =>
          some x7
  else
    some (-1 : Int32)
def f_X_pivot (k : Nat) (t_n : Int32) (t_pivots : Int32) (n_t_limbs : Nat) (a_t_limbs : Nat → Int32) (n_t_signs : Nat) (a_t_signs : Nat → Int32) (kk : Int32) (what : Int32) : Option (Int32) :=
  if kk < 0 then
    some (-1 : Int32)
  else
    if t_pivots ≤ kk then
      some (-1 : Int32)
    else
      (f_X_place t_n kk kk).bind fun x3 =>
      (f_X_told k n_t_limbs a_t_limbs n_t_signs a_t_signs x3 what (1 : Int32)).bind fun x5 =>
      some x5
def f_X_number (k : Nat) (t_n : Int32) (n_t_limbs : Nat) (a_t_limbs : Nat → Int32) (n_t_signs : Nat) (a_t_signs : Nat → Int32) (row : Int32) (column : Int32) (what : Int32) : Option (Int32) :=
  (f_X_isPlace t_n row column).bind fun x1 =>
  if x1 = 0 then
    some (-1 : Int32)
  else
    (f_X_place t_n row column).bind fun x4 =>
    (f_X_told k n_t_limbs a_t_limbs n_t_signs a_t_signs x4 what (1 : Int32)).bind fun x6 =>
    some x6
def f_X_row (t_n : Int32) (n_t_rows : Nat) (a_t_rows : Nat → Int32) (ii : Int32) : Option (Int32) :=
  if ii < 0 then
    some (-1 : Int32)
  else
    if t_n ≤ ii then
      some (-1 : Int32)
    else
      cond (inb ii n_t_rows) (
      some (a_t_rows ii.toNatClampNeg)) none
def f_X_holds (t_state : Int32) : Option (Int32) :=
  if t_state = 1 then
    some (1 : Int32)
  else
    some (0 : Int32)
def f_N_init (slots : Int32) (room : Int32) : Option (Int32 × Nat × (Nat → Int32) × Nat × (Nat → Int32) × Nat × (Nat → Int32)) :=
  cond (nab slots 42) (
  cond (nab slots 42) (
  cond (nab (slots * room) 672) (
  some (room, slots.toNatClampNeg, (fun _ => 0), slots.toNatClampNeg, (fun _ => 0), (slots * room).toNatClampNeg, (fun _ => 0))) none) none) none
def f_S_init (room : Int32) : Option (Int32 × Int32 × Int32 × Nat × (Nat → Int32) × Nat × (Nat → Int32) × Nat × (Nat → Int32)) :=
  cond (nab ((2 * room) + 1) 33) (
  cond (nab ((2 * room) + 1) 33) (
  cond (nab room 16) (
  some (room, (0 : Int32), (0 : Int32), ((2 * room) + 1).toNatClampNeg, (fun _ => 0), ((2 * room) + 1).toNatClampNeg, (fun _ => 0), room.toNatClampNeg, (fun _ => 0))) none) none) none
def f_M_init (k : Nat) (rows : Int32) (limbs : Int32) : Option (Int32 × Int32 × Int32 × Int32 × Int32 × Int32 × Int32 × Int32 × Int32 × Int32 × Nat × (Nat → Int32) × Nat × (Nat → Int32) × Nat × (Nat → Int32) × Int32 × Nat × (Nat → Int32) × Nat × (Nat → Int32) × Nat × (Nat → Int32) × Int32 × Nat × (Nat → Int32) × Nat × (Nat → Int32) × Nat × (Nat → Int32) × Int32 × Int32 × Int32 × Nat × (Nat → Int32) × Nat × (Nat → Int32) × Nat × (Nat → Int32) × Nat × (Nat → Int32)) :=
  (f_M_within rows (6 : Int32)).bind fun x1 =>
  (f_M_within limbs (16 : Int32)).bind fun x3 =>
  (f_N_init (x1 * (x1 + 1)) x3).bind fun x6 =>
  (f_N_init (x1 * (x1 + 1)) x3).bind fun x13 =>
  (f_N_init (x1 + 1) x3).bind fun x20 =>
  (f_S_init x3).bind fun x27 =>
  cond (nab x1 6) (
  (f_M_startLoading k x1 x6.2.1 x6.2.2.1 x6.2.2.2.1 x6.2.2.2.2.1 x1.toNatClampNeg (fun _ => 0)).bind fun x35 =>
  some (x1, x3, x35.1, x35.2.1, x35.2.2.1, x35.2.2.2.1, x35.2.2.2.2.1, x35.2.2.2.2.2.1, x35.2.2.2.2.2.2.1, x6.1, x6.2.1, x35.2.2.2.2.2.2.2.1, x6.2.2.2.1, x35.2.2.2.2.2.2.2.2.1, x6.2.2.2.2.2.1, x6.2.2.2.2.2.2, x13.1, x13.2.1, x13.2.2.1, x13.2.2.2.1, x13.2.2.2.2.1, x13.2.2.2.2.2.1, x13.2.2.2.2.2.2, x20.1, x20.2.1, x20.2.2.1, x20.2.2.2.1, x20.2.2.2.2.1, x20.2.2.2.2.2.1, x20.2.2.2.2.2.2, x27.1, x27.2.1, x27.2.2.1, x27.2.2.2.1, x27.2.2.2.2.1, x27.2.2.2.2.2.1, x27.2.2.2.2.2.2.1, x27.2.2.2.2.2.2.2.1, x27.2.2.2.2.2.2.2.2, x1.toNatClampNeg, x35.2.2.2.2.2.2.2.2.2)) none
def f_X_init (k : Nat) (rows : Int32) (limbs : Int32) : Option (Int32 × Int32 × Int32 × Int32 × Int32 × Int32 × Int32 × Int32 × Int32 × Nat × (Nat → Int32) × Nat × (Nat → Int32) × Nat × (Nat → Int32)) :=
  cond (nab (2160 : Int32) 2160) (
  cond (nab (54 : Int32) 54) (
  cond (nab (6 : Int32) 6) (
  if 1 ≤ rows then
    if rows ≤ 6 then
      if 1 ≤ limbs then
        if limbs ≤ 16 then
          (f_X_reset k ((2160 : Int32).toNatClampNeg) (fun _ => 0) ((54 : Int32).toNatClampNeg) (fun _ => 0) ((6 : Int32).toNatClampNeg) (fun _ => 0)).bind fun x11 =>
          some (rows, limbs, x11.1, (0 : Int32), (0 : Int32), x11.2.1, x11.2.2.1, x11.2.2.2.1, x11.2.2.2.2.1, (2160 : Int32).toNatClampNeg, x11.2.2.2.2.2.1, (54 : Int32).toNatClampNeg, x11.2.2.2.2.2.2.1, (6 : Int32).toNatClampNeg, x11.2.2.2.2.2.2.2)
        else
          (f_X_reset k ((2160 : Int32).toNatClampNeg) (fun _ => 0) ((54 : Int32).toNatClampNeg) (fun _ => 0) ((6 : Int32).toNatClampNeg) (fun _ => 0)).bind fun x13 =>
          some (rows, (16 : Int32), x13.1, (0 : Int32), (0 : Int32), x13.2.1, x13.2.2.1, x13.2.2.2.1, x13.2.2.2.2.1, (2160 : Int32).toNatClampNeg, x13.2.2.2.2.2.1, (54 : Int32).toNatClampNeg, x13.2.2.2.2.2.2.1, (6 : Int32).toNatClampNeg, x13.2.2.2.2.2.2.2)
      else
        (f_X_reset k ((2160 : Int32).toNatClampNeg) (fun _ => 0) ((54 : Int32).toNatClampNeg) (fun _ => 0) ((6 : Int32).toNatClampNeg) (fun _ => 0)).bind fun x15 =>
        some (rows, (1 : Int32), x15.1, (0 : Int32), (0 : Int32), x15.2.1, x15.2.2.1, x15.2.2.2.1, x15.2.2.2.2.1, (2160 : Int32).toNatClampNeg, x15.2.2.2.2.2.1, (54 : Int32).toNatClampNeg, x15.2.2.2.2.2.2.1, (6 : Int32).toNatClampNeg, x15.2.2.2.2.2.2.2)
    else
      if 1 ≤ limbs then
        if limbs ≤ 16 then
          (f_X_reset k ((2160 : Int32).toNatClampNeg) (fun _ => 0) ((54 : Int32).toNatClampNeg) (fun _ => 0) ((6 : Int32).toNatClampNeg) (fun _ => 0)).bind fun x19 =>
          some ((6 : Int32), limbs, x19.1, (0 : Int32), (0 : Int32), x19.2.1, x19.2.2.1, x19.2.2.2.1, x19.2.2.2.2.1, (2160 : Int32).toNatClampNeg, x19.2.2.2.2.2.1, (54 : Int32).toNatClampNeg, x19.2.2.2.2.2.2.1, (6 : Int32).toNatClampNeg, x19.2.2.2.2.2.2.2)
        else
          (f_X_reset k ((2160 : Int32).toNatClampNeg) (fun _ => 0) ((54 : Int32).toNatClampNeg) (fun _ => 0) ((6 : Int32).toNatClampNeg) (fun _ => 0)).bind fun x21 =>
          some ((6 : Int32), (16 : Int32), x21.1, (0 : Int32), (0 : Int32), x21.2.1, x21.2.2.1, x21.2.2.2.1, x21.2.2.2.2.1, (2160 : Int32).toNatClampNeg, x21.2.2.2.2.2.1, (54 : Int32).toNatClampNeg, x21.2.2.2.2.2.2.1, (6 : Int32).toNatClampNeg, x21.2.2.2.2.2.2.2)
      else
        (f_X_reset k ((2160 : Int32).toNatClampNeg) (fun _ => 0) ((54 : Int32).toNatClampNeg) (fun _ => 0) ((6 : Int32).toNatClampNeg) (fun _ => 0)).bind fun x23 =>
        some ((6 : Int32), (1 : Int32), x23.1, (0 : Int32), (0 : Int32), x23.2.1, x23.2.2.1, x23.2.2.2.1, x23.2.2.2.2.1, (2160 : Int32).toNatClampNeg, x23.2.2.2.2.2.1, (54 : Int32).toNatClampNeg, x23.2.2.2.2.2.2.1, (6 : Int32).toNatClampNeg, x23.2.2.2.2.2.2.2)
  else
    if 1 ≤ limbs then
      if limbs ≤ 16 then
        (f_X_reset k ((2160 : Int32).toNatClampNeg) (fun _ => 0) ((54 : Int32).toNatClampNeg) (fun _ => 0) ((6 : Int32).toNatClampNeg) (fun _ => 0)).bind fun x27 =>
        some ((1 : Int32), limbs, x27.1, (0 : Int32), (0 : Int32), x27.2.1, x27.2.2.1, x27.2.2.2.1, x27.2.2.2.2.1, (2160 : Int32).toNatClampNeg, x27.2.2.2.2.2.1, (54 : Int32).toNatClampNeg, x27.2.2.2.2.2.2.1, (6 : Int32).toNatClampNeg, x27.2.2.2.2.2.2.2)
      else
        (f_X_reset k ((2160 : Int32).toNatClampNeg) (fun _ => 0) ((54 : Int32).toNatClampNeg) (fun _ => 0) ((6 : Int32).toNatClampNeg) (fun _ => 0)).bind fun x29 =>
        some ((1 : Int32), (16 : Int32), x29.1, (0 : Int32), (0 : Int32), x29.2.1, x29.2.2.1, x29.2.2.2.1, x29.2.2.2.2.1, (2160 : Int32).toNatClampNeg, x29.2.2.2.2.2.1, (54 : Int32).toNatClampNeg, x29.2.2.2.2.2.2.1, (6 : Int32).toNatClampNeg, x29.2.2.2.2.2.2.2)
    else
      (f_X_reset k ((2160 : Int32).toNatClampNeg) (fun _ => 0) ((54 : Int32).toNatClampNeg) (fun _ => 0) ((6 : Int32).toNatClampNeg) (fun _ => 0)).bind fun x31 =>
      some ((1 : Int32), (1 : Int32), x31.1, (0 : Int32), (0 : Int32), x31.2.1, x31.2.2.1, x31.2.2.2.1, x31.2.2.2.2.1, (2160 : Int32).toNatClampNeg, x31.2.2.2.2.2.1, (54 : Int32).toNatClampNeg, x31.2.2.2.2.2.2.1, (6 : Int32).toNatClampNeg, x31.2.2.2.2.2.2.2)) none) none) none
end
section
def rm_fill : Room := { frames := 0, cells := 0, slots := 0, locals := 0 }
set_option maxHeartbeats 4000000 in
set_option maxRecDepth 100000 in
theorem w_fill_L5 {p : Program} {l : Launch} {e : Env} {s : State} {m : MethodId} {args : Array Value} {below : List Frame} {meth : Method} {c : Code} {Q : State → Prop} {A : Nat → Prop} {H0 : Heap} {dC : Nat → ClassId} {dI : Nat → Nat → Nat} {cA : ClassId} (hx : p.tables.exec = Jvm.exec) (hb : c.code = cJ7_fill_53178) (hown : s.vm.findClass RJ7 = some m.cls) (hts : ∀ w ∈ wsJ7_fill_53178, w.before args s = true) (hml : c.maxLocals = 4) (hA : ∀ q, H0.size ≤ q → A q) (hK : va_K (dC, dI) vwCl [(cA, .int)] s) (k : Nat) (q_row : Nat) (v1 : Int32) (v3 : Int32) (n_row : Nat) : ∀ (j : Nat) (v2 : Int32) (a_row : Nat → Int32) (o : Int32 × (Nat → Int32)), f_fill_L5 k v1 v3 n_row j v2 a_row = some o → ∀ (H : Heap) (locs : List Loc), va_P (dC, dI) vwCl [(q_row, .inl (cA, n_row, .inl a_row))] H → va_D A [(q_row, .inl (cA, n_row, .inl a_row))] → va_S A H0 H locs → ∀ ls : Array Slot, lv_has ls 4 [(0, .ref q_row), (1, .int v1), (2, .int v2), (3, .int v3)] → ∀ (he : ∀ (H : Heap) (locs : List Loc), va_P (dC, dI) vwCl [(q_row, .inl (cA, n_row, .inl o.2))] H → va_D A [(q_row, .inl (cA, n_row, .inl o.2))] → va_S A H0 H locs → ∀ ls : Array Slot, lv_has ls 4 [] → W p l e rm_fill s m args below meth c H locs 0 0 Q (F0 m 20 ls [])), W p l e rm_fill s m args below meth c H locs 0 0 Q (F0 m 5 ls []) := by
  intro j
  induction j with
  | zero =>
    intro v2 a_row o hf
    rw [f_fill_L5] at hf
    cases hf
  | succ j ih =>
    intro v2 a_row o hf H locs hP hD hS ls hl he
    rw [f_fill_L5] at hf
    refine lv_iload_n hx hb dJ7_fill_53178_5 rfl (lv_at hl 2 rfl) ?_
    refine lv_iload_n hx hb dJ7_fill_53178_6 rfl (lv_at hl 3 rfl) ?_
    refine lv_icmp_ge (tgt := 20) hx hb dJ7_fill_53178_7 (by decide) (fun c5 => ?_) (fun c5 => ?_)
    · have hf := og_t c5 hf
      have e9 := Option.some.inj hf
      subst e9
      exact he _ _ (hP.sub [0] rfl) (hD.sub [0] (by decide) rfl) hS _ (lv_sub hl [] rfl)
    · have hf := og_f c5 hf
      refine lv_aload_n hx hb dJ7_fill_53178_10 rfl (lv_at hl 0 rfl) ?_
      refine lv_iload_n hx hb dJ7_fill_53178_11 rfl (lv_at hl 2 rfl) ?_
      refine lv_iload_n hx hb dJ7_fill_53178_12 rfl (lv_at hl 1 rfl) ?_
      obtain ⟨g6, hf⟩ := og_c hf
      refine va_iast hx hb hK hP hD hS 0 0 rfl rfl (og_in g6) dJ7_fill_53178_13 (fun H locs hP hD hS => ?_)
      have hP : va_P (dC, dI) vwCl [(q_row, .inl (cA, n_row, .inl (upd a_row v2.toNatClampNeg v1)))] H := hP
      have hD : va_D A [(q_row, .inl (cA, n_row, .inl (upd a_row v2.toNatClampNeg v1)))] := hD
      refine lv_iinc (v := v2 + 1) (lv' := [(2, .int (v2 + 1)), (0, .ref q_row), (1, .int v1), (3, .int v3)]) hx hb dJ7_fill_53178_14 hl (k := 2) rfl rfl (by decide) rfl (fun ls hl => ?_)
      refine lv_goto (tgt := 5) hx hb dJ7_fill_53178_17 (by decide) ?_
      exact ih (v2 + 1) (upd a_row v2.toNatClampNeg v1) _ hf _ _ (hP.sub [0] rfl) (hD.sub [0] (by decide) rfl) hS _ (lv_sub hl [1, 2, 0, 3] rfl) he
set_option maxHeartbeats 4000000 in
set_option maxRecDepth 100000 in
theorem c_fill (l : Launch) (dC : Nat → ClassId) (dI : Nat → Nat → Nat) (cA : ClassId) (sz : Nat) (q_row : Nat) (k : Nat) (n_row : Nat) (a_row : Nat → Int32) (val : Int32) (o : (Nat → Int32)) (hf : f_fill k n_row a_row val = some o) : Met l yJ7_fill_53178 wsJ7_fill_53178 rm_fill (c_Pre (dC, dI) vwCl [(cA, .int)] [(q_row, .inl (cA, n_row, .inl a_row))] sz [.ref q_row, .int val]) (c_Qv (dC, dI) vwCl [(cA, .int)] [(q_row, .inl (cA, n_row, .inl o))] (va_A [(q_row, .inl (cA, n_row, .inl a_row))] sz)) 0 0 (va_A [(q_row, .inl (cA, n_row, .inl a_row))] sz) := by
  unfold f_fill at hf
  refine k_ent (Qc := fun A => c_Qv (dC, dI) vwCl [(cA, .int)] [(q_row, .inl (cA, n_row, .inl o))] A) (by decide) rfl (Nat.le_of_ble_eq_true rfl) ?_
  intro p e s m below meth c A hx hb hr hown hts hml hlocks hin hsz hA hK H locs hP hD hS ls hl
  have hown : s.vm.findClass RJ7 = some m.cls := hown
  have hl : lv_has ls 4 [(0, .ref q_row), (1, .int val)] := hl
  refine lv_iconst (v := 0) hx hb dJ7_fill_53178_0 (by decide) ?_
  refine lv_istore_n (lv' := [(2, .int 0), (0, .ref q_row), (1, .int val)]) hx hb dJ7_fill_53178_1 rfl hl (by decide) rfl (fun ls hl => ?_)
  refine lv_aload_n hx hb dJ7_fill_53178_2 rfl (lv_at hl 1 rfl) ?_
  refine va_alen hx hb hK hP 0 0 rfl rfl (v := nI n_row) rfl dJ7_fill_53178_3 ?_
  refine lv_istore_n (lv' := [(3, .int (nI n_row)), (2, .int 0), (0, .ref q_row), (1, .int val)]) hx hb dJ7_fill_53178_4 rfl hl (by decide) rfl (fun ls hl => ?_)
  obtain ⟨x7, g8, hf⟩ := og_b hf
  refine w_fill_L5 hx hb hown hts hml hA hK k q_row val (nI n_row) n_row k (0 : Int32) a_row _ g8 _ _ (hP.sub [0] rfl) (hD.sub [0] (by decide) rfl) hS _ (lv_sub hl [2, 3, 1, 0] rfl) ?_
  intro H locs hP hD hS ls hl
  have e9 := Option.some.inj hf
  subst e9
  exact kr_v hx hb hr hlocks hK hS (hP.sub [0] rfl) (hD.sub [0] (by decide) rfl) dJ7_fill_53178_20
def rm_N_clearAll : Room := { frames := 1, cells := 0, slots := 0, locals := 23 }
theorem kw_N_clearAll_0 : (.fieldLink RX0 15 "MinorSteps$Numbers" "signs" "[I" : Cond) ∈ wsX0_clearAll := by decide +kernel
theorem kw_N_clearAll_1 : (.fieldLink RX0 19 "MinorSteps$Numbers" "lengths" "[I" : Cond) ∈ wsX0_clearAll := by decide +kernel
theorem ki_N_clearAll_X0 : ∀ w ∈ u_ws RX0 TX0 4, w ∈ wsX0_clearAll := by decide +kernel
set_option maxHeartbeats 4000000 in
set_option maxRecDepth 100000 in
theorem c_N_clearAll (l : Launch) (dC : Nat → ClassId) (dI : Nat → Nat → Nat) (cA : ClassId) (sz : Nat) (q_t : Nat) (q_t_signs : Nat) (q_t_lengths : Nat) (q_t_limbs : Nat) (k : Nat) (t_room : Int32) (n_t_signs : Nat) (a_t_signs : Nat → Int32) (n_t_lengths : Nat) (a_t_lengths : Nat → Int32) (n_t_limbs : Nat) (a_t_limbs : Nat → Int32) (o : (Nat → Int32) × (Nat → Int32)) (hf : f_N_clearAll k n_t_signs a_t_signs n_t_lengths a_t_lengths = some o) : Met l yX0_clearAll wsX0_clearAll rm_N_clearAll (c_Pre (dC, dI) vwCl [(cA, .int)] [(q_t, .inr (0, [.int t_room, .ref q_t_signs, .ref q_t_lengths, .ref q_t_limbs])), (q_t_signs, .inl (cA, n_t_signs, .inl a_t_signs)), (q_t_lengths, .inl (cA, n_t_lengths, .inl a_t_lengths)), (q_t_limbs, .inl (cA, n_t_limbs, .inl a_t_limbs))] sz [.ref q_t]) (c_Qv (dC, dI) vwCl [(cA, .int)] [(q_t, .inr (0, [.int t_room, .ref q_t_signs, .ref q_t_lengths, .ref q_t_limbs])), (q_t_signs, .inl (cA, n_t_signs, .inl o.1)), (q_t_lengths, .inl (cA, n_t_lengths, .inl o.2)), (q_t_limbs, .inl (cA, n_t_limbs, .inl a_t_limbs))] (va_A [(q_t, .inr (0, [.int t_room, .ref q_t_signs, .ref q_t_lengths, .ref q_t_limbs])), (q_t_signs, .inl (cA, n_t_signs, .inl a_t_signs)), (q_t_lengths, .inl (cA, n_t_lengths, .inl a_t_lengths)), (q_t_limbs, .inl (cA, n_t_limbs, .inl a_t_limbs))] sz)) 0 0 (va_A [(q_t, .inr (0, [.int t_room, .ref q_t_signs, .ref q_t_lengths, .ref q_t_limbs])), (q_t_signs, .inl (cA, n_t_signs, .inl a_t_signs)), (q_t_lengths, .inl (cA, n_t_lengths, .inl a_t_lengths)), (q_t_limbs, .inl (cA, n_t_limbs, .inl a_t_limbs))] sz) := by
  unfold f_N_clearAll at hf
  refine k_ent (Qc := fun A => c_Qv (dC, dI) vwCl [(cA, .int)] [(q_t, .inr (0, [.int t_room, .ref q_t_signs, .ref q_t_lengths, .ref q_t_limbs])), (q_t_signs, .inl (cA, n_t_signs, .inl o.1)), (q_t_lengths, .inl (cA, n_t_lengths, .inl o.2)), (q_t_limbs, .inl (cA, n_t_limbs, .inl a_t_limbs))] A) (by decide) rfl (Nat.le_of_ble_eq_true rfl) ?_
  intro p e s m below meth c A hx hb hr hown hts hml hlocks hin hsz hA hK H locs hP hD hS ls hl
  have hown : s.vm.findClass RX0 = some m.cls := hown
  have hl : lv_has ls 1 [(0, .ref q_t)] := hl
  refine lv_aload_n hx hb dX0_clearAll_0 rfl (lv_at hl 0 rfl) ?_
  refine va_get (D := (dC, dI)) (ci := 0) (v := .ref q_t_signs) (C := RX0) (T := TX0) (N := 4) hx hb hts ki_N_clearAll_X0 hown hK hP 0 rfl rfl 1 (by decide) (hts (.fieldLink RX0 15 "MinorSteps$Numbers" "signs" "[I") kw_N_clearAll_0) (fun _ h9 => h9) rfl dX0_clearAll_1 ?_
  refine lv_iconst (v := 0) hx hb dX0_clearAll_4 (by decide) ?_
  obtain ⟨x1, g2, hf⟩ := og_b hf
  refine kc_v (wr := [(q_t, .inr (0, [.int t_room, .ref q_t_signs, .ref q_t_lengths, .ref q_t_limbs])), (q_t_lengths, .inl (cA, n_t_lengths, .inl a_t_lengths)), (q_t_limbs, .inl (cA, n_t_limbs, .inl a_t_limbs))]) (w1 := [(q_t_signs, .inl (cA, n_t_signs, .inl x1))]) [1] [0, 2, 3] (va_runS (As := [.ref q_t_signs, .int 0]) (rest := []) ⟨hx, hb, hml, hown, hts⟩ (c_fill l dC dI cA H.size q_t_signs k n_t_signs a_t_signs (0 : Int32) x1 g2) (va_cwS 2 hts gX0_clearAll_J7_fill_53178 rfl rfl rfl (by decide +kernel) ⟨Nat.le_of_ble_eq_true rfl, Nat.le_of_ble_eq_true rfl⟩) (kc_preS hP hD hK [1] rfl rfl (by decide)) rfl rfl hl.1 rfl (lv_room (Nat.le_of_ble_eq_true rfl)) dX0_clearAll_5 ⟨Nat.le_of_ble_eq_true rfl, Nat.le_of_ble_eq_true rfl⟩) hP hD hS hA rfl rfl (by decide) (by decide) (fun H locs hP hD hS => ?_)
  have hP : va_P (dC, dI) vwCl [(q_t, .inr (0, [.int t_room, .ref q_t_signs, .ref q_t_lengths, .ref q_t_limbs])), (q_t_lengths, .inl (cA, n_t_lengths, .inl a_t_lengths)), (q_t_limbs, .inl (cA, n_t_limbs, .inl a_t_limbs)), (q_t_signs, .inl (cA, n_t_signs, .inl x1))] H := hP
  have hD : va_D A [(q_t, .inr (0, [.int t_room, .ref q_t_signs, .ref q_t_lengths, .ref q_t_limbs])), (q_t_lengths, .inl (cA, n_t_lengths, .inl a_t_lengths)), (q_t_limbs, .inl (cA, n_t_limbs, .inl a_t_limbs)), (q_t_signs, .inl (cA, n_t_signs, .inl x1))] := hD
  refine lv_aload_n hx hb dX0_clearAll_8 rfl (lv_at hl 0 rfl) ?_
  refine va_get (D := (dC, dI)) (ci := 0) (v := .ref q_t_lengths) (C := RX0) (T := TX0) (N := 4) hx hb hts ki_N_clearAll_X0 hown hK hP 0 rfl rfl 2 (by decide) (hts (.fieldLink RX0 19 "MinorSteps$Numbers" "lengths" "[I") kw_N_clearAll_1) (fun _ h9 => h9) rfl dX0_clearAll_9 ?_
  refine lv_iconst (v := 0) hx hb dX0_clearAll_12 (by decide) ?_
  obtain ⟨x3, g4, hf⟩ := og_b hf
  refine kc_v (wr := [(q_t, .inr (0, [.int t_room, .ref q_t_signs, .ref q_t_lengths, .ref q_t_limbs])), (q_t_limbs, .inl (cA, n_t_limbs, .inl a_t_limbs)), (q_t_signs, .inl (cA, n_t_signs, .inl x1))]) (w1 := [(q_t_lengths, .inl (cA, n_t_lengths, .inl x3))]) [1] [0, 2, 3] (va_runS (As := [.ref q_t_lengths, .int 0]) (rest := []) ⟨hx, hb, hml, hown, hts⟩ (c_fill l dC dI cA H.size q_t_lengths k n_t_lengths a_t_lengths (0 : Int32) x3 g4) (va_cwS 2 hts gX0_clearAll_J7_fill_53178 rfl rfl rfl (by decide +kernel) ⟨Nat.le_of_ble_eq_true rfl, Nat.le_of_ble_eq_true rfl⟩) (kc_preS hP hD hK [1] rfl rfl (by decide)) rfl rfl hl.1 rfl (lv_room (Nat.le_of_ble_eq_true rfl)) dX0_clearAll_13 ⟨Nat.le_of_ble_eq_true rfl, Nat.le_of_ble_eq_true rfl⟩) hP hD hS hA rfl rfl (by decide) (by decide) (fun H locs hP hD hS => ?_)
  have hP : va_P (dC, dI) vwCl [(q_t, .inr (0, [.int t_room, .ref q_t_signs, .ref q_t_lengths, .ref q_t_limbs])), (q_t_limbs, .inl (cA, n_t_limbs, .inl a_t_limbs)), (q_t_signs, .inl (cA, n_t_signs, .inl x1)), (q_t_lengths, .inl (cA, n_t_lengths, .inl x3))] H := hP
  have hD : va_D A [(q_t, .inr (0, [.int t_room, .ref q_t_signs, .ref q_t_lengths, .ref q_t_limbs])), (q_t_limbs, .inl (cA, n_t_limbs, .inl a_t_limbs)), (q_t_signs, .inl (cA, n_t_signs, .inl x1)), (q_t_lengths, .inl (cA, n_t_lengths, .inl x3))] := hD
  have e9 := Option.some.inj hf
  subst e9
  exact kr_v hx hb hr hlocks hK hS (hP.sub [0, 2, 3, 1] rfl) (hD.sub [0, 2, 3, 1] (by decide) rfl) dX0_clearAll_16
def rm_N_clear : Room := { frames := 0, cells := 0, slots := 0, locals := 0 }
theorem kw_N_clear_0 : (.fieldLink RX0 15 "MinorSteps$Numbers" "signs" "[I" : Cond) ∈ wsX0_clear := by decide +kernel
theorem kw_N_clear_1 : (.fieldLink RX0 19 "MinorSteps$Numbers" "lengths" "[I" : Cond) ∈ wsX0_clear := by decide +kernel
theorem ki_N_clear_X0 : ∀ w ∈ u_ws RX0 TX0 4, w ∈ wsX0_clear := by decide +kernel
set_option maxHeartbeats 4000000 in
set_option maxRecDepth 100000 in
theorem c_N_clear (l : Launch) (dC : Nat → ClassId) (dI : Nat → Nat → Nat) (cA : ClassId) (sz : Nat) (q_t : Nat) (q_t_signs : Nat) (q_t_lengths : Nat) (q_t_limbs : Nat) (t_room : Int32) (n_t_signs : Nat) (a_t_signs : Nat → Int32) (n_t_lengths : Nat) (a_t_lengths : Nat → Int32) (n_t_limbs : Nat) (a_t_limbs : Nat → Int32) (slot : Int32) (o : (Nat → Int32) × (Nat → Int32)) (hf : f_N_clear n_t_signs a_t_signs n_t_lengths a_t_lengths slot = some o) : Met l yX0_clear wsX0_clear rm_N_clear (c_Pre (dC, dI) vwCl [(cA, .int)] [(q_t, .inr (0, [.int t_room, .ref q_t_signs, .ref q_t_lengths, .ref q_t_limbs])), (q_t_signs, .inl (cA, n_t_signs, .inl a_t_signs)), (q_t_lengths, .inl (cA, n_t_lengths, .inl a_t_lengths)), (q_t_limbs, .inl (cA, n_t_limbs, .inl a_t_limbs))] sz [.ref q_t, .int slot]) (c_Qv (dC, dI) vwCl [(cA, .int)] [(q_t, .inr (0, [.int t_room, .ref q_t_signs, .ref q_t_lengths, .ref q_t_limbs])), (q_t_signs, .inl (cA, n_t_signs, .inl o.1)), (q_t_lengths, .inl (cA, n_t_lengths, .inl o.2)), (q_t_limbs, .inl (cA, n_t_limbs, .inl a_t_limbs))] (va_A [(q_t, .inr (0, [.int t_room, .ref q_t_signs, .ref q_t_lengths, .ref q_t_limbs])), (q_t_signs, .inl (cA, n_t_signs, .inl a_t_signs)), (q_t_lengths, .inl (cA, n_t_lengths, .inl a_t_lengths)), (q_t_limbs, .inl (cA, n_t_limbs, .inl a_t_limbs))] sz)) 0 0 (va_A [(q_t, .inr (0, [.int t_room, .ref q_t_signs, .ref q_t_lengths, .ref q_t_limbs])), (q_t_signs, .inl (cA, n_t_signs, .inl a_t_signs)), (q_t_lengths, .inl (cA, n_t_lengths, .inl a_t_lengths)), (q_t_limbs, .inl (cA, n_t_limbs, .inl a_t_limbs))] sz) := by
  unfold f_N_clear at hf
  refine k_ent (Qc := fun A => c_Qv (dC, dI) vwCl [(cA, .int)] [(q_t, .inr (0, [.int t_room, .ref q_t_signs, .ref q_t_lengths, .ref q_t_limbs])), (q_t_signs, .inl (cA, n_t_signs, .inl o.1)), (q_t_lengths, .inl (cA, n_t_lengths, .inl o.2)), (q_t_limbs, .inl (cA, n_t_limbs, .inl a_t_limbs))] A) (by decide) rfl (Nat.le_of_ble_eq_true rfl) ?_
  intro p e s m below meth c A hx hb hr hown hts hml hlocks hin hsz hA hK H locs hP hD hS ls hl
  have hown : s.vm.findClass RX0 = some m.cls := hown
  have hl : lv_has ls 2 [(0, .ref q_t), (1, .int slot)] := hl
  refine lv_aload_n hx hb dX0_clear_0 rfl (lv_at hl 0 rfl) ?_
  refine va_get (D := (dC, dI)) (ci := 0) (v := .ref q_t_signs) (C := RX0) (T := TX0) (N := 4) hx hb hts ki_N_clear_X0 hown hK hP 0 rfl rfl 1 (by decide) (hts (.fieldLink RX0 15 "MinorSteps$Numbers" "signs" "[I") kw_N_clear_0) (fun _ h9 => h9) rfl dX0_clear_1 ?_
  refine lv_iload_n hx hb dX0_clear_4 rfl (lv_at hl 1 rfl) ?_
  refine lv_iconst (v := 0) hx hb dX0_clear_5 (by decide) ?_
  obtain ⟨g1, hf⟩ := og_c hf
  refine va_iast hx hb hK hP hD hS 1 0 rfl rfl (og_in g1) dX0_clear_6 (fun H locs hP hD hS => ?_)
  have hP : va_P (dC, dI) vwCl [(q_t, .inr (0, [.int t_room, .ref q_t_signs, .ref q_t_lengths, .ref q_t_limbs])), (q_t_signs, .inl (cA, n_t_signs, .inl (upd a_t_signs slot.toNatClampNeg 0))), (q_t_lengths, .inl (cA, n_t_lengths, .inl a_t_lengths)), (q_t_limbs, .inl (cA, n_t_limbs, .inl a_t_limbs))] H := hP
  have hD : va_D A [(q_t, .inr (0, [.int t_room, .ref q_t_signs, .ref q_t_lengths, .ref q_t_limbs])), (q_t_signs, .inl (cA, n_t_signs, .inl (upd a_t_signs slot.toNatClampNeg 0))), (q_t_lengths, .inl (cA, n_t_lengths, .inl a_t_lengths)), (q_t_limbs, .inl (cA, n_t_limbs, .inl a_t_limbs))] := hD
  refine lv_aload_n hx hb dX0_clear_7 rfl (lv_at hl 0 rfl) ?_
  refine va_get (D := (dC, dI)) (ci := 0) (v := .ref q_t_lengths) (C := RX0) (T := TX0) (N := 4) hx hb hts ki_N_clear_X0 hown hK hP 0 rfl rfl 2 (by decide) (hts (.fieldLink RX0 19 "MinorSteps$Numbers" "lengths" "[I") kw_N_clear_1) (fun _ h9 => h9) rfl dX0_clear_8 ?_
  refine lv_iload_n hx hb dX0_clear_11 rfl (lv_at hl 1 rfl) ?_
  refine lv_iconst (v := 0) hx hb dX0_clear_12 (by decide) ?_
  obtain ⟨g2, hf⟩ := og_c hf
  refine va_iast hx hb hK hP hD hS 2 0 rfl rfl (og_in g2) dX0_clear_13 (fun H locs hP hD hS => ?_)
  have hP : va_P (dC, dI) vwCl [(q_t, .inr (0, [.int t_room, .ref q_t_signs, .ref q_t_lengths, .ref q_t_limbs])), (q_t_signs, .inl (cA, n_t_signs, .inl (upd a_t_signs slot.toNatClampNeg 0))), (q_t_lengths, .inl (cA, n_t_lengths, .inl (upd a_t_lengths slot.toNatClampNeg 0))), (q_t_limbs, .inl (cA, n_t_limbs, .inl a_t_limbs))] H := hP
  have hD : va_D A [(q_t, .inr (0, [.int t_room, .ref q_t_signs, .ref q_t_lengths, .ref q_t_limbs])), (q_t_signs, .inl (cA, n_t_signs, .inl (upd a_t_signs slot.toNatClampNeg 0))), (q_t_lengths, .inl (cA, n_t_lengths, .inl (upd a_t_lengths slot.toNatClampNeg 0))), (q_t_limbs, .inl (cA, n_t_limbs, .inl a_t_limbs))] := hD
  have e9 := Option.some.inj hf
  subst e9
  exact kr_v hx hb hr hlocks hK hS (hP.sub [0, 1, 2, 3] rfl) (hD.sub [0, 1, 2, 3] (by decide) rfl) dX0_clear_14
def rm_N_signOf : Room := { frames := 0, cells := 0, slots := 0, locals := 0 }
theorem kw_N_signOf_0 : (.fieldLink RX0 15 "MinorSteps$Numbers" "signs" "[I" : Cond) ∈ wsX0_signOf := by decide +kernel
theorem ki_N_signOf_X0 : ∀ w ∈ u_ws RX0 TX0 4, w ∈ wsX0_signOf := by decide +kernel
set_option maxHeartbeats 4000000 in
set_option maxRecDepth 100000 in
theorem c_N_signOf (l : Launch) (dC : Nat → ClassId) (dI : Nat → Nat → Nat) (cA : ClassId) (sz : Nat) (q_t : Nat) (q_t_signs : Nat) (q_t_lengths : Nat) (q_t_limbs : Nat) (t_room : Int32) (n_t_signs : Nat) (a_t_signs : Nat → Int32) (n_t_lengths : Nat) (a_t_lengths : Nat → Int32) (n_t_limbs : Nat) (a_t_limbs : Nat → Int32) (slot : Int32) (o : Int32) (hf : f_N_signOf n_t_signs a_t_signs slot = some o) : Met l yX0_signOf wsX0_signOf rm_N_signOf (c_Pre (dC, dI) vwCl [(cA, .int)] [(q_t, .inr (0, [.int t_room, .ref q_t_signs, .ref q_t_lengths, .ref q_t_limbs])), (q_t_signs, .inl (cA, n_t_signs, .inl a_t_signs)), (q_t_lengths, .inl (cA, n_t_lengths, .inl a_t_lengths)), (q_t_limbs, .inl (cA, n_t_limbs, .inl a_t_limbs))] sz [.ref q_t, .int slot]) (c_Qi (dC, dI) vwCl [(cA, .int)] [(q_t, .inr (0, [.int t_room, .ref q_t_signs, .ref q_t_lengths, .ref q_t_limbs])), (q_t_signs, .inl (cA, n_t_signs, .inl a_t_signs)), (q_t_lengths, .inl (cA, n_t_lengths, .inl a_t_lengths)), (q_t_limbs, .inl (cA, n_t_limbs, .inl a_t_limbs))] (va_A [(q_t, .inr (0, [.int t_room, .ref q_t_signs, .ref q_t_lengths, .ref q_t_limbs])), (q_t_signs, .inl (cA, n_t_signs, .inl a_t_signs)), (q_t_lengths, .inl (cA, n_t_lengths, .inl a_t_lengths)), (q_t_limbs, .inl (cA, n_t_limbs, .inl a_t_limbs))] sz) o) 0 0 (va_A [(q_t, .inr (0, [.int t_room, .ref q_t_signs, .ref q_t_lengths, .ref q_t_limbs])), (q_t_signs, .inl (cA, n_t_signs, .inl a_t_signs)), (q_t_lengths, .inl (cA, n_t_lengths, .inl a_t_lengths)), (q_t_limbs, .inl (cA, n_t_limbs, .inl a_t_limbs))] sz) := by
  unfold f_N_signOf at hf
  refine k_ent (Qc := fun A => c_Qi (dC, dI) vwCl [(cA, .int)] [(q_t, .inr (0, [.int t_room, .ref q_t_signs, .ref q_t_lengths, .ref q_t_limbs])), (q_t_signs, .inl (cA, n_t_signs, .inl a_t_signs)), (q_t_lengths, .inl (cA, n_t_lengths, .inl a_t_lengths)), (q_t_limbs, .inl (cA, n_t_limbs, .inl a_t_limbs))] A o) (by decide) rfl (Nat.le_of_ble_eq_true rfl) ?_
  intro p e s m below meth c A hx hb hr hown hts hml hlocks hin hsz hA hK H locs hP hD hS ls hl
  have hown : s.vm.findClass RX0 = some m.cls := hown
  have hl : lv_has ls 2 [(0, .ref q_t), (1, .int slot)] := hl
  refine lv_aload_n hx hb dX0_signOf_0 rfl (lv_at hl 0 rfl) ?_
  refine va_get (D := (dC, dI)) (ci := 0) (v := .ref q_t_signs) (C := RX0) (T := TX0) (N := 4) hx hb hts ki_N_signOf_X0 hown hK hP 0 rfl rfl 1 (by decide) (hts (.fieldLink RX0 15 "MinorSteps$Numbers" "signs" "[I") kw_N_signOf_0) (fun _ h9 => h9) rfl dX0_signOf_1 ?_
  refine lv_iload_n hx hb dX0_signOf_4 rfl (lv_at hl 1 rfl) ?_
  obtain ⟨g1, hf⟩ := og_c hf
  refine va_iald hx hb hK hP 1 0 rfl rfl (og_in g1) dX0_signOf_5 ?_
  have e9 := Option.some.inj hf
  subst e9
  exact kr_i hx hb hr hlocks hK hS (hP.sub [0, 1, 2, 3] rfl) (hD.sub [0, 1, 2, 3] (by decide) rfl) dX0_signOf_6
def rm_N_lengthOf : Room := { frames := 0, cells := 0, slots := 0, locals := 0 }
theorem kw_N_lengthOf_0 : (.fieldLink RX0 19 "MinorSteps$Numbers" "lengths" "[I" : Cond) ∈ wsX0_lengthOf := by decide +kernel
theorem ki_N_lengthOf_X0 : ∀ w ∈ u_ws RX0 TX0 4, w ∈ wsX0_lengthOf := by decide +kernel
set_option maxHeartbeats 4000000 in
set_option maxRecDepth 100000 in
theorem c_N_lengthOf (l : Launch) (dC : Nat → ClassId) (dI : Nat → Nat → Nat) (cA : ClassId) (sz : Nat) (q_t : Nat) (q_t_signs : Nat) (q_t_lengths : Nat) (q_t_limbs : Nat) (t_room : Int32) (n_t_signs : Nat) (a_t_signs : Nat → Int32) (n_t_lengths : Nat) (a_t_lengths : Nat → Int32) (n_t_limbs : Nat) (a_t_limbs : Nat → Int32) (slot : Int32) (o : Int32) (hf : f_N_lengthOf n_t_lengths a_t_lengths slot = some o) : Met l yX0_lengthOf wsX0_lengthOf rm_N_lengthOf (c_Pre (dC, dI) vwCl [(cA, .int)] [(q_t, .inr (0, [.int t_room, .ref q_t_signs, .ref q_t_lengths, .ref q_t_limbs])), (q_t_signs, .inl (cA, n_t_signs, .inl a_t_signs)), (q_t_lengths, .inl (cA, n_t_lengths, .inl a_t_lengths)), (q_t_limbs, .inl (cA, n_t_limbs, .inl a_t_limbs))] sz [.ref q_t, .int slot]) (c_Qi (dC, dI) vwCl [(cA, .int)] [(q_t, .inr (0, [.int t_room, .ref q_t_signs, .ref q_t_lengths, .ref q_t_limbs])), (q_t_signs, .inl (cA, n_t_signs, .inl a_t_signs)), (q_t_lengths, .inl (cA, n_t_lengths, .inl a_t_lengths)), (q_t_limbs, .inl (cA, n_t_limbs, .inl a_t_limbs))] (va_A [(q_t, .inr (0, [.int t_room, .ref q_t_signs, .ref q_t_lengths, .ref q_t_limbs])), (q_t_signs, .inl (cA, n_t_signs, .inl a_t_signs)), (q_t_lengths, .inl (cA, n_t_lengths, .inl a_t_lengths)), (q_t_limbs, .inl (cA, n_t_limbs, .inl a_t_limbs))] sz) o) 0 0 (va_A [(q_t, .inr (0, [.int t_room, .ref q_t_signs, .ref q_t_lengths, .ref q_t_limbs])), (q_t_signs, .inl (cA, n_t_signs, .inl a_t_signs)), (q_t_lengths, .inl (cA, n_t_lengths, .inl a_t_lengths)), (q_t_limbs, .inl (cA, n_t_limbs, .inl a_t_limbs))] sz) := by
  unfold f_N_lengthOf at hf
  refine k_ent (Qc := fun A => c_Qi (dC, dI) vwCl [(cA, .int)] [(q_t, .inr (0, [.int t_room, .ref q_t_signs, .ref q_t_lengths, .ref q_t_limbs])), (q_t_signs, .inl (cA, n_t_signs, .inl a_t_signs)), (q_t_lengths, .inl (cA, n_t_lengths, .inl a_t_lengths)), (q_t_limbs, .inl (cA, n_t_limbs, .inl a_t_limbs))] A o) (by decide) rfl (Nat.le_of_ble_eq_true rfl) ?_
  intro p e s m below meth c A hx hb hr hown hts hml hlocks hin hsz hA hK H locs hP hD hS ls hl
  have hown : s.vm.findClass RX0 = some m.cls := hown
  have hl : lv_has ls 2 [(0, .ref q_t), (1, .int slot)] := hl
  refine lv_aload_n hx hb dX0_lengthOf_0 rfl (lv_at hl 0 rfl) ?_
  refine va_get (D := (dC, dI)) (ci := 0) (v := .ref q_t_lengths) (C := RX0) (T := TX0) (N := 4) hx hb hts ki_N_lengthOf_X0 hown hK hP 0 rfl rfl 2 (by decide) (hts (.fieldLink RX0 19 "MinorSteps$Numbers" "lengths" "[I") kw_N_lengthOf_0) (fun _ h9 => h9) rfl dX0_lengthOf_1 ?_
  refine lv_iload_n hx hb dX0_lengthOf_4 rfl (lv_at hl 1 rfl) ?_
  obtain ⟨g1, hf⟩ := og_c hf
  refine va_iald hx hb hK hP 2 0 rfl rfl (og_in g1) dX0_lengthOf_5 ?_
  have e9 := Option.some.inj hf
  subst e9
  exact kr_i hx hb hr hlocks hK hS (hP.sub [0, 1, 2, 3] rfl) (hD.sub [0, 1, 2, 3] (by decide) rfl) dX0_lengthOf_6
def rm_N_limbOf : Room := { frames := 0, cells := 0, slots := 0, locals := 0 }
theorem kw_N_limbOf_0 : (.fieldLink RX0 22 "MinorSteps$Numbers" "limbs" "[I" : Cond) ∈ wsX0_limbOf := by decide +kernel
theorem kw_N_limbOf_1 : (.fieldLink RX0 9 "MinorSteps$Numbers" "room" "I" : Cond) ∈ wsX0_limbOf := by decide +kernel
theorem ki_N_limbOf_X0 : ∀ w ∈ u_ws RX0 TX0 4, w ∈ wsX0_limbOf := by decide +kernel
set_option maxHeartbeats 4000000 in
set_option maxRecDepth 100000 in
theorem c_N_limbOf (l : Launch) (dC : Nat → ClassId) (dI : Nat → Nat → Nat) (cA : ClassId) (sz : Nat) (q_t : Nat) (q_t_signs : Nat) (q_t_lengths : Nat) (q_t_limbs : Nat) (t_room : Int32) (n_t_signs : Nat) (a_t_signs : Nat → Int32) (n_t_lengths : Nat) (a_t_lengths : Nat → Int32) (n_t_limbs : Nat) (a_t_limbs : Nat → Int32) (slot : Int32) (place : Int32) (o : Int32) (hf : f_N_limbOf t_room n_t_limbs a_t_limbs slot place = some o) : Met l yX0_limbOf wsX0_limbOf rm_N_limbOf (c_Pre (dC, dI) vwCl [(cA, .int)] [(q_t, .inr (0, [.int t_room, .ref q_t_signs, .ref q_t_lengths, .ref q_t_limbs])), (q_t_signs, .inl (cA, n_t_signs, .inl a_t_signs)), (q_t_lengths, .inl (cA, n_t_lengths, .inl a_t_lengths)), (q_t_limbs, .inl (cA, n_t_limbs, .inl a_t_limbs))] sz [.ref q_t, .int slot, .int place]) (c_Qi (dC, dI) vwCl [(cA, .int)] [(q_t, .inr (0, [.int t_room, .ref q_t_signs, .ref q_t_lengths, .ref q_t_limbs])), (q_t_signs, .inl (cA, n_t_signs, .inl a_t_signs)), (q_t_lengths, .inl (cA, n_t_lengths, .inl a_t_lengths)), (q_t_limbs, .inl (cA, n_t_limbs, .inl a_t_limbs))] (va_A [(q_t, .inr (0, [.int t_room, .ref q_t_signs, .ref q_t_lengths, .ref q_t_limbs])), (q_t_signs, .inl (cA, n_t_signs, .inl a_t_signs)), (q_t_lengths, .inl (cA, n_t_lengths, .inl a_t_lengths)), (q_t_limbs, .inl (cA, n_t_limbs, .inl a_t_limbs))] sz) o) 0 0 (va_A [(q_t, .inr (0, [.int t_room, .ref q_t_signs, .ref q_t_lengths, .ref q_t_limbs])), (q_t_signs, .inl (cA, n_t_signs, .inl a_t_signs)), (q_t_lengths, .inl (cA, n_t_lengths, .inl a_t_lengths)), (q_t_limbs, .inl (cA, n_t_limbs, .inl a_t_limbs))] sz) := by
  unfold f_N_limbOf at hf
  refine k_ent (Qc := fun A => c_Qi (dC, dI) vwCl [(cA, .int)] [(q_t, .inr (0, [.int t_room, .ref q_t_signs, .ref q_t_lengths, .ref q_t_limbs])), (q_t_signs, .inl (cA, n_t_signs, .inl a_t_signs)), (q_t_lengths, .inl (cA, n_t_lengths, .inl a_t_lengths)), (q_t_limbs, .inl (cA, n_t_limbs, .inl a_t_limbs))] A o) (by decide) rfl (Nat.le_of_ble_eq_true rfl) ?_
  intro p e s m below meth c A hx hb hr hown hts hml hlocks hin hsz hA hK H locs hP hD hS ls hl
  have hown : s.vm.findClass RX0 = some m.cls := hown
  have hl : lv_has ls 3 [(0, .ref q_t), (1, .int slot), (2, .int place)] := hl
  refine lv_aload_n hx hb dX0_limbOf_0 rfl (lv_at hl 0 rfl) ?_
  refine va_get (D := (dC, dI)) (ci := 0) (v := .ref q_t_limbs) (C := RX0) (T := TX0) (N := 4) hx hb hts ki_N_limbOf_X0 hown hK hP 0 rfl rfl 3 (by decide) (hts (.fieldLink RX0 22 "MinorSteps$Numbers" "limbs" "[I") kw_N_limbOf_0) (fun _ h9 => h9) rfl dX0_limbOf_1 ?_
  refine lv_iload_n hx hb dX0_limbOf_4 rfl (lv_at hl 1 rfl) ?_
  refine lv_aload_n hx hb dX0_limbOf_5 rfl (lv_at hl 0 rfl) ?_
  refine va_get (D := (dC, dI)) (ci := 0) (v := .int t_room) (C := RX0) (T := TX0) (N := 4) hx hb hts ki_N_limbOf_X0 hown hK hP 0 rfl rfl 0 (by decide) (hts (.fieldLink RX0 9 "MinorSteps$Numbers" "room" "I") kw_N_limbOf_1) (fun _ h9 => h9) rfl dX0_limbOf_6 ?_
  refine lv_imul hx hb dX0_limbOf_9 ?_
  refine lv_iload_n hx hb dX0_limbOf_10 rfl (lv_at hl 2 rfl) ?_
  refine lv_iadd hx hb dX0_limbOf_11 ?_
  obtain ⟨g1, hf⟩ := og_c hf
  refine va_iald hx hb hK hP 3 0 rfl rfl (og_in g1) dX0_limbOf_12 ?_
  have e9 := Option.some.inj hf
  subst e9
  exact kr_i hx hb hr hlocks hK hS (hP.sub [0, 1, 2, 3] rfl) (hD.sub [0, 1, 2, 3] (by decide) rfl) dX0_limbOf_13
def rm_N_putLimb : Room := { frames := 0, cells := 0, slots := 0, locals := 0 }
theorem kw_N_putLimb_0 : (.fieldLink RX0 22 "MinorSteps$Numbers" "limbs" "[I" : Cond) ∈ wsX0_putLimb := by decide +kernel
theorem kw_N_putLimb_1 : (.fieldLink RX0 9 "MinorSteps$Numbers" "room" "I" : Cond) ∈ wsX0_putLimb := by decide +kernel
theorem kw_N_putLimb_2 : (.fieldLink RX0 19 "MinorSteps$Numbers" "lengths" "[I" : Cond) ∈ wsX0_putLimb := by decide +kernel
theorem kw_N_putLimb_3 : (.fieldLink RX0 15 "MinorSteps$Numbers" "signs" "[I" : Cond) ∈ wsX0_putLimb := by decide +kernel
theorem ki_N_putLimb_X0 : ∀ w ∈ u_ws RX0 TX0 4, w ∈ wsX0_putLimb := by decide +kernel
set_option maxHeartbeats 4000000 in
set_option maxRecDepth 100000 in
theorem c_N_putLimb (l : Launch) (dC : Nat → ClassId) (dI : Nat → Nat → Nat) (cA : ClassId) (sz : Nat) (q_t : Nat) (q_t_signs : Nat) (q_t_lengths : Nat) (q_t_limbs : Nat) (t_room : Int32) (n_t_signs : Nat) (a_t_signs : Nat → Int32) (n_t_lengths : Nat) (a_t_lengths : Nat → Int32) (n_t_limbs : Nat) (a_t_limbs : Nat → Int32) (slot : Int32) (place : Int32) (word : Int32) (sign : Int32) (o : (Nat → Int32) × (Nat → Int32) × (Nat → Int32)) (hf : f_N_putLimb t_room n_t_signs a_t_signs n_t_lengths a_t_lengths n_t_limbs a_t_limbs slot place word sign = some o) : Met l yX0_putLimb wsX0_putLimb rm_N_putLimb (c_Pre (dC, dI) vwCl [(cA, .int)] [(q_t, .inr (0, [.int t_room, .ref q_t_signs, .ref q_t_lengths, .ref q_t_limbs])), (q_t_signs, .inl (cA, n_t_signs, .inl a_t_signs)), (q_t_lengths, .inl (cA, n_t_lengths, .inl a_t_lengths)), (q_t_limbs, .inl (cA, n_t_limbs, .inl a_t_limbs))] sz [.ref q_t, .int slot, .int place, .int word, .int sign]) (c_Qv (dC, dI) vwCl [(cA, .int)] [(q_t, .inr (0, [.int t_room, .ref q_t_signs, .ref q_t_lengths, .ref q_t_limbs])), (q_t_signs, .inl (cA, n_t_signs, .inl o.1)), (q_t_lengths, .inl (cA, n_t_lengths, .inl o.2.1)), (q_t_limbs, .inl (cA, n_t_limbs, .inl o.2.2))] (va_A [(q_t, .inr (0, [.int t_room, .ref q_t_signs, .ref q_t_lengths, .ref q_t_limbs])), (q_t_signs, .inl (cA, n_t_signs, .inl a_t_signs)), (q_t_lengths, .inl (cA, n_t_lengths, .inl a_t_lengths)), (q_t_limbs, .inl (cA, n_t_limbs, .inl a_t_limbs))] sz)) 0 0 (va_A [(q_t, .inr (0, [.int t_room, .ref q_t_signs, .ref q_t_lengths, .ref q_t_limbs])), (q_t_signs, .inl (cA, n_t_signs, .inl a_t_signs)), (q_t_lengths, .inl (cA, n_t_lengths, .inl a_t_lengths)), (q_t_limbs, .inl (cA, n_t_limbs, .inl a_t_limbs))] sz) := by
  unfold f_N_putLimb at hf
  refine k_ent (Qc := fun A => c_Qv (dC, dI) vwCl [(cA, .int)] [(q_t, .inr (0, [.int t_room, .ref q_t_signs, .ref q_t_lengths, .ref q_t_limbs])), (q_t_signs, .inl (cA, n_t_signs, .inl o.1)), (q_t_lengths, .inl (cA, n_t_lengths, .inl o.2.1)), (q_t_limbs, .inl (cA, n_t_limbs, .inl o.2.2))] A) (by decide) rfl (Nat.le_of_ble_eq_true rfl) ?_
  intro p e s m below meth c A hx hb hr hown hts hml hlocks hin hsz hA hK H locs hP hD hS ls hl
  have hown : s.vm.findClass RX0 = some m.cls := hown
  have hl : lv_has ls 5 [(0, .ref q_t), (1, .int slot), (2, .int place), (3, .int word), (4, .int sign)] := hl
  refine lv_aload_n hx hb dX0_putLimb_0 rfl (lv_at hl 0 rfl) ?_
  refine va_get (D := (dC, dI)) (ci := 0) (v := .ref q_t_limbs) (C := RX0) (T := TX0) (N := 4) hx hb hts ki_N_putLimb_X0 hown hK hP 0 rfl rfl 3 (by decide) (hts (.fieldLink RX0 22 "MinorSteps$Numbers" "limbs" "[I") kw_N_putLimb_0) (fun _ h9 => h9) rfl dX0_putLimb_1 ?_
  refine lv_iload_n hx hb dX0_putLimb_4 rfl (lv_at hl 1 rfl) ?_
  refine lv_aload_n hx hb dX0_putLimb_5 rfl (lv_at hl 0 rfl) ?_
  refine va_get (D := (dC, dI)) (ci := 0) (v := .int t_room) (C := RX0) (T := TX0) (N := 4) hx hb hts ki_N_putLimb_X0 hown hK hP 0 rfl rfl 0 (by decide) (hts (.fieldLink RX0 9 "MinorSteps$Numbers" "room" "I") kw_N_putLimb_1) (fun _ h9 => h9) rfl dX0_putLimb_6 ?_
  refine lv_imul hx hb dX0_putLimb_9 ?_
  refine lv_iload_n hx hb dX0_putLimb_10 rfl (lv_at hl 2 rfl) ?_
  refine lv_iadd hx hb dX0_putLimb_11 ?_
  refine lv_iload_n hx hb dX0_putLimb_12 rfl (lv_at hl 3 rfl) ?_
  obtain ⟨g1, hf⟩ := og_c hf
  refine va_iast hx hb hK hP hD hS 3 0 rfl rfl (og_in g1) dX0_putLimb_13 (fun H locs hP hD hS => ?_)
  have hP : va_P (dC, dI) vwCl [(q_t, .inr (0, [.int t_room, .ref q_t_signs, .ref q_t_lengths, .ref q_t_limbs])), (q_t_signs, .inl (cA, n_t_signs, .inl a_t_signs)), (q_t_lengths, .inl (cA, n_t_lengths, .inl a_t_lengths)), (q_t_limbs, .inl (cA, n_t_limbs, .inl (upd a_t_limbs ((slot * t_room) + place).toNatClampNeg word)))] H := hP
  have hD : va_D A [(q_t, .inr (0, [.int t_room, .ref q_t_signs, .ref q_t_lengths, .ref q_t_limbs])), (q_t_signs, .inl (cA, n_t_signs, .inl a_t_signs)), (q_t_lengths, .inl (cA, n_t_lengths, .inl a_t_lengths)), (q_t_limbs, .inl (cA, n_t_limbs, .inl (upd a_t_limbs ((slot * t_room) + place).toNatClampNeg word)))] := hD
  refine lv_iload_n hx hb dX0_putLimb_14 rfl (lv_at hl 3 rfl) ?_
  refine lv_if_eq (tgt := 35) hx hb dX0_putLimb_15 (by decide) (fun c2 => ?_) (fun c2 => ?_)
  · have hf := og_t c2 hf
    have e9 := Option.some.inj hf
    subst e9
    exact kr_v hx hb hr hlocks hK hS (hP.sub [0, 1, 2, 3] rfl) (hD.sub [0, 1, 2, 3] (by decide) rfl) dX0_putLimb_35
  · have hf := og_f c2 hf
    refine lv_aload_n hx hb dX0_putLimb_18 rfl (lv_at hl 0 rfl) ?_
    refine va_get (D := (dC, dI)) (ci := 0) (v := .ref q_t_lengths) (C := RX0) (T := TX0) (N := 4) hx hb hts ki_N_putLimb_X0 hown hK hP 0 rfl rfl 2 (by decide) (hts (.fieldLink RX0 19 "MinorSteps$Numbers" "lengths" "[I") kw_N_putLimb_2) (fun _ h9 => h9) rfl dX0_putLimb_19 ?_
    refine lv_iload_n hx hb dX0_putLimb_22 rfl (lv_at hl 1 rfl) ?_
    refine lv_iload_n hx hb dX0_putLimb_23 rfl (lv_at hl 2 rfl) ?_
    refine lv_iconst (v := 1) hx hb dX0_putLimb_24 (by decide) ?_
    refine lv_iadd hx hb dX0_putLimb_25 ?_
    obtain ⟨g3, hf⟩ := og_c hf
    refine va_iast hx hb hK hP hD hS 2 0 rfl rfl (og_in g3) dX0_putLimb_26 (fun H locs hP hD hS => ?_)
    have hP : va_P (dC, dI) vwCl [(q_t, .inr (0, [.int t_room, .ref q_t_signs, .ref q_t_lengths, .ref q_t_limbs])), (q_t_signs, .inl (cA, n_t_signs, .inl a_t_signs)), (q_t_lengths, .inl (cA, n_t_lengths, .inl (upd a_t_lengths slot.toNatClampNeg (place + 1)))), (q_t_limbs, .inl (cA, n_t_limbs, .inl (upd a_t_limbs ((slot * t_room) + place).toNatClampNeg word)))] H := hP
    have hD : va_D A [(q_t, .inr (0, [.int t_room, .ref q_t_signs, .ref q_t_lengths, .ref q_t_limbs])), (q_t_signs, .inl (cA, n_t_signs, .inl a_t_signs)), (q_t_lengths, .inl (cA, n_t_lengths, .inl (upd a_t_lengths slot.toNatClampNeg (place + 1)))), (q_t_limbs, .inl (cA, n_t_limbs, .inl (upd a_t_limbs ((slot * t_room) + place).toNatClampNeg word)))] := hD
    refine lv_aload_n hx hb dX0_putLimb_27 rfl (lv_at hl 0 rfl) ?_
    refine va_get (D := (dC, dI)) (ci := 0) (v := .ref q_t_signs) (C := RX0) (T := TX0) (N := 4) hx hb hts ki_N_putLimb_X0 hown hK hP 0 rfl rfl 1 (by decide) (hts (.fieldLink RX0 15 "MinorSteps$Numbers" "signs" "[I") kw_N_putLimb_3) (fun _ h9 => h9) rfl dX0_putLimb_28 ?_
    refine lv_iload_n hx hb dX0_putLimb_31 rfl (lv_at hl 1 rfl) ?_
    refine lv_iload hx hb dX0_putLimb_32 (lv_at hl 4 rfl) ?_
    obtain ⟨g4, hf⟩ := og_c hf
    refine va_iast hx hb hK hP hD hS 1 0 rfl rfl (og_in g4) dX0_putLimb_34 (fun H locs hP hD hS => ?_)
    have hP : va_P (dC, dI) vwCl [(q_t, .inr (0, [.int t_room, .ref q_t_signs, .ref q_t_lengths, .ref q_t_limbs])), (q_t_signs, .inl (cA, n_t_signs, .inl (upd a_t_signs slot.toNatClampNeg sign))), (q_t_lengths, .inl (cA, n_t_lengths, .inl (upd a_t_lengths slot.toNatClampNeg (place + 1)))), (q_t_limbs, .inl (cA, n_t_limbs, .inl (upd a_t_limbs ((slot * t_room) + place).toNatClampNeg word)))] H := hP
    have hD : va_D A [(q_t, .inr (0, [.int t_room, .ref q_t_signs, .ref q_t_lengths, .ref q_t_limbs])), (q_t_signs, .inl (cA, n_t_signs, .inl (upd a_t_signs slot.toNatClampNeg sign))), (q_t_lengths, .inl (cA, n_t_lengths, .inl (upd a_t_lengths slot.toNatClampNeg (place + 1)))), (q_t_limbs, .inl (cA, n_t_limbs, .inl (upd a_t_limbs ((slot * t_room) + place).toNatClampNeg word)))] := hD
    have e9 := Option.some.inj hf
    subst e9
    exact kr_v hx hb hr hlocks hK hS (hP.sub [0, 1, 2, 3] rfl) (hD.sub [0, 1, 2, 3] (by decide) rfl) dX0_putLimb_35
def rm_N_put : Room := { frames := 1, cells := 0, slots := 0, locals := 60 }
theorem kw_N_put_0 : (.fieldLink RX0 22 "MinorSteps$Numbers" "limbs" "[I" : Cond) ∈ wsX0_put := by decide +kernel
theorem kw_N_put_1 : (.fieldLink RX0 9 "MinorSteps$Numbers" "room" "I" : Cond) ∈ wsX0_put := by decide +kernel
theorem kw_N_put_2 : (.methodLink RX0 31 arraycopyName : Cond) ∈ wsX0_put := by decide +kernel
theorem kw_N_put_3 : (.native arraycopyName : Cond) ∈ wsX0_put := by decide +kernel
theorem kw_N_put_4 : (.static arraycopyName : Cond) ∈ wsX0_put := by decide +kernel
theorem kw_N_put_5 : (.initialized "java/lang/System" : Cond) ∈ wsX0_put := by decide +kernel
theorem kw_N_put_6 : (.fieldLink RX0 19 "MinorSteps$Numbers" "lengths" "[I" : Cond) ∈ wsX0_put := by decide +kernel
theorem kw_N_put_7 : (.fieldLink RX0 15 "MinorSteps$Numbers" "signs" "[I" : Cond) ∈ wsX0_put := by decide +kernel
theorem ki_N_put_X0 : ∀ w ∈ u_ws RX0 TX0 4, w ∈ wsX0_put := by decide +kernel
set_option maxHeartbeats 4000000 in
set_option maxRecDepth 100000 in
theorem c_N_put (l : Launch) (dC : Nat → ClassId) (dI : Nat → Nat → Nat) (cA : ClassId) (sz : Nat) (q_t : Nat) (q_t_signs : Nat) (q_t_lengths : Nat) (q_t_limbs : Nat) (q_row : Nat) (t_room : Int32) (n_t_signs : Nat) (a_t_signs : Nat → Int32) (n_t_lengths : Nat) (a_t_lengths : Nat → Int32) (n_t_limbs : Nat) (a_t_limbs : Nat → Int32) (slot : Int32) (n_row : Nat) (a_row : Nat → Int32) (len : Int32) (sign : Int32) (o : (Nat → Int32) × (Nat → Int32) × (Nat → Int32)) (hf : f_N_put t_room n_t_signs a_t_signs n_t_lengths a_t_lengths n_t_limbs a_t_limbs slot n_row a_row len sign = some o) : Met l yX0_put wsX0_put rm_N_put (c_Pre (dC, dI) vwCl [(cA, .int)] [(q_t, .inr (0, [.int t_room, .ref q_t_signs, .ref q_t_lengths, .ref q_t_limbs])), (q_t_signs, .inl (cA, n_t_signs, .inl a_t_signs)), (q_t_lengths, .inl (cA, n_t_lengths, .inl a_t_lengths)), (q_t_limbs, .inl (cA, n_t_limbs, .inl a_t_limbs)), (q_row, .inl (cA, n_row, .inl a_row))] sz [.ref q_t, .int slot, .ref q_row, .int len, .int sign]) (c_Qv (dC, dI) vwCl [(cA, .int)] [(q_t, .inr (0, [.int t_room, .ref q_t_signs, .ref q_t_lengths, .ref q_t_limbs])), (q_t_signs, .inl (cA, n_t_signs, .inl o.1)), (q_t_lengths, .inl (cA, n_t_lengths, .inl o.2.1)), (q_t_limbs, .inl (cA, n_t_limbs, .inl o.2.2)), (q_row, .inl (cA, n_row, .inl a_row))] (va_A [(q_t, .inr (0, [.int t_room, .ref q_t_signs, .ref q_t_lengths, .ref q_t_limbs])), (q_t_signs, .inl (cA, n_t_signs, .inl a_t_signs)), (q_t_lengths, .inl (cA, n_t_lengths, .inl a_t_lengths)), (q_t_limbs, .inl (cA, n_t_limbs, .inl a_t_limbs)), (q_row, .inl (cA, n_row, .inl a_row))] sz)) 0 0 (va_A [(q_t, .inr (0, [.int t_room, .ref q_t_signs, .ref q_t_lengths, .ref q_t_limbs])), (q_t_signs, .inl (cA, n_t_signs, .inl a_t_signs)), (q_t_lengths, .inl (cA, n_t_lengths, .inl a_t_lengths)), (q_t_limbs, .inl (cA, n_t_limbs, .inl a_t_limbs)), (q_row, .inl (cA, n_row, .inl a_row))] sz) := by
  unfold f_N_put at hf
  refine k_ent (Qc := fun A => c_Qv (dC, dI) vwCl [(cA, .int)] [(q_t, .inr (0, [.int t_room, .ref q_t_signs, .ref q_t_lengths, .ref q_t_limbs])), (q_t_signs, .inl (cA, n_t_signs, .inl o.1)), (q_t_lengths, .inl (cA, n_t_lengths, .inl o.2.1)), (q_t_limbs, .inl (cA, n_t_limbs, .inl o.2.2)), (q_row, .inl (cA, n_row, .inl a_row))] A) (by decide) rfl (Nat.le_of_ble_eq_true rfl) ?_
  intro p e s m below meth c A hx hb hr hown hts hml hlocks hin hsz hA hK H locs hP hD hS ls hl
  have hown : s.vm.findClass RX0 = some m.cls := hown
  have hl : lv_has ls 5 [(0, .ref q_t), (1, .int slot), (2, .ref q_row), (3, .int len), (4, .int sign)] := hl
  refine lv_aload_n hx hb dX0_put_0 rfl (lv_at hl 2 rfl) ?_
  refine lv_iconst (v := 0) hx hb dX0_put_1 (by decide) ?_
  refine lv_aload_n hx hb dX0_put_2 rfl (lv_at hl 0 rfl) ?_
  refine va_get (D := (dC, dI)) (ci := 0) (v := .ref q_t_limbs) (C := RX0) (T := TX0) (N := 4) hx hb hts ki_N_put_X0 hown hK hP 0 rfl rfl 3 (by decide) (hts (.fieldLink RX0 22 "MinorSteps$Numbers" "limbs" "[I") kw_N_put_0) (fun _ h9 => h9) rfl dX0_put_3 ?_
  refine lv_iload_n hx hb dX0_put_6 rfl (lv_at hl 1 rfl) ?_
  refine lv_aload_n hx hb dX0_put_7 rfl (lv_at hl 0 rfl) ?_
  refine va_get (D := (dC, dI)) (ci := 0) (v := .int t_room) (C := RX0) (T := TX0) (N := 4) hx hb hts ki_N_put_X0 hown hK hP 0 rfl rfl 0 (by decide) (hts (.fieldLink RX0 9 "MinorSteps$Numbers" "room" "I") kw_N_put_1) (fun _ h9 => h9) rfl dX0_put_8 ?_
  refine lv_imul hx hb dX0_put_11 ?_
  refine lv_iload_n hx hb dX0_put_12 rfl (lv_at hl 3 rfl) ?_
  obtain ⟨g1, hf⟩ := og_c hf
  refine va_copyi (ty := .int) hx hb (hml.trans hl.1.symm) hown (hts (.methodLink RX0 31 arraycopyName) kw_N_put_2) (hts (.native arraycopyName) kw_N_put_3) (hts (.static arraycopyName) kw_N_put_4) (hts (.initialized "java/lang/System") kw_N_put_5) hK hP hD hS 4 3 0 0 rfl rfl rfl rfl rfl (og_cp g1).1 (og_cp g1).2.1 (og_cp g1).2.2.1 (og_cp g1).2.2.2.1 (og_cp g1).2.2.2.2 (fun _ _ => rfl) (Nat.le_of_ble_eq_true rfl) (Nat.le_of_ble_eq_true rfl) dX0_put_13 (fun H locs hP hD hS => ?_)
  have hP : va_P (dC, dI) vwCl [(q_t, .inr (0, [.int t_room, .ref q_t_signs, .ref q_t_lengths, .ref q_t_limbs])), (q_t_signs, .inl (cA, n_t_signs, .inl a_t_signs)), (q_t_lengths, .inl (cA, n_t_lengths, .inl a_t_lengths)), (q_t_limbs, .inl (cA, n_t_limbs, .inl (va_cpy a_row a_t_limbs (0 : Int32).toNatClampNeg (slot * t_room).toNatClampNeg len.toNatClampNeg))), (q_row, .inl (cA, n_row, .inl a_row))] H := hP
  have hD : va_D A [(q_t, .inr (0, [.int t_room, .ref q_t_signs, .ref q_t_lengths, .ref q_t_limbs])), (q_t_signs, .inl (cA, n_t_signs, .inl a_t_signs)), (q_t_lengths, .inl (cA, n_t_lengths, .inl a_t_lengths)), (q_t_limbs, .inl (cA, n_t_limbs, .inl (va_cpy a_row a_t_limbs (0 : Int32).toNatClampNeg (slot * t_room).toNatClampNeg len.toNatClampNeg))), (q_row, .inl (cA, n_row, .inl a_row))] := hD
  refine lv_aload_n hx hb dX0_put_16 rfl (lv_at hl 0 rfl) ?_
  refine va_get (D := (dC, dI)) (ci := 0) (v := .ref q_t_lengths) (C := RX0) (T := TX0) (N := 4) hx hb hts ki_N_put_X0 hown hK hP 0 rfl rfl 2 (by decide) (hts (.fieldLink RX0 19 "MinorSteps$Numbers" "lengths" "[I") kw_N_put_6) (fun _ h9 => h9) rfl dX0_put_17 ?_
  refine lv_iload_n hx hb dX0_put_20 rfl (lv_at hl 1 rfl) ?_
  refine lv_iload_n hx hb dX0_put_21 rfl (lv_at hl 3 rfl) ?_
  obtain ⟨g2, hf⟩ := og_c hf
  refine va_iast hx hb hK hP hD hS 2 0 rfl rfl (og_in g2) dX0_put_22 (fun H locs hP hD hS => ?_)
  have hP : va_P (dC, dI) vwCl [(q_t, .inr (0, [.int t_room, .ref q_t_signs, .ref q_t_lengths, .ref q_t_limbs])), (q_t_signs, .inl (cA, n_t_signs, .inl a_t_signs)), (q_t_lengths, .inl (cA, n_t_lengths, .inl (upd a_t_lengths slot.toNatClampNeg len))), (q_t_limbs, .inl (cA, n_t_limbs, .inl (va_cpy a_row a_t_limbs (0 : Int32).toNatClampNeg (slot * t_room).toNatClampNeg len.toNatClampNeg))), (q_row, .inl (cA, n_row, .inl a_row))] H := hP
  have hD : va_D A [(q_t, .inr (0, [.int t_room, .ref q_t_signs, .ref q_t_lengths, .ref q_t_limbs])), (q_t_signs, .inl (cA, n_t_signs, .inl a_t_signs)), (q_t_lengths, .inl (cA, n_t_lengths, .inl (upd a_t_lengths slot.toNatClampNeg len))), (q_t_limbs, .inl (cA, n_t_limbs, .inl (va_cpy a_row a_t_limbs (0 : Int32).toNatClampNeg (slot * t_room).toNatClampNeg len.toNatClampNeg))), (q_row, .inl (cA, n_row, .inl a_row))] := hD
  refine lv_aload_n hx hb dX0_put_23 rfl (lv_at hl 0 rfl) ?_
  refine va_get (D := (dC, dI)) (ci := 0) (v := .ref q_t_signs) (C := RX0) (T := TX0) (N := 4) hx hb hts ki_N_put_X0 hown hK hP 0 rfl rfl 1 (by decide) (hts (.fieldLink RX0 15 "MinorSteps$Numbers" "signs" "[I") kw_N_put_7) (fun _ h9 => h9) rfl dX0_put_24 ?_
  refine lv_iload_n hx hb dX0_put_27 rfl (lv_at hl 1 rfl) ?_
  refine lv_iload hx hb dX0_put_28 (lv_at hl 4 rfl) ?_
  obtain ⟨g3, hf⟩ := og_c hf
  refine va_iast hx hb hK hP hD hS 1 0 rfl rfl (og_in g3) dX0_put_30 (fun H locs hP hD hS => ?_)
  have hP : va_P (dC, dI) vwCl [(q_t, .inr (0, [.int t_room, .ref q_t_signs, .ref q_t_lengths, .ref q_t_limbs])), (q_t_signs, .inl (cA, n_t_signs, .inl (upd a_t_signs slot.toNatClampNeg sign))), (q_t_lengths, .inl (cA, n_t_lengths, .inl (upd a_t_lengths slot.toNatClampNeg len))), (q_t_limbs, .inl (cA, n_t_limbs, .inl (va_cpy a_row a_t_limbs (0 : Int32).toNatClampNeg (slot * t_room).toNatClampNeg len.toNatClampNeg))), (q_row, .inl (cA, n_row, .inl a_row))] H := hP
  have hD : va_D A [(q_t, .inr (0, [.int t_room, .ref q_t_signs, .ref q_t_lengths, .ref q_t_limbs])), (q_t_signs, .inl (cA, n_t_signs, .inl (upd a_t_signs slot.toNatClampNeg sign))), (q_t_lengths, .inl (cA, n_t_lengths, .inl (upd a_t_lengths slot.toNatClampNeg len))), (q_t_limbs, .inl (cA, n_t_limbs, .inl (va_cpy a_row a_t_limbs (0 : Int32).toNatClampNeg (slot * t_room).toNatClampNeg len.toNatClampNeg))), (q_row, .inl (cA, n_row, .inl a_row))] := hD
  have e9 := Option.some.inj hf
  subst e9
  exact kr_v hx hb hr hlocks hK hS (hP.sub [0, 1, 2, 3, 4] rfl) (hD.sub [0, 1, 2, 3, 4] (by decide) rfl) dX0_put_31
def rm_N_copy : Room := { frames := 1, cells := 0, slots := 0, locals := 60 }
theorem kw_N_copy_0 : (.fieldLink RX0 22 "MinorSteps$Numbers" "limbs" "[I" : Cond) ∈ wsX0_copy := by decide +kernel
theorem kw_N_copy_1 : (.fieldLink RX0 9 "MinorSteps$Numbers" "room" "I" : Cond) ∈ wsX0_copy := by decide +kernel
theorem kw_N_copy_2 : (.fieldLink RX0 19 "MinorSteps$Numbers" "lengths" "[I" : Cond) ∈ wsX0_copy := by decide +kernel
theorem kw_N_copy_3 : (.methodLink RX0 31 arraycopyName : Cond) ∈ wsX0_copy := by decide +kernel
theorem kw_N_copy_4 : (.native arraycopyName : Cond) ∈ wsX0_copy := by decide +kernel
theorem kw_N_copy_5 : (.static arraycopyName : Cond) ∈ wsX0_copy := by decide +kernel
theorem kw_N_copy_6 : (.initialized "java/lang/System" : Cond) ∈ wsX0_copy := by decide +kernel
theorem kw_N_copy_7 : (.fieldLink RX0 15 "MinorSteps$Numbers" "signs" "[I" : Cond) ∈ wsX0_copy := by decide +kernel
theorem ki_N_copy_X0 : ∀ w ∈ u_ws RX0 TX0 4, w ∈ wsX0_copy := by decide +kernel
set_option maxHeartbeats 4000000 in
set_option maxRecDepth 100000 in
theorem c_N_copy (l : Launch) (dC : Nat → ClassId) (dI : Nat → Nat → Nat) (cA : ClassId) (sz : Nat) (q_t : Nat) (q_t_signs : Nat) (q_t_lengths : Nat) (q_t_limbs : Nat) (q_u : Nat) (q_u_signs : Nat) (q_u_lengths : Nat) (q_u_limbs : Nat) (t_room : Int32) (n_t_signs : Nat) (a_t_signs : Nat → Int32) (n_t_lengths : Nat) (a_t_lengths : Nat → Int32) (n_t_limbs : Nat) (a_t_limbs : Nat → Int32) (slot : Int32) (u_room : Int32) (n_u_signs : Nat) (a_u_signs : Nat → Int32) (n_u_lengths : Nat) (a_u_lengths : Nat → Int32) (n_u_limbs : Nat) (a_u_limbs : Nat → Int32) (fromSlot : Int32) (o : (Nat → Int32) × (Nat → Int32) × (Nat → Int32)) (hf : f_N_copy t_room n_t_signs a_t_signs n_t_lengths a_t_lengths n_t_limbs a_t_limbs slot n_u_signs a_u_signs n_u_lengths a_u_lengths n_u_limbs a_u_limbs fromSlot = some o) : Met l yX0_copy wsX0_copy rm_N_copy (c_Pre (dC, dI) vwCl [(cA, .int)] [(q_t, .inr (0, [.int t_room, .ref q_t_signs, .ref q_t_lengths, .ref q_t_limbs])), (q_t_signs, .inl (cA, n_t_signs, .inl a_t_signs)), (q_t_lengths, .inl (cA, n_t_lengths, .inl a_t_lengths)), (q_t_limbs, .inl (cA, n_t_limbs, .inl a_t_limbs)), (q_u, .inr (0, [.int u_room, .ref q_u_signs, .ref q_u_lengths, .ref q_u_limbs])), (q_u_signs, .inl (cA, n_u_signs, .inl a_u_signs)), (q_u_lengths, .inl (cA, n_u_lengths, .inl a_u_lengths)), (q_u_limbs, .inl (cA, n_u_limbs, .inl a_u_limbs))] sz [.ref q_t, .int slot, .ref q_u, .int fromSlot]) (c_Qv (dC, dI) vwCl [(cA, .int)] [(q_t, .inr (0, [.int t_room, .ref q_t_signs, .ref q_t_lengths, .ref q_t_limbs])), (q_t_signs, .inl (cA, n_t_signs, .inl o.1)), (q_t_lengths, .inl (cA, n_t_lengths, .inl o.2.1)), (q_t_limbs, .inl (cA, n_t_limbs, .inl o.2.2)), (q_u, .inr (0, [.int u_room, .ref q_u_signs, .ref q_u_lengths, .ref q_u_limbs])), (q_u_signs, .inl (cA, n_u_signs, .inl a_u_signs)), (q_u_lengths, .inl (cA, n_u_lengths, .inl a_u_lengths)), (q_u_limbs, .inl (cA, n_u_limbs, .inl a_u_limbs))] (va_A [(q_t, .inr (0, [.int t_room, .ref q_t_signs, .ref q_t_lengths, .ref q_t_limbs])), (q_t_signs, .inl (cA, n_t_signs, .inl a_t_signs)), (q_t_lengths, .inl (cA, n_t_lengths, .inl a_t_lengths)), (q_t_limbs, .inl (cA, n_t_limbs, .inl a_t_limbs)), (q_u, .inr (0, [.int u_room, .ref q_u_signs, .ref q_u_lengths, .ref q_u_limbs])), (q_u_signs, .inl (cA, n_u_signs, .inl a_u_signs)), (q_u_lengths, .inl (cA, n_u_lengths, .inl a_u_lengths)), (q_u_limbs, .inl (cA, n_u_limbs, .inl a_u_limbs))] sz)) 0 0 (va_A [(q_t, .inr (0, [.int t_room, .ref q_t_signs, .ref q_t_lengths, .ref q_t_limbs])), (q_t_signs, .inl (cA, n_t_signs, .inl a_t_signs)), (q_t_lengths, .inl (cA, n_t_lengths, .inl a_t_lengths)), (q_t_limbs, .inl (cA, n_t_limbs, .inl a_t_limbs)), (q_u, .inr (0, [.int u_room, .ref q_u_signs, .ref q_u_lengths, .ref q_u_limbs])), (q_u_signs, .inl (cA, n_u_signs, .inl a_u_signs)), (q_u_lengths, .inl (cA, n_u_lengths, .inl a_u_lengths)), (q_u_limbs, .inl (cA, n_u_limbs, .inl a_u_limbs))] sz) := by
  unfold f_N_copy at hf
  refine k_ent (Qc := fun A => c_Qv (dC, dI) vwCl [(cA, .int)] [(q_t, .inr (0, [.int t_room, .ref q_t_signs, .ref q_t_lengths, .ref q_t_limbs])), (q_t_signs, .inl (cA, n_t_signs, .inl o.1)), (q_t_lengths, .inl (cA, n_t_lengths, .inl o.2.1)), (q_t_limbs, .inl (cA, n_t_limbs, .inl o.2.2)), (q_u, .inr (0, [.int u_room, .ref q_u_signs, .ref q_u_lengths, .ref q_u_limbs])), (q_u_signs, .inl (cA, n_u_signs, .inl a_u_signs)), (q_u_lengths, .inl (cA, n_u_lengths, .inl a_u_lengths)), (q_u_limbs, .inl (cA, n_u_limbs, .inl a_u_limbs))] A) (by decide) rfl (Nat.le_of_ble_eq_true rfl) ?_
  intro p e s m below meth c A hx hb hr hown hts hml hlocks hin hsz hA hK H locs hP hD hS ls hl
  have hown : s.vm.findClass RX0 = some m.cls := hown
  have hl : lv_has ls 4 [(0, .ref q_t), (1, .int slot), (2, .ref q_u), (3, .int fromSlot)] := hl
  refine lv_aload_n hx hb dX0_copy_0 rfl (lv_at hl 2 rfl) ?_
  refine va_get (D := (dC, dI)) (ci := 0) (v := .ref q_u_limbs) (C := RX0) (T := TX0) (N := 4) hx hb hts ki_N_copy_X0 hown hK hP 4 rfl rfl 3 (by decide) (hts (.fieldLink RX0 22 "MinorSteps$Numbers" "limbs" "[I") kw_N_copy_0) (fun _ h9 => h9) rfl dX0_copy_1 ?_
  refine lv_iload_n hx hb dX0_copy_4 rfl (lv_at hl 3 rfl) ?_
  refine lv_aload_n hx hb dX0_copy_5 rfl (lv_at hl 0 rfl) ?_
  refine va_get (D := (dC, dI)) (ci := 0) (v := .int t_room) (C := RX0) (T := TX0) (N := 4) hx hb hts ki_N_copy_X0 hown hK hP 0 rfl rfl 0 (by decide) (hts (.fieldLink RX0 9 "MinorSteps$Numbers" "room" "I") kw_N_copy_1) (fun _ h9 => h9) rfl dX0_copy_6 ?_
  refine lv_imul hx hb dX0_copy_9 ?_
  refine lv_aload_n hx hb dX0_copy_10 rfl (lv_at hl 0 rfl) ?_
  refine va_get (D := (dC, dI)) (ci := 0) (v := .ref q_t_limbs) (C := RX0) (T := TX0) (N := 4) hx hb hts ki_N_copy_X0 hown hK hP 0 rfl rfl 3 (by decide) (hts (.fieldLink RX0 22 "MinorSteps$Numbers" "limbs" "[I") kw_N_copy_0) (fun _ h9 => h9) rfl dX0_copy_11 ?_
  refine lv_iload_n hx hb dX0_copy_14 rfl (lv_at hl 1 rfl) ?_
  refine lv_aload_n hx hb dX0_copy_15 rfl (lv_at hl 0 rfl) ?_
  refine va_get (D := (dC, dI)) (ci := 0) (v := .int t_room) (C := RX0) (T := TX0) (N := 4) hx hb hts ki_N_copy_X0 hown hK hP 0 rfl rfl 0 (by decide) (hts (.fieldLink RX0 9 "MinorSteps$Numbers" "room" "I") kw_N_copy_1) (fun _ h9 => h9) rfl dX0_copy_16 ?_
  refine lv_imul hx hb dX0_copy_19 ?_
  refine lv_aload_n hx hb dX0_copy_20 rfl (lv_at hl 2 rfl) ?_
  refine va_get (D := (dC, dI)) (ci := 0) (v := .ref q_u_lengths) (C := RX0) (T := TX0) (N := 4) hx hb hts ki_N_copy_X0 hown hK hP 4 rfl rfl 2 (by decide) (hts (.fieldLink RX0 19 "MinorSteps$Numbers" "lengths" "[I") kw_N_copy_2) (fun _ h9 => h9) rfl dX0_copy_21 ?_
  refine lv_iload_n hx hb dX0_copy_24 rfl (lv_at hl 3 rfl) ?_
  obtain ⟨g1, hf⟩ := og_c hf
  refine va_iald hx hb hK hP 6 0 rfl rfl (og_in g1) dX0_copy_25 ?_
  obtain ⟨g2, hf⟩ := og_c hf
  refine va_copyi (ty := .int) hx hb (hml.trans hl.1.symm) hown (hts (.methodLink RX0 31 arraycopyName) kw_N_copy_3) (hts (.native arraycopyName) kw_N_copy_4) (hts (.static arraycopyName) kw_N_copy_5) (hts (.initialized "java/lang/System") kw_N_copy_6) hK hP hD hS 7 3 0 0 rfl rfl rfl rfl rfl (og_cp g2).1 (og_cp g2).2.1 (og_cp g2).2.2.1 (og_cp g2).2.2.2.1 (og_cp g2).2.2.2.2 (fun _ _ => rfl) (Nat.le_of_ble_eq_true rfl) (Nat.le_of_ble_eq_true rfl) dX0_copy_26 (fun H locs hP hD hS => ?_)
  have hP : va_P (dC, dI) vwCl [(q_t, .inr (0, [.int t_room, .ref q_t_signs, .ref q_t_lengths, .ref q_t_limbs])), (q_t_signs, .inl (cA, n_t_signs, .inl a_t_signs)), (q_t_lengths, .inl (cA, n_t_lengths, .inl a_t_lengths)), (q_t_limbs, .inl (cA, n_t_limbs, .inl (va_cpy a_u_limbs a_t_limbs (fromSlot * t_room).toNatClampNeg (slot * t_room).toNatClampNeg (a_u_lengths fromSlot.toNatClampNeg).toNatClampNeg))), (q_u, .inr (0, [.int u_room, .ref q_u_signs, .ref q_u_lengths, .ref q_u_limbs])), (q_u_signs, .inl (cA, n_u_signs, .inl a_u_signs)), (q_u_lengths, .inl (cA, n_u_lengths, .inl a_u_lengths)), (q_u_limbs, .inl (cA, n_u_limbs, .inl a_u_limbs))] H := hP
  have hD : va_D A [(q_t, .inr (0, [.int t_room, .ref q_t_signs, .ref q_t_lengths, .ref q_t_limbs])), (q_t_signs, .inl (cA, n_t_signs, .inl a_t_signs)), (q_t_lengths, .inl (cA, n_t_lengths, .inl a_t_lengths)), (q_t_limbs, .inl (cA, n_t_limbs, .inl (va_cpy a_u_limbs a_t_limbs (fromSlot * t_room).toNatClampNeg (slot * t_room).toNatClampNeg (a_u_lengths fromSlot.toNatClampNeg).toNatClampNeg))), (q_u, .inr (0, [.int u_room, .ref q_u_signs, .ref q_u_lengths, .ref q_u_limbs])), (q_u_signs, .inl (cA, n_u_signs, .inl a_u_signs)), (q_u_lengths, .inl (cA, n_u_lengths, .inl a_u_lengths)), (q_u_limbs, .inl (cA, n_u_limbs, .inl a_u_limbs))] := hD
  refine lv_aload_n hx hb dX0_copy_29 rfl (lv_at hl 0 rfl) ?_
  refine va_get (D := (dC, dI)) (ci := 0) (v := .ref q_t_lengths) (C := RX0) (T := TX0) (N := 4) hx hb hts ki_N_copy_X0 hown hK hP 0 rfl rfl 2 (by decide) (hts (.fieldLink RX0 19 "MinorSteps$Numbers" "lengths" "[I") kw_N_copy_2) (fun _ h9 => h9) rfl dX0_copy_30 ?_
  refine lv_iload_n hx hb dX0_copy_33 rfl (lv_at hl 1 rfl) ?_
  refine lv_aload_n hx hb dX0_copy_34 rfl (lv_at hl 2 rfl) ?_
  refine va_get (D := (dC, dI)) (ci := 0) (v := .ref q_u_lengths) (C := RX0) (T := TX0) (N := 4) hx hb hts ki_N_copy_X0 hown hK hP 4 rfl rfl 2 (by decide) (hts (.fieldLink RX0 19 "MinorSteps$Numbers" "lengths" "[I") kw_N_copy_2) (fun _ h9 => h9) rfl dX0_copy_35 ?_
  refine lv_iload_n hx hb dX0_copy_38 rfl (lv_at hl 3 rfl) ?_
  obtain ⟨g3, hf⟩ := og_c hf
  refine va_iald hx hb hK hP 6 0 rfl rfl (og_in g3) dX0_copy_39 ?_
  obtain ⟨g4, hf⟩ := og_c hf
  refine va_iast hx hb hK hP hD hS 2 0 rfl rfl (og_in g4) dX0_copy_40 (fun H locs hP hD hS => ?_)
  have hP : va_P (dC, dI) vwCl [(q_t, .inr (0, [.int t_room, .ref q_t_signs, .ref q_t_lengths, .ref q_t_limbs])), (q_t_signs, .inl (cA, n_t_signs, .inl a_t_signs)), (q_t_lengths, .inl (cA, n_t_lengths, .inl (upd a_t_lengths slot.toNatClampNeg (a_u_lengths fromSlot.toNatClampNeg)))), (q_t_limbs, .inl (cA, n_t_limbs, .inl (va_cpy a_u_limbs a_t_limbs (fromSlot * t_room).toNatClampNeg (slot * t_room).toNatClampNeg (a_u_lengths fromSlot.toNatClampNeg).toNatClampNeg))), (q_u, .inr (0, [.int u_room, .ref q_u_signs, .ref q_u_lengths, .ref q_u_limbs])), (q_u_signs, .inl (cA, n_u_signs, .inl a_u_signs)), (q_u_lengths, .inl (cA, n_u_lengths, .inl a_u_lengths)), (q_u_limbs, .inl (cA, n_u_limbs, .inl a_u_limbs))] H := hP
  have hD : va_D A [(q_t, .inr (0, [.int t_room, .ref q_t_signs, .ref q_t_lengths, .ref q_t_limbs])), (q_t_signs, .inl (cA, n_t_signs, .inl a_t_signs)), (q_t_lengths, .inl (cA, n_t_lengths, .inl (upd a_t_lengths slot.toNatClampNeg (a_u_lengths fromSlot.toNatClampNeg)))), (q_t_limbs, .inl (cA, n_t_limbs, .inl (va_cpy a_u_limbs a_t_limbs (fromSlot * t_room).toNatClampNeg (slot * t_room).toNatClampNeg (a_u_lengths fromSlot.toNatClampNeg).toNatClampNeg))), (q_u, .inr (0, [.int u_room, .ref q_u_signs, .ref q_u_lengths, .ref q_u_limbs])), (q_u_signs, .inl (cA, n_u_signs, .inl a_u_signs)), (q_u_lengths, .inl (cA, n_u_lengths, .inl a_u_lengths)), (q_u_limbs, .inl (cA, n_u_limbs, .inl a_u_limbs))] := hD
  refine lv_aload_n hx hb dX0_copy_41 rfl (lv_at hl 0 rfl) ?_
  refine va_get (D := (dC, dI)) (ci := 0) (v := .ref q_t_signs) (C := RX0) (T := TX0) (N := 4) hx hb hts ki_N_copy_X0 hown hK hP 0 rfl rfl 1 (by decide) (hts (.fieldLink RX0 15 "MinorSteps$Numbers" "signs" "[I") kw_N_copy_7) (fun _ h9 => h9) rfl dX0_copy_42 ?_
  refine lv_iload_n hx hb dX0_copy_45 rfl (lv_at hl 1 rfl) ?_
  refine lv_aload_n hx hb dX0_copy_46 rfl (lv_at hl 2 rfl) ?_
  refine va_get (D := (dC, dI)) (ci := 0) (v := .ref q_u_signs) (C := RX0) (T := TX0) (N := 4) hx hb hts ki_N_copy_X0 hown hK hP 4 rfl rfl 1 (by decide) (hts (.fieldLink RX0 15 "MinorSteps$Numbers" "signs" "[I") kw_N_copy_7) (fun _ h9 => h9) rfl dX0_copy_47 ?_
  refine lv_iload_n hx hb dX0_copy_50 rfl (lv_at hl 3 rfl) ?_
  obtain ⟨g5, hf⟩ := og_c hf
  refine va_iald hx hb hK hP 5 0 rfl rfl (og_in g5) dX0_copy_51 ?_
  obtain ⟨g6, hf⟩ := og_c hf
  refine va_iast hx hb hK hP hD hS 1 0 rfl rfl (og_in g6) dX0_copy_52 (fun H locs hP hD hS => ?_)
  have hP : va_P (dC, dI) vwCl [(q_t, .inr (0, [.int t_room, .ref q_t_signs, .ref q_t_lengths, .ref q_t_limbs])), (q_t_signs, .inl (cA, n_t_signs, .inl (upd a_t_signs slot.toNatClampNeg (a_u_signs fromSlot.toNatClampNeg)))), (q_t_lengths, .inl (cA, n_t_lengths, .inl (upd a_t_lengths slot.toNatClampNeg (a_u_lengths fromSlot.toNatClampNeg)))), (q_t_limbs, .inl (cA, n_t_limbs, .inl (va_cpy a_u_limbs a_t_limbs (fromSlot * t_room).toNatClampNeg (slot * t_room).toNatClampNeg (a_u_lengths fromSlot.toNatClampNeg).toNatClampNeg))), (q_u, .inr (0, [.int u_room, .ref q_u_signs, .ref q_u_lengths, .ref q_u_limbs])), (q_u_signs, .inl (cA, n_u_signs, .inl a_u_signs)), (q_u_lengths, .inl (cA, n_u_lengths, .inl a_u_lengths)), (q_u_limbs, .inl (cA, n_u_limbs, .inl a_u_limbs))] H := hP
  have hD : va_D A [(q_t, .inr (0, [.int t_room, .ref q_t_signs, .ref q_t_lengths, .ref q_t_limbs])), (q_t_signs, .inl (cA, n_t_signs, .inl (upd a_t_signs slot.toNatClampNeg (a_u_signs fromSlot.toNatClampNeg)))), (q_t_lengths, .inl (cA, n_t_lengths, .inl (upd a_t_lengths slot.toNatClampNeg (a_u_lengths fromSlot.toNatClampNeg)))), (q_t_limbs, .inl (cA, n_t_limbs, .inl (va_cpy a_u_limbs a_t_limbs (fromSlot * t_room).toNatClampNeg (slot * t_room).toNatClampNeg (a_u_lengths fromSlot.toNatClampNeg).toNatClampNeg))), (q_u, .inr (0, [.int u_room, .ref q_u_signs, .ref q_u_lengths, .ref q_u_limbs])), (q_u_signs, .inl (cA, n_u_signs, .inl a_u_signs)), (q_u_lengths, .inl (cA, n_u_lengths, .inl a_u_lengths)), (q_u_limbs, .inl (cA, n_u_limbs, .inl a_u_limbs))] := hD
  have e9 := Option.some.inj hf
  subst e9
  exact kr_v hx hb hr hlocks hK hS (hP.sub [0, 1, 2, 3, 4, 5, 6, 7] rfl) (hD.sub [0, 1, 2, 3, 4, 5, 6, 7] (by decide) rfl) dX0_copy_53
def rm_N_negate : Room := { frames := 0, cells := 0, slots := 0, locals := 0 }
theorem kw_N_negate_0 : (.fieldLink RX0 15 "MinorSteps$Numbers" "signs" "[I" : Cond) ∈ wsX0_negate := by decide +kernel
theorem ki_N_negate_X0 : ∀ w ∈ u_ws RX0 TX0 4, w ∈ wsX0_negate := by decide +kernel
set_option maxHeartbeats 4000000 in
set_option maxRecDepth 100000 in
theorem c_N_negate (l : Launch) (dC : Nat → ClassId) (dI : Nat → Nat → Nat) (cA : ClassId) (sz : Nat) (q_t : Nat) (q_t_signs : Nat) (q_t_lengths : Nat) (q_t_limbs : Nat) (t_room : Int32) (n_t_signs : Nat) (a_t_signs : Nat → Int32) (n_t_lengths : Nat) (a_t_lengths : Nat → Int32) (n_t_limbs : Nat) (a_t_limbs : Nat → Int32) (slot : Int32) (o : (Nat → Int32)) (hf : f_N_negate n_t_signs a_t_signs slot = some o) : Met l yX0_negate wsX0_negate rm_N_negate (c_Pre (dC, dI) vwCl [(cA, .int)] [(q_t, .inr (0, [.int t_room, .ref q_t_signs, .ref q_t_lengths, .ref q_t_limbs])), (q_t_signs, .inl (cA, n_t_signs, .inl a_t_signs)), (q_t_lengths, .inl (cA, n_t_lengths, .inl a_t_lengths)), (q_t_limbs, .inl (cA, n_t_limbs, .inl a_t_limbs))] sz [.ref q_t, .int slot]) (c_Qv (dC, dI) vwCl [(cA, .int)] [(q_t, .inr (0, [.int t_room, .ref q_t_signs, .ref q_t_lengths, .ref q_t_limbs])), (q_t_signs, .inl (cA, n_t_signs, .inl o)), (q_t_lengths, .inl (cA, n_t_lengths, .inl a_t_lengths)), (q_t_limbs, .inl (cA, n_t_limbs, .inl a_t_limbs))] (va_A [(q_t, .inr (0, [.int t_room, .ref q_t_signs, .ref q_t_lengths, .ref q_t_limbs])), (q_t_signs, .inl (cA, n_t_signs, .inl a_t_signs)), (q_t_lengths, .inl (cA, n_t_lengths, .inl a_t_lengths)), (q_t_limbs, .inl (cA, n_t_limbs, .inl a_t_limbs))] sz)) 0 0 (va_A [(q_t, .inr (0, [.int t_room, .ref q_t_signs, .ref q_t_lengths, .ref q_t_limbs])), (q_t_signs, .inl (cA, n_t_signs, .inl a_t_signs)), (q_t_lengths, .inl (cA, n_t_lengths, .inl a_t_lengths)), (q_t_limbs, .inl (cA, n_t_limbs, .inl a_t_limbs))] sz) := by
  unfold f_N_negate at hf
  refine k_ent (Qc := fun A => c_Qv (dC, dI) vwCl [(cA, .int)] [(q_t, .inr (0, [.int t_room, .ref q_t_signs, .ref q_t_lengths, .ref q_t_limbs])), (q_t_signs, .inl (cA, n_t_signs, .inl o)), (q_t_lengths, .inl (cA, n_t_lengths, .inl a_t_lengths)), (q_t_limbs, .inl (cA, n_t_limbs, .inl a_t_limbs))] A) (by decide) rfl (Nat.le_of_ble_eq_true rfl) ?_
  intro p e s m below meth c A hx hb hr hown hts hml hlocks hin hsz hA hK H locs hP hD hS ls hl
  have hown : s.vm.findClass RX0 = some m.cls := hown
  have hl : lv_has ls 2 [(0, .ref q_t), (1, .int slot)] := hl
  refine lv_aload_n hx hb dX0_negate_0 rfl (lv_at hl 0 rfl) ?_
  refine va_get (D := (dC, dI)) (ci := 0) (v := .ref q_t_signs) (C := RX0) (T := TX0) (N := 4) hx hb hts ki_N_negate_X0 hown hK hP 0 rfl rfl 1 (by decide) (hts (.fieldLink RX0 15 "MinorSteps$Numbers" "signs" "[I") kw_N_negate_0) (fun _ h9 => h9) rfl dX0_negate_1 ?_
  refine lv_iload_n hx hb dX0_negate_4 rfl (lv_at hl 1 rfl) ?_
  refine lv_aload_n hx hb dX0_negate_5 rfl (lv_at hl 0 rfl) ?_
  refine va_get (D := (dC, dI)) (ci := 0) (v := .ref q_t_signs) (C := RX0) (T := TX0) (N := 4) hx hb hts ki_N_negate_X0 hown hK hP 0 rfl rfl 1 (by decide) (hts (.fieldLink RX0 15 "MinorSteps$Numbers" "signs" "[I") kw_N_negate_0) (fun _ h9 => h9) rfl dX0_negate_6 ?_
  refine lv_iload_n hx hb dX0_negate_9 rfl (lv_at hl 1 rfl) ?_
  obtain ⟨g1, hf⟩ := og_c hf
  refine va_iald hx hb hK hP 1 0 rfl rfl (og_in g1) dX0_negate_10 ?_
  refine lv_ineg hx hb dX0_negate_11 ?_
  obtain ⟨g2, hf⟩ := og_c hf
  refine va_iast hx hb hK hP hD hS 1 0 rfl rfl (og_in g2) dX0_negate_12 (fun H locs hP hD hS => ?_)
  have hP : va_P (dC, dI) vwCl [(q_t, .inr (0, [.int t_room, .ref q_t_signs, .ref q_t_lengths, .ref q_t_limbs])), (q_t_signs, .inl (cA, n_t_signs, .inl (upd a_t_signs slot.toNatClampNeg (-(a_t_signs slot.toNatClampNeg))))), (q_t_lengths, .inl (cA, n_t_lengths, .inl a_t_lengths)), (q_t_limbs, .inl (cA, n_t_limbs, .inl a_t_limbs))] H := hP
  have hD : va_D A [(q_t, .inr (0, [.int t_room, .ref q_t_signs, .ref q_t_lengths, .ref q_t_limbs])), (q_t_signs, .inl (cA, n_t_signs, .inl (upd a_t_signs slot.toNatClampNeg (-(a_t_signs slot.toNatClampNeg))))), (q_t_lengths, .inl (cA, n_t_lengths, .inl a_t_lengths)), (q_t_limbs, .inl (cA, n_t_limbs, .inl a_t_limbs))] := hD
  have e9 := Option.some.inj hf
  subst e9
  exact kr_v hx hb hr hlocks hK hS (hP.sub [0, 1, 2, 3] rfl) (hD.sub [0, 1, 2, 3] (by decide) rfl) dX0_negate_13
def rm_N_tell : Room := { frames := 1, cells := 0, slots := 0, locals := 22 }
theorem kw_N_tell_0 : (.fieldLink RX0 19 "MinorSteps$Numbers" "lengths" "[I" : Cond) ∈ wsX0_tell := by decide +kernel
theorem kw_N_tell_1 : (.fieldLink RX0 15 "MinorSteps$Numbers" "signs" "[I" : Cond) ∈ wsX0_tell := by decide +kernel
theorem ki_N_tell_X0 : ∀ w ∈ u_ws RX0 TX0 4, w ∈ wsX0_tell := by decide +kernel
set_option maxHeartbeats 4000000 in
set_option maxRecDepth 100000 in
theorem c_N_tell (l : Launch) (dC : Nat → ClassId) (dI : Nat → Nat → Nat) (cA : ClassId) (sz : Nat) (q_t : Nat) (q_t_signs : Nat) (q_t_lengths : Nat) (q_t_limbs : Nat) (t_room : Int32) (n_t_signs : Nat) (a_t_signs : Nat → Int32) (n_t_lengths : Nat) (a_t_lengths : Nat → Int32) (n_t_limbs : Nat) (a_t_limbs : Nat → Int32) (slot : Int32) (what : Int32) (o : Int32) (hf : f_N_tell t_room n_t_signs a_t_signs n_t_lengths a_t_lengths n_t_limbs a_t_limbs slot what = some o) : Met l yX0_tell wsX0_tell rm_N_tell (c_Pre (dC, dI) vwCl [(cA, .int)] [(q_t, .inr (0, [.int t_room, .ref q_t_signs, .ref q_t_lengths, .ref q_t_limbs])), (q_t_signs, .inl (cA, n_t_signs, .inl a_t_signs)), (q_t_lengths, .inl (cA, n_t_lengths, .inl a_t_lengths)), (q_t_limbs, .inl (cA, n_t_limbs, .inl a_t_limbs))] sz [.ref q_t, .int slot, .int what]) (c_Qi (dC, dI) vwCl [(cA, .int)] [(q_t, .inr (0, [.int t_room, .ref q_t_signs, .ref q_t_lengths, .ref q_t_limbs])), (q_t_signs, .inl (cA, n_t_signs, .inl a_t_signs)), (q_t_lengths, .inl (cA, n_t_lengths, .inl a_t_lengths)), (q_t_limbs, .inl (cA, n_t_limbs, .inl a_t_limbs))] (va_A [(q_t, .inr (0, [.int t_room, .ref q_t_signs, .ref q_t_lengths, .ref q_t_limbs])), (q_t_signs, .inl (cA, n_t_signs, .inl a_t_signs)), (q_t_lengths, .inl (cA, n_t_lengths, .inl a_t_lengths)), (q_t_limbs, .inl (cA, n_t_limbs, .inl a_t_limbs))] sz) o) 0 0 (va_A [(q_t, .inr (0, [.int t_room, .ref q_t_signs, .ref q_t_lengths, .ref q_t_limbs])), (q_t_signs, .inl (cA, n_t_signs, .inl a_t_signs)), (q_t_lengths, .inl (cA, n_t_lengths, .inl a_t_lengths)), (q_t_limbs, .inl (cA, n_t_limbs, .inl a_t_limbs))] sz) := by
  unfold f_N_tell at hf
  refine k_ent (Qc := fun A => c_Qi (dC, dI) vwCl [(cA, .int)] [(q_t, .inr (0, [.int t_room, .ref q_t_signs, .ref q_t_lengths, .ref q_t_limbs])), (q_t_signs, .inl (cA, n_t_signs, .inl a_t_signs)), (q_t_lengths, .inl (cA, n_t_lengths, .inl a_t_lengths)), (q_t_limbs, .inl (cA, n_t_limbs, .inl a_t_limbs))] A o) (by decide) rfl (Nat.le_of_ble_eq_true rfl) ?_
  intro p e s m below meth c A hx hb hr hown hts hml hlocks hin hsz hA hK H locs hP hD hS ls hl
  have hown : s.vm.findClass RX0 = some m.cls := hown
  have hl : lv_has ls 3 [(0, .ref q_t), (1, .int slot), (2, .int what)] := hl
  refine lv_iload_n hx hb dX0_tell_0 rfl (lv_at hl 2 rfl) ?_
  refine lv_bipush (v := (-2)) hx hb dX0_tell_1 (by decide) ?_
  refine lv_icmp_ne (tgt := 13) hx hb dX0_tell_3 (by decide) (fun c1 => ?_) (fun c1 => ?_)
  · have hf := og_f c1 hf
    refine lv_iload_n hx hb dX0_tell_13 rfl (lv_at hl 2 rfl) ?_
    refine lv_iconst (v := (-1)) hx hb dX0_tell_14 (by decide) ?_
    refine lv_icmp_ne (tgt := 25) hx hb dX0_tell_15 (by decide) (fun c2 => ?_) (fun c2 => ?_)
    · have hf := og_f c2 hf
      refine lv_iload_n hx hb dX0_tell_25 rfl (lv_at hl 2 rfl) ?_
      refine lv_if_lt (tgt := 48) hx hb dX0_tell_26 (by decide) (fun c3 => ?_) (fun c3 => ?_)
      · have hf := og_t c3 hf
        refine lv_iconst (v := (-1)) hx hb dX0_tell_48 (by decide) ?_
        have e9 := Option.some.inj hf
        subst e9
        exact kr_i hx hb hr hlocks hK hS (hP.sub [0, 1, 2, 3] rfl) (hD.sub [0, 1, 2, 3] (by decide) rfl) dX0_tell_49
      · have hf := og_f c3 hf
        refine lv_iload_n hx hb dX0_tell_29 rfl (lv_at hl 2 rfl) ?_
        refine lv_aload_n hx hb dX0_tell_30 rfl (lv_at hl 0 rfl) ?_
        refine va_get (D := (dC, dI)) (ci := 0) (v := .ref q_t_lengths) (C := RX0) (T := TX0) (N := 4) hx hb hts ki_N_tell_X0 hown hK hP 0 rfl rfl 2 (by decide) (hts (.fieldLink RX0 19 "MinorSteps$Numbers" "lengths" "[I") kw_N_tell_0) (fun _ h9 => h9) rfl dX0_tell_31 ?_
        refine lv_iload_n hx hb dX0_tell_34 rfl (lv_at hl 1 rfl) ?_
        obtain ⟨g4, hf⟩ := og_c hf
        refine va_iald hx hb hK hP 2 0 rfl rfl (og_in g4) dX0_tell_35 ?_
        refine lv_icmp_ge (tgt := 48) hx hb dX0_tell_36 (by decide) (fun c5 => ?_) (fun c5 => ?_)
        · have hf := og_t c5 hf
          refine lv_iconst (v := (-1)) hx hb dX0_tell_48 (by decide) ?_
          have e9 := Option.some.inj hf
          subst e9
          exact kr_i hx hb hr hlocks hK hS (hP.sub [0, 1, 2, 3] rfl) (hD.sub [0, 1, 2, 3] (by decide) rfl) dX0_tell_49
        · have hf := og_f c5 hf
          refine lv_aload_n hx hb dX0_tell_39 rfl (lv_at hl 0 rfl) ?_
          refine lv_iload_n hx hb dX0_tell_40 rfl (lv_at hl 1 rfl) ?_
          refine lv_iload_n hx hb dX0_tell_41 rfl (lv_at hl 2 rfl) ?_
          obtain ⟨x6, g7, hf⟩ := og_b hf
          refine kc_i (wr := []) (w1 := [(q_t, .inr (0, [.int t_room, .ref q_t_signs, .ref q_t_lengths, .ref q_t_limbs])), (q_t_signs, .inl (cA, n_t_signs, .inl a_t_signs)), (q_t_lengths, .inl (cA, n_t_lengths, .inl a_t_lengths)), (q_t_limbs, .inl (cA, n_t_limbs, .inl a_t_limbs))]) [0, 1, 2, 3] [] (va_runV (As := [.int slot, .int what]) (rest := []) ⟨hx, hb, hml, hown, hts⟩ (c_N_limbOf l dC dI cA H.size q_t q_t_signs q_t_lengths q_t_limbs t_room n_t_signs a_t_signs n_t_lengths a_t_lengths n_t_limbs a_t_limbs slot what x6 g7) (cwV 2 hts gX0_tell_X0_limbOf rfl rfl rfl (by decide +kernel) ⟨Nat.le_of_ble_eq_true rfl, Nat.le_of_ble_eq_true rfl⟩) (kc_preV hP hD hK [0, 1, 2, 3] rfl rfl (by decide) (ci := 0) (q0 := 0) rfl rfl) rfl rfl hl.1 rfl (lv_room (Nat.le_of_ble_eq_true rfl)) dX0_tell_42 ⟨Nat.le_of_ble_eq_true rfl, Nat.le_of_ble_eq_true rfl⟩) hP hD hS hA rfl rfl (by decide) (by decide) (fun H locs hP hD hS => ?_)
          have hP : va_P (dC, dI) vwCl [(q_t, .inr (0, [.int t_room, .ref q_t_signs, .ref q_t_lengths, .ref q_t_limbs])), (q_t_signs, .inl (cA, n_t_signs, .inl a_t_signs)), (q_t_lengths, .inl (cA, n_t_lengths, .inl a_t_lengths)), (q_t_limbs, .inl (cA, n_t_limbs, .inl a_t_limbs))] H := hP
          have hD : va_D A [(q_t, .inr (0, [.int t_room, .ref q_t_signs, .ref q_t_lengths, .ref q_t_limbs])), (q_t_signs, .inl (cA, n_t_signs, .inl a_t_signs)), (q_t_lengths, .inl (cA, n_t_lengths, .inl a_t_lengths)), (q_t_limbs, .inl (cA, n_t_limbs, .inl a_t_limbs))] := hD
          refine lv_goto (tgt := 49) hx hb dX0_tell_45 (by decide) ?_
          have e9 := Option.some.inj hf
          subst e9
          exact kr_i hx hb hr hlocks hK hS (hP.sub [0, 1, 2, 3] rfl) (hD.sub [0, 1, 2, 3] (by decide) rfl) dX0_tell_49
    · have hf := og_t c2 hf
      refine lv_aload_n hx hb dX0_tell_18 rfl (lv_at hl 0 rfl) ?_
      refine va_get (D := (dC, dI)) (ci := 0) (v := .ref q_t_lengths) (C := RX0) (T := TX0) (N := 4) hx hb hts ki_N_tell_X0 hown hK hP 0 rfl rfl 2 (by decide) (hts (.fieldLink RX0 19 "MinorSteps$Numbers" "lengths" "[I") kw_N_tell_0) (fun _ h9 => h9) rfl dX0_tell_19 ?_
      refine lv_iload_n hx hb dX0_tell_22 rfl (lv_at hl 1 rfl) ?_
      obtain ⟨g8, hf⟩ := og_c hf
      refine va_iald hx hb hK hP 2 0 rfl rfl (og_in g8) dX0_tell_23 ?_
      have e9 := Option.some.inj hf
      subst e9
      exact kr_i hx hb hr hlocks hK hS (hP.sub [0, 1, 2, 3] rfl) (hD.sub [0, 1, 2, 3] (by decide) rfl) dX0_tell_24
  · have hf := og_t c1 hf
    refine lv_aload_n hx hb dX0_tell_6 rfl (lv_at hl 0 rfl) ?_
    refine va_get (D := (dC, dI)) (ci := 0) (v := .ref q_t_signs) (C := RX0) (T := TX0) (N := 4) hx hb hts ki_N_tell_X0 hown hK hP 0 rfl rfl 1 (by decide) (hts (.fieldLink RX0 15 "MinorSteps$Numbers" "signs" "[I") kw_N_tell_1) (fun _ h9 => h9) rfl dX0_tell_7 ?_
    refine lv_iload_n hx hb dX0_tell_10 rfl (lv_at hl 1 rfl) ?_
    obtain ⟨g9, hf⟩ := og_c hf
    refine va_iald hx hb hK hP 1 0 rfl rfl (og_in g9) dX0_tell_11 ?_
    have e9 := Option.some.inj hf
    subst e9
    exact kr_i hx hb hr hlocks hK hS (hP.sub [0, 1, 2, 3] rfl) (hD.sub [0, 1, 2, 3] (by decide) rfl) dX0_tell_12
end
section
def rm_S_clear : Room := { frames := 1, cells := 0, slots := 0, locals := 23 }
theorem kw_S_clear_0 : (.fieldLink RX1 15 "MinorSteps$Sum" "plus" "[I" : Cond) ∈ wsX1_clear := by decide +kernel
theorem kw_S_clear_1 : (.fieldLink RX1 19 "MinorSteps$Sum" "minus" "[I" : Cond) ∈ wsX1_clear := by decide +kernel
theorem kw_S_clear_2 : (.fieldLink RX1 31 "MinorSteps$Sum" "sign" "I" : Cond) ∈ wsX1_clear := by decide +kernel
theorem kw_S_clear_3 : (.fieldLink RX1 34 "MinorSteps$Sum" "length" "I" : Cond) ∈ wsX1_clear := by decide +kernel
theorem ki_S_clear_X1 : ∀ w ∈ u_ws RX1 TX1 6, w ∈ wsX1_clear := by decide +kernel
set_option maxHeartbeats 4000000 in
set_option maxRecDepth 100000 in
theorem c_S_clear (l : Launch) (dC : Nat → ClassId) (dI : Nat → Nat → Nat) (cA : ClassId) (sz : Nat) (q_t : Nat) (q_t_plus : Nat) (q_t_minus : Nat) (q_t_divisor : Nat) (k : Nat) (t_room : Int32) (t_sign : Int32) (t_length : Int32) (n_t_plus : Nat) (a_t_plus : Nat → Int32) (n_t_minus : Nat) (a_t_minus : Nat → Int32) (n_t_divisor : Nat) (a_t_divisor : Nat → Int32) (o : Int32 × Int32 × (Nat → Int32) × (Nat → Int32)) (hf : f_S_clear k n_t_plus a_t_plus n_t_minus a_t_minus = some o) : Met l yX1_clear wsX1_clear rm_S_clear (c_Pre (dC, dI) vwCl [(cA, .int)] [(q_t, .inr (1, [.int t_room, .ref q_t_plus, .ref q_t_minus, .ref q_t_divisor, .int t_sign, .int t_length])), (q_t_plus, .inl (cA, n_t_plus, .inl a_t_plus)), (q_t_minus, .inl (cA, n_t_minus, .inl a_t_minus)), (q_t_divisor, .inl (cA, n_t_divisor, .inl a_t_divisor))] sz [.ref q_t]) (c_Qv (dC, dI) vwCl [(cA, .int)] [(q_t, .inr (1, [.int t_room, .ref q_t_plus, .ref q_t_minus, .ref q_t_divisor, .int o.1, .int o.2.1])), (q_t_plus, .inl (cA, n_t_plus, .inl o.2.2.1)), (q_t_minus, .inl (cA, n_t_minus, .inl o.2.2.2)), (q_t_divisor, .inl (cA, n_t_divisor, .inl a_t_divisor))] (va_A [(q_t, .inr (1, [.int t_room, .ref q_t_plus, .ref q_t_minus, .ref q_t_divisor, .int t_sign, .int t_length])), (q_t_plus, .inl (cA, n_t_plus, .inl a_t_plus)), (q_t_minus, .inl (cA, n_t_minus, .inl a_t_minus)), (q_t_divisor, .inl (cA, n_t_divisor, .inl a_t_divisor))] sz)) 0 0 (va_A [(q_t, .inr (1, [.int t_room, .ref q_t_plus, .ref q_t_minus, .ref q_t_divisor, .int t_sign, .int t_length])), (q_t_plus, .inl (cA, n_t_plus, .inl a_t_plus)), (q_t_minus, .inl (cA, n_t_minus, .inl a_t_minus)), (q_t_divisor, .inl (cA, n_t_divisor, .inl a_t_divisor))] sz) := by
  unfold f_S_clear at hf
  refine k_ent (Qc := fun A => c_Qv (dC, dI) vwCl [(cA, .int)] [(q_t, .inr (1, [.int t_room, .ref q_t_plus, .ref q_t_minus, .ref q_t_divisor, .int o.1, .int o.2.1])), (q_t_plus, .inl (cA, n_t_plus, .inl o.2.2.1)), (q_t_minus, .inl (cA, n_t_minus, .inl o.2.2.2)), (q_t_divisor, .inl (cA, n_t_divisor, .inl a_t_divisor))] A) (by decide) rfl (Nat.le_of_ble_eq_true rfl) ?_
  intro p e s m below meth c A hx hb hr hown hts hml hlocks hin hsz hA hK H locs hP hD hS ls hl
  have hown : s.vm.findClass RX1 = some m.cls := hown
  have hl : lv_has ls 1 [(0, .ref q_t)] := hl
  refine lv_aload_n hx hb dX1_clear_0 rfl (lv_at hl 0 rfl) ?_
  refine va_get (D := (dC, dI)) (ci := 1) (v := .ref q_t_plus) (C := RX1) (T := TX1) (N := 6) hx hb hts ki_S_clear_X1 hown hK hP 0 rfl rfl 1 (by decide) (hts (.fieldLink RX1 15 "MinorSteps$Sum" "plus" "[I") kw_S_clear_0) (fun _ h9 => h9) rfl dX1_clear_1 ?_
  refine lv_iconst (v := 0) hx hb dX1_clear_4 (by decide) ?_
  obtain ⟨x1, g2, hf⟩ := og_b hf
  refine kc_v (wr := [(q_t, .inr (1, [.int t_room, .ref q_t_plus, .ref q_t_minus, .ref q_t_divisor, .int t_sign, .int t_length])), (q_t_minus, .inl (cA, n_t_minus, .inl a_t_minus)), (q_t_divisor, .inl (cA, n_t_divisor, .inl a_t_divisor))]) (w1 := [(q_t_plus, .inl (cA, n_t_plus, .inl x1))]) [1] [0, 2, 3] (va_runS (As := [.ref q_t_plus, .int 0]) (rest := []) ⟨hx, hb, hml, hown, hts⟩ (c_fill l dC dI cA H.size q_t_plus k n_t_plus a_t_plus (0 : Int32) x1 g2) (va_cwS 2 hts gX1_clear_J7_fill_53178 rfl rfl rfl (by decide +kernel) ⟨Nat.le_of_ble_eq_true rfl, Nat.le_of_ble_eq_true rfl⟩) (kc_preS hP hD hK [1] rfl rfl (by decide)) rfl rfl hl.1 rfl (lv_room (Nat.le_of_ble_eq_true rfl)) dX1_clear_5 ⟨Nat.le_of_ble_eq_true rfl, Nat.le_of_ble_eq_true rfl⟩) hP hD hS hA rfl rfl (by decide) (by decide) (fun H locs hP hD hS => ?_)
  have hP : va_P (dC, dI) vwCl [(q_t, .inr (1, [.int t_room, .ref q_t_plus, .ref q_t_minus, .ref q_t_divisor, .int t_sign, .int t_length])), (q_t_minus, .inl (cA, n_t_minus, .inl a_t_minus)), (q_t_divisor, .inl (cA, n_t_divisor, .inl a_t_divisor)), (q_t_plus, .inl (cA, n_t_plus, .inl x1))] H := hP
  have hD : va_D A [(q_t, .inr (1, [.int t_room, .ref q_t_plus, .ref q_t_minus, .ref q_t_divisor, .int t_sign, .int t_length])), (q_t_minus, .inl (cA, n_t_minus, .inl a_t_minus)), (q_t_divisor, .inl (cA, n_t_divisor, .inl a_t_divisor)), (q_t_plus, .inl (cA, n_t_plus, .inl x1))] := hD
  refine lv_aload_n hx hb dX1_clear_8 rfl (lv_at hl 0 rfl) ?_
  refine va_get (D := (dC, dI)) (ci := 1) (v := .ref q_t_minus) (C := RX1) (T := TX1) (N := 6) hx hb hts ki_S_clear_X1 hown hK hP 0 rfl rfl 2 (by decide) (hts (.fieldLink RX1 19 "MinorSteps$Sum" "minus" "[I") kw_S_clear_1) (fun _ h9 => h9) rfl dX1_clear_9 ?_
  refine lv_iconst (v := 0) hx hb dX1_clear_12 (by decide) ?_
  obtain ⟨x3, g4, hf⟩ := og_b hf
  refine kc_v (wr := [(q_t, .inr (1, [.int t_room, .ref q_t_plus, .ref q_t_minus, .ref q_t_divisor, .int t_sign, .int t_length])), (q_t_divisor, .inl (cA, n_t_divisor, .inl a_t_divisor)), (q_t_plus, .inl (cA, n_t_plus, .inl x1))]) (w1 := [(q_t_minus, .inl (cA, n_t_minus, .inl x3))]) [1] [0, 2, 3] (va_runS (As := [.ref q_t_minus, .int 0]) (rest := []) ⟨hx, hb, hml, hown, hts⟩ (c_fill l dC dI cA H.size q_t_minus k n_t_minus a_t_minus (0 : Int32) x3 g4) (va_cwS 2 hts gX1_clear_J7_fill_53178 rfl rfl rfl (by decide +kernel) ⟨Nat.le_of_ble_eq_true rfl, Nat.le_of_ble_eq_true rfl⟩) (kc_preS hP hD hK [1] rfl rfl (by decide)) rfl rfl hl.1 rfl (lv_room (Nat.le_of_ble_eq_true rfl)) dX1_clear_13 ⟨Nat.le_of_ble_eq_true rfl, Nat.le_of_ble_eq_true rfl⟩) hP hD hS hA rfl rfl (by decide) (by decide) (fun H locs hP hD hS => ?_)
  have hP : va_P (dC, dI) vwCl [(q_t, .inr (1, [.int t_room, .ref q_t_plus, .ref q_t_minus, .ref q_t_divisor, .int t_sign, .int t_length])), (q_t_divisor, .inl (cA, n_t_divisor, .inl a_t_divisor)), (q_t_plus, .inl (cA, n_t_plus, .inl x1)), (q_t_minus, .inl (cA, n_t_minus, .inl x3))] H := hP
  have hD : va_D A [(q_t, .inr (1, [.int t_room, .ref q_t_plus, .ref q_t_minus, .ref q_t_divisor, .int t_sign, .int t_length])), (q_t_divisor, .inl (cA, n_t_divisor, .inl a_t_divisor)), (q_t_plus, .inl (cA, n_t_plus, .inl x1)), (q_t_minus, .inl (cA, n_t_minus, .inl x3))] := hD
  refine lv_aload_n hx hb dX1_clear_16 rfl (lv_at hl 0 rfl) ?_
  refine lv_iconst (v := 0) hx hb dX1_clear_17 (by decide) ?_
  refine va_put (D := (dC, dI)) (ci := 1) (v := .int 0) (ty := .int) (C := RX1) (T := TX1) (N := 6) hx hb hts ki_S_clear_X1 tyX1 tyX1_ok nmX1 hown hK hP hD hS 0 rfl rfl 4 (by decide) (hts (.fieldLink RX1 31 "MinorSteps$Sum" "sign" "I") kw_S_clear_2) (fun _ h9 => h9) rfl (by decide +kernel) rfl rfl (Nat.le_of_ble_eq_true rfl) dX1_clear_18 (fun H locs hP hD hS => ?_)
  have hP : va_P (dC, dI) vwCl [(q_t, .inr (1, [.int t_room, .ref q_t_plus, .ref q_t_minus, .ref q_t_divisor, .int 0, .int t_length])), (q_t_divisor, .inl (cA, n_t_divisor, .inl a_t_divisor)), (q_t_plus, .inl (cA, n_t_plus, .inl x1)), (q_t_minus, .inl (cA, n_t_minus, .inl x3))] H := hP
  have hD : va_D A [(q_t, .inr (1, [.int t_room, .ref q_t_plus, .ref q_t_minus, .ref q_t_divisor, .int 0, .int t_length])), (q_t_divisor, .inl (cA, n_t_divisor, .inl a_t_divisor)), (q_t_plus, .inl (cA, n_t_plus, .inl x1)), (q_t_minus, .inl (cA, n_t_minus, .inl x3))] := hD
  refine lv_aload_n hx hb dX1_clear_21 rfl (lv_at hl 0 rfl) ?_
  refine lv_iconst (v := 0) hx hb dX1_clear_22 (by decide) ?_
  refine va_put (D := (dC, dI)) (ci := 1) (v := .int 0) (ty := .int) (C := RX1) (T := TX1) (N := 6) hx hb hts ki_S_clear_X1 tyX1 tyX1_ok nmX1 hown hK hP hD hS 0 rfl rfl 5 (by decide) (hts (.fieldLink RX1 34 "MinorSteps$Sum" "length" "I") kw_S_clear_3) (fun _ h9 => h9) rfl (by decide +kernel) rfl rfl (Nat.le_of_ble_eq_true rfl) dX1_clear_23 (fun H locs hP hD hS => ?_)
  have hP : va_P (dC, dI) vwCl [(q_t, .inr (1, [.int t_room, .ref q_t_plus, .ref q_t_minus, .ref q_t_divisor, .int 0, .int 0])), (q_t_divisor, .inl (cA, n_t_divisor, .inl a_t_divisor)), (q_t_plus, .inl (cA, n_t_plus, .inl x1)), (q_t_minus, .inl (cA, n_t_minus, .inl x3))] H := hP
  have hD : va_D A [(q_t, .inr (1, [.int t_room, .ref q_t_plus, .ref q_t_minus, .ref q_t_divisor, .int 0, .int 0])), (q_t_divisor, .inl (cA, n_t_divisor, .inl a_t_divisor)), (q_t_plus, .inl (cA, n_t_plus, .inl x1)), (q_t_minus, .inl (cA, n_t_minus, .inl x3))] := hD
  have e9 := Option.some.inj hf
  subst e9
  exact kr_v hx hb hr hlocks hK hS (hP.sub [0, 2, 3, 1] rfl) (hD.sub [0, 2, 3, 1] (by decide) rfl) dX1_clear_26
def rm_S_addMultiple : Room := { frames := 1, cells := 0, slots := 0, locals := 22 }
theorem kw_S_addMultiple_0 : (.constantLong RX1 54 2147483647 : Cond) ∈ wsX1_addMultiple := by decide +kernel
set_option maxHeartbeats 4000000 in
set_option maxRecDepth 100000 in
theorem w_S_addMultiple_L13 {p : Program} {l : Launch} {e : Env} {s : State} {m : MethodId} {args : Array Value} {below : List Frame} {meth : Method} {c : Code} {Q : State → Prop} {A : Nat → Prop} {H0 : Heap} {dC : Nat → ClassId} {dI : Nat → Nat → Nat} {cA : ClassId} (hx : p.tables.exec = Jvm.exec) (hb : c.code = cX1_addMultiple) (hown : s.vm.findClass RX1 = some m.cls) (hts : ∀ w ∈ wsX1_addMultiple, w.before args s = true) (hml : c.maxLocals = 10) (hA : ∀ q, H0.size ≤ q → A q) (hK : va_K (dC, dI) vwCl [(cA, .int)] s) (k : Nat) (q_row : Nat) (q_b : Nat) (q_b_signs : Nat) (q_b_lengths : Nat) (q_b_limbs : Nat) (v1 : Int32) (v3 : Int32) (v4 : Int64) (v6 : Int32) (n_row : Nat) (i0_b : Int32) (n_b_signs : Nat) (a_b_signs : Nat → Int32) (n_b_lengths : Nat) (a_b_lengths : Nat → Int32) (n_b_limbs : Nat) (a_b_limbs : Nat → Int32) : ∀ (j : Nat) (v7 : Int64) (v9 : Int32) (a_row : Nat → Int32) (o : Int64 × Int32 × (Nat → Int32)), f_S_addMultiple_L13 k v1 v3 v4 v6 n_row i0_b n_b_limbs a_b_limbs j v7 v9 a_row = some o → ∀ (H : Heap) (locs : List Loc), va_P (dC, dI) vwCl [(q_row, .inl (cA, n_row, .inl a_row)), (q_b, .inr (0, [.int i0_b, .ref q_b_signs, .ref q_b_lengths, .ref q_b_limbs])), (q_b_signs, .inl (cA, n_b_signs, .inl a_b_signs)), (q_b_lengths, .inl (cA, n_b_lengths, .inl a_b_lengths)), (q_b_limbs, .inl (cA, n_b_limbs, .inl a_b_limbs))] H → va_D A [(q_row, .inl (cA, n_row, .inl a_row)), (q_b, .inr (0, [.int i0_b, .ref q_b_signs, .ref q_b_lengths, .ref q_b_limbs])), (q_b_signs, .inl (cA, n_b_signs, .inl a_b_signs)), (q_b_lengths, .inl (cA, n_b_lengths, .inl a_b_lengths)), (q_b_limbs, .inl (cA, n_b_limbs, .inl a_b_limbs))] → va_S A H0 H locs → ∀ ls : Array Slot, lv_has ls 10 [(0, .ref q_row), (1, .int v1), (2, .ref q_b), (3, .int v3), (4, .long v4), (6, .int v6), (7, .long v7), (9, .int v9)] → ∀ (he : ∀ (H : Heap) (locs : List Loc), va_P (dC, dI) vwCl [(q_row, .inl (cA, n_row, .inl o.2.2)), (q_b, .inr (0, [.int i0_b, .ref q_b_signs, .ref q_b_lengths, .ref q_b_limbs])), (q_b_signs, .inl (cA, n_b_signs, .inl a_b_signs)), (q_b_lengths, .inl (cA, n_b_lengths, .inl a_b_lengths)), (q_b_limbs, .inl (cA, n_b_limbs, .inl a_b_limbs))] H → va_D A [(q_row, .inl (cA, n_row, .inl o.2.2)), (q_b, .inr (0, [.int i0_b, .ref q_b_signs, .ref q_b_lengths, .ref q_b_limbs])), (q_b_signs, .inl (cA, n_b_signs, .inl a_b_signs)), (q_b_lengths, .inl (cA, n_b_lengths, .inl a_b_lengths)), (q_b_limbs, .inl (cA, n_b_limbs, .inl a_b_limbs))] → va_S A H0 H locs → ∀ ls : Array Slot, lv_has ls 10 [(0, .ref q_row), (1, .int v1), (6, .int v6), (7, .long o.1)] → W p l e rm_S_addMultiple s m args below meth c H locs 0 0 Q (F0 m 70 ls [])), W p l e rm_S_addMultiple s m args below meth c H locs 0 0 Q (F0 m 13 ls []) := by
  intro j
  induction j with
  | zero =>
    intro v7 v9 a_row o hf
    rw [f_S_addMultiple_L13] at hf
    cases hf
  | succ j ih =>
    intro v7 v9 a_row o hf H locs hP hD hS ls hl he
    rw [f_S_addMultiple_L13] at hf
    refine lv_iload hx hb dX1_addMultiple_13 (lv_at hl 7 rfl) ?_
    refine lv_iload hx hb dX1_addMultiple_15 (lv_at hl 5 rfl) ?_
    refine lv_icmp_ge (tgt := 70) hx hb dX1_addMultiple_17 (by decide) (fun c13 => ?_) (fun c13 => ?_)
    · have hf := og_t c13 hf
      have e9 := Option.some.inj hf
      subst e9
      exact he _ _ (hP.sub [0, 1, 2, 3, 4] rfl) (hD.sub [0, 1, 2, 3, 4] (by decide) rfl) hS _ (lv_sub hl [0, 1, 5, 6] rfl)
    · have hf := og_f c13 hf
      refine lv_lload hx hb dX1_addMultiple_20 (lv_at hl 6 rfl) ?_
      refine lv_aload_n hx hb dX1_addMultiple_22 rfl (lv_at hl 0 rfl) ?_
      refine lv_iload_n hx hb dX1_addMultiple_23 rfl (lv_at hl 1 rfl) ?_
      refine lv_iload hx hb dX1_addMultiple_24 (lv_at hl 7 rfl) ?_
      refine lv_iadd hx hb dX1_addMultiple_26 ?_
      obtain ⟨g14, hf⟩ := og_c hf
      refine va_iald hx hb hK hP 0 0 rfl rfl (og_in g14) dX1_addMultiple_27 ?_
      refine lv_i2l (v := (a_row (v1 + v9).toNatClampNeg).toInt64) hx hb dX1_addMultiple_28 rfl ?_
      refine lv_lload hx hb dX1_addMultiple_29 (lv_at hl 4 rfl) ?_
      refine lv_aload_n hx hb dX1_addMultiple_31 rfl (lv_at hl 2 rfl) ?_
      refine lv_iload_n hx hb dX1_addMultiple_32 rfl (lv_at hl 3 rfl) ?_
      refine lv_iload hx hb dX1_addMultiple_33 (lv_at hl 7 rfl) ?_
      obtain ⟨x15, g16, hf⟩ := og_b hf
      refine kc_i (wr := [(q_row, .inl (cA, n_row, .inl a_row))]) (w1 := [(q_b, .inr (0, [.int i0_b, .ref q_b_signs, .ref q_b_lengths, .ref q_b_limbs])), (q_b_signs, .inl (cA, n_b_signs, .inl a_b_signs)), (q_b_lengths, .inl (cA, n_b_lengths, .inl a_b_lengths)), (q_b_limbs, .inl (cA, n_b_limbs, .inl a_b_limbs))]) [1, 2, 3, 4] [0] (va_runV (As := [.int v3, .int v9]) (rest := [.long v4, .long ((a_row (v1 + v9).toNatClampNeg).toInt64), .long v7]) ⟨hx, hb, hml, hown, hts⟩ (c_N_limbOf l dC dI cA H.size q_b q_b_signs q_b_lengths q_b_limbs i0_b n_b_signs a_b_signs n_b_lengths a_b_lengths n_b_limbs a_b_limbs v3 v9 x15 g16) (cwV 2 hts gX1_addMultiple_X0_limbOf rfl rfl rfl (by decide +kernel) ⟨Nat.le_of_ble_eq_true rfl, Nat.le_of_ble_eq_true rfl⟩) (kc_preV hP hD hK [1, 2, 3, 4] rfl rfl (by decide) (ci := 0) (q0 := 1) rfl rfl) rfl rfl hl.1 rfl (lv_room (Nat.le_of_ble_eq_true rfl)) dX1_addMultiple_35 ⟨Nat.le_of_ble_eq_true rfl, Nat.le_of_ble_eq_true rfl⟩) hP hD hS hA rfl rfl (by decide) (by decide) (fun H locs hP hD hS => ?_)
      have hP : va_P (dC, dI) vwCl [(q_row, .inl (cA, n_row, .inl a_row)), (q_b, .inr (0, [.int i0_b, .ref q_b_signs, .ref q_b_lengths, .ref q_b_limbs])), (q_b_signs, .inl (cA, n_b_signs, .inl a_b_signs)), (q_b_lengths, .inl (cA, n_b_lengths, .inl a_b_lengths)), (q_b_limbs, .inl (cA, n_b_limbs, .inl a_b_limbs))] H := hP
      have hD : va_D A [(q_row, .inl (cA, n_row, .inl a_row)), (q_b, .inr (0, [.int i0_b, .ref q_b_signs, .ref q_b_lengths, .ref q_b_limbs])), (q_b_signs, .inl (cA, n_b_signs, .inl a_b_signs)), (q_b_lengths, .inl (cA, n_b_lengths, .inl a_b_lengths)), (q_b_limbs, .inl (cA, n_b_limbs, .inl a_b_limbs))] := hD
      refine lv_i2l (v := x15.toInt64) hx hb dX1_addMultiple_38 rfl ?_
      refine lv_lmul hx hb dX1_addMultiple_39 ?_
      refine lv_ladd hx hb dX1_addMultiple_40 ?_
      refine lv_ladd hx hb dX1_addMultiple_41 ?_
      refine lv_lstore (lv' := [(7, .long (v7 + (((a_row (v1 + v9).toNatClampNeg).toInt64) + (v4 * x15.toInt64)))), (0, .ref q_row), (1, .int v1), (2, .ref q_b), (3, .int v3), (4, .long v4), (6, .int v6), (9, .int v9)]) hx hb dX1_addMultiple_42 hl (by decide) rfl (fun ls hl => ?_)
      refine lv_aload_n hx hb dX1_addMultiple_44 rfl (lv_at hl 1 rfl) ?_
      refine lv_iload_n hx hb dX1_addMultiple_45 rfl (lv_at hl 2 rfl) ?_
      refine lv_iload hx hb dX1_addMultiple_46 (lv_at hl 7 rfl) ?_
      refine lv_iadd hx hb dX1_addMultiple_48 ?_
      refine lv_lload hx hb dX1_addMultiple_49 (lv_at hl 0 rfl) ?_
      refine lv_ldc2 (v := 2147483647) hx hb hown (hts (.constantLong RX1 54 2147483647) kw_S_addMultiple_0) dX1_addMultiple_51 ?_
      refine lv_land hx hb dX1_addMultiple_54 ?_
      refine lv_l2i (v := ((v7 + (((a_row (v1 + v9).toNatClampNeg).toInt64) + (v4 * x15.toInt64))) &&& 2147483647).toInt32) hx hb dX1_addMultiple_55 rfl ?_
      obtain ⟨g17, hf⟩ := og_c hf
      refine va_iast hx hb hK hP hD hS 0 0 rfl rfl (og_in g17) dX1_addMultiple_56 (fun H locs hP hD hS => ?_)
      have hP : va_P (dC, dI) vwCl [(q_row, .inl (cA, n_row, .inl (upd a_row (v1 + v9).toNatClampNeg (((v7 + (((a_row (v1 + v9).toNatClampNeg).toInt64) + (v4 * x15.toInt64))) &&& 2147483647).toInt32)))), (q_b, .inr (0, [.int i0_b, .ref q_b_signs, .ref q_b_lengths, .ref q_b_limbs])), (q_b_signs, .inl (cA, n_b_signs, .inl a_b_signs)), (q_b_lengths, .inl (cA, n_b_lengths, .inl a_b_lengths)), (q_b_limbs, .inl (cA, n_b_limbs, .inl a_b_limbs))] H := hP
      have hD : va_D A [(q_row, .inl (cA, n_row, .inl (upd a_row (v1 + v9).toNatClampNeg (((v7 + (((a_row (v1 + v9).toNatClampNeg).toInt64) + (v4 * x15.toInt64))) &&& 2147483647).toInt32)))), (q_b, .inr (0, [.int i0_b, .ref q_b_signs, .ref q_b_lengths, .ref q_b_limbs])), (q_b_signs, .inl (cA, n_b_signs, .inl a_b_signs)), (q_b_lengths, .inl (cA, n_b_lengths, .inl a_b_lengths)), (q_b_limbs, .inl (cA, n_b_limbs, .inl a_b_limbs))] := hD
      refine lv_lload hx hb dX1_addMultiple_57 (lv_at hl 0 rfl) ?_
      refine lv_bipush (v := 31) hx hb dX1_addMultiple_59 (by decide) ?_
      refine lv_lshr (v := (v7 + (((a_row (v1 + v9).toNatClampNeg).toInt64) + (v4 * x15.toInt64))) >>> ((31 : Int32).toInt64 &&& 63)) hx hb dX1_addMultiple_61 rfl ?_
      refine lv_lstore (lv' := [(7, .long ((v7 + (((a_row (v1 + v9).toNatClampNeg).toInt64) + (v4 * x15.toInt64))) >>> ((31 : Int32).toInt64 &&& 63))), (0, .ref q_row), (1, .int v1), (2, .ref q_b), (3, .int v3), (4, .long v4), (6, .int v6), (9, .int v9)]) hx hb dX1_addMultiple_62 hl (by decide) rfl (fun ls hl => ?_)
      refine lv_iinc (v := v9 + 1) (lv' := [(9, .int (v9 + 1)), (7, .long ((v7 + (((a_row (v1 + v9).toNatClampNeg).toInt64) + (v4 * x15.toInt64))) >>> ((31 : Int32).toInt64 &&& 63))), (0, .ref q_row), (1, .int v1), (2, .ref q_b), (3, .int v3), (4, .long v4), (6, .int v6)]) hx hb dX1_addMultiple_64 hl (k := 7) rfl rfl (by decide) rfl (fun ls hl => ?_)
      refine lv_goto (tgt := 13) hx hb dX1_addMultiple_67 (by decide) ?_
      exact ih ((v7 + (((a_row (v1 + v9).toNatClampNeg).toInt64) + (v4 * x15.toInt64))) >>> ((31 : Int32).toInt64 &&& 63)) (v9 + 1) (upd a_row (v1 + v9).toNatClampNeg (((v7 + (((a_row (v1 + v9).toNatClampNeg).toInt64) + (v4 * x15.toInt64))) &&& 2147483647).toInt32)) _ hf _ _ (hP.sub [0, 1, 2, 3, 4] rfl) (hD.sub [0, 1, 2, 3, 4] (by decide) rfl) hS _ (lv_sub hl [2, 3, 4, 5, 6, 7, 1, 0] rfl) he
set_option maxHeartbeats 4000000 in
set_option maxRecDepth 100000 in
theorem w_S_addMultiple_L76 {p : Program} {l : Launch} {e : Env} {s : State} {m : MethodId} {args : Array Value} {below : List Frame} {meth : Method} {c : Code} {Q : State → Prop} {A : Nat → Prop} {H0 : Heap} {dC : Nat → ClassId} {dI : Nat → Nat → Nat} {cA : ClassId} (hx : p.tables.exec = Jvm.exec) (hb : c.code = cX1_addMultiple) (hown : s.vm.findClass RX1 = some m.cls) (hts : ∀ w ∈ wsX1_addMultiple, w.before args s = true) (hml : c.maxLocals = 10) (hA : ∀ q, H0.size ≤ q → A q) (hK : va_K (dC, dI) vwCl [(cA, .int)] s) (k : Nat) (q_row : Nat) (q_b : Nat) (q_b_signs : Nat) (q_b_lengths : Nat) (q_b_limbs : Nat) (n_row : Nat) (i0_b : Int32) (n_b_signs : Nat) (a_b_signs : Nat → Int32) (n_b_lengths : Nat) (a_b_lengths : Nat → Int32) (n_b_limbs : Nat) (a_b_limbs : Nat → Int32) : ∀ (j : Nat) (v7 : Int64) (v9 : Int32) (a_row : Nat → Int32) (o : Int64 × Int32 × (Nat → Int32)), f_S_addMultiple_L76 k n_row j v7 v9 a_row = some o → ∀ (H : Heap) (locs : List Loc), va_P (dC, dI) vwCl [(q_row, .inl (cA, n_row, .inl a_row)), (q_b, .inr (0, [.int i0_b, .ref q_b_signs, .ref q_b_lengths, .ref q_b_limbs])), (q_b_signs, .inl (cA, n_b_signs, .inl a_b_signs)), (q_b_lengths, .inl (cA, n_b_lengths, .inl a_b_lengths)), (q_b_limbs, .inl (cA, n_b_limbs, .inl a_b_limbs))] H → va_D A [(q_row, .inl (cA, n_row, .inl a_row)), (q_b, .inr (0, [.int i0_b, .ref q_b_signs, .ref q_b_lengths, .ref q_b_limbs])), (q_b_signs, .inl (cA, n_b_signs, .inl a_b_signs)), (q_b_lengths, .inl (cA, n_b_lengths, .inl a_b_lengths)), (q_b_limbs, .inl (cA, n_b_limbs, .inl a_b_limbs))] → va_S A H0 H locs → ∀ ls : Array Slot, lv_has ls 10 [(0, .ref q_row), (7, .long v7), (9, .int v9)] → ∀ (he : ∀ (H : Heap) (locs : List Loc), va_P (dC, dI) vwCl [(q_row, .inl (cA, n_row, .inl o.2.2)), (q_b, .inr (0, [.int i0_b, .ref q_b_signs, .ref q_b_lengths, .ref q_b_limbs])), (q_b_signs, .inl (cA, n_b_signs, .inl a_b_signs)), (q_b_lengths, .inl (cA, n_b_lengths, .inl a_b_lengths)), (q_b_limbs, .inl (cA, n_b_limbs, .inl a_b_limbs))] H → va_D A [(q_row, .inl (cA, n_row, .inl o.2.2)), (q_b, .inr (0, [.int i0_b, .ref q_b_signs, .ref q_b_lengths, .ref q_b_limbs])), (q_b_signs, .inl (cA, n_b_signs, .inl a_b_signs)), (q_b_lengths, .inl (cA, n_b_lengths, .inl a_b_lengths)), (q_b_limbs, .inl (cA, n_b_limbs, .inl a_b_limbs))] → va_S A H0 H locs → ∀ ls : Array Slot, lv_has ls 10 [] → W p l e rm_S_addMultiple s m args below meth c H locs 0 0 Q (F0 m 124 ls [])), W p l e rm_S_addMultiple s m args below meth c H locs 0 0 Q (F0 m 76 ls []) := by
  intro j
  induction j with
  | zero =>
    intro v7 v9 a_row o hf
    rw [f_S_addMultiple_L76] at hf
    cases hf
  | succ j ih =>
    intro v7 v9 a_row o hf H locs hP hD hS ls hl he
    rw [f_S_addMultiple_L76] at hf
    refine lv_lload hx hb dX1_addMultiple_76 (lv_at hl 1 rfl) ?_
    refine lv_lconst (v := 0) hx hb dX1_addMultiple_78 (by decide) ?_
    refine W.lcmp hx hb dX1_addMultiple_79 ?_
    refine lv_if_eq (tgt := 124) hx hb dX1_addMultiple_80 (by decide) (fun c28 => ?_) (fun c28 => ?_)
    · have hf := og_t c28 hf
      have e9 := Option.some.inj hf
      subst e9
      exact he _ _ (hP.sub [0, 1, 2, 3, 4] rfl) (hD.sub [0, 1, 2, 3, 4] (by decide) rfl) hS _ (lv_sub hl [] rfl)
    · have hf := og_f c28 hf
      refine lv_iload hx hb dX1_addMultiple_83 (lv_at hl 2 rfl) ?_
      refine lv_aload_n hx hb dX1_addMultiple_85 rfl (lv_at hl 0 rfl) ?_
      refine va_alen hx hb hK hP 0 0 rfl rfl (v := nI n_row) rfl dX1_addMultiple_86 ?_
      refine lv_icmp_ge (tgt := 124) hx hb dX1_addMultiple_87 (by decide) (fun c29 => ?_) (fun c29 => ?_)
      · have hf := og_t c29 hf
        have e9 := Option.some.inj hf
        subst e9
        exact he _ _ (hP.sub [0, 1, 2, 3, 4] rfl) (hD.sub [0, 1, 2, 3, 4] (by decide) rfl) hS _ (lv_sub hl [] rfl)
      · have hf := og_f c29 hf
        refine lv_lload hx hb dX1_addMultiple_90 (lv_at hl 1 rfl) ?_
        refine lv_aload_n hx hb dX1_addMultiple_92 rfl (lv_at hl 0 rfl) ?_
        refine lv_iload hx hb dX1_addMultiple_93 (lv_at hl 2 rfl) ?_
        obtain ⟨g30, hf⟩ := og_c hf
        refine va_iald hx hb hK hP 0 0 rfl rfl (og_in g30) dX1_addMultiple_95 ?_
        refine lv_i2l (v := (a_row v9.toNatClampNeg).toInt64) hx hb dX1_addMultiple_96 rfl ?_
        refine lv_ladd hx hb dX1_addMultiple_97 ?_
        refine lv_lstore (lv' := [(7, .long (v7 + ((a_row v9.toNatClampNeg).toInt64))), (0, .ref q_row), (9, .int v9)]) hx hb dX1_addMultiple_98 hl (by decide) rfl (fun ls hl => ?_)
        refine lv_aload_n hx hb dX1_addMultiple_100 rfl (lv_at hl 1 rfl) ?_
        refine lv_iload hx hb dX1_addMultiple_101 (lv_at hl 2 rfl) ?_
        refine lv_lload hx hb dX1_addMultiple_103 (lv_at hl 0 rfl) ?_
        refine lv_ldc2 (v := 2147483647) hx hb hown (hts (.constantLong RX1 54 2147483647) kw_S_addMultiple_0) dX1_addMultiple_105 ?_
        refine lv_land hx hb dX1_addMultiple_108 ?_
        refine lv_l2i (v := ((v7 + ((a_row v9.toNatClampNeg).toInt64)) &&& 2147483647).toInt32) hx hb dX1_addMultiple_109 rfl ?_
        obtain ⟨g31, hf⟩ := og_c hf
        refine va_iast hx hb hK hP hD hS 0 0 rfl rfl (og_in g31) dX1_addMultiple_110 (fun H locs hP hD hS => ?_)
        have hP : va_P (dC, dI) vwCl [(q_row, .inl (cA, n_row, .inl (upd a_row v9.toNatClampNeg (((v7 + ((a_row v9.toNatClampNeg).toInt64)) &&& 2147483647).toInt32)))), (q_b, .inr (0, [.int i0_b, .ref q_b_signs, .ref q_b_lengths, .ref q_b_limbs])), (q_b_signs, .inl (cA, n_b_signs, .inl a_b_signs)), (q_b_lengths, .inl (cA, n_b_lengths, .inl a_b_lengths)), (q_b_limbs, .inl (cA, n_b_limbs, .inl a_b_limbs))] H := hP
        have hD : va_D A [(q_row, .inl (cA, n_row, .inl (upd a_row v9.toNatClampNeg (((v7 + ((a_row v9.toNatClampNeg).toInt64)) &&& 2147483647).toInt32)))), (q_b, .inr (0, [.int i0_b, .ref q_b_signs, .ref q_b_lengths, .ref q_b_limbs])), (q_b_signs, .inl (cA, n_b_signs, .inl a_b_signs)), (q_b_lengths, .inl (cA, n_b_lengths, .inl a_b_lengths)), (q_b_limbs, .inl (cA, n_b_limbs, .inl a_b_limbs))] := hD
        refine lv_lload hx hb dX1_addMultiple_111 (lv_at hl 0 rfl) ?_
        refine lv_bipush (v := 31) hx hb dX1_addMultiple_113 (by decide) ?_
        refine lv_lshr (v := (v7 + ((a_row v9.toNatClampNeg).toInt64)) >>> ((31 : Int32).toInt64 &&& 63)) hx hb dX1_addMultiple_115 rfl ?_
        refine lv_lstore (lv' := [(7, .long ((v7 + ((a_row v9.toNatClampNeg).toInt64)) >>> ((31 : Int32).toInt64 &&& 63))), (0, .ref q_row), (9, .int v9)]) hx hb dX1_addMultiple_116 hl (by decide) rfl (fun ls hl => ?_)
        refine lv_iinc (v := v9 + 1) (lv' := [(9, .int (v9 + 1)), (7, .long ((v7 + ((a_row v9.toNatClampNeg).toInt64)) >>> ((31 : Int32).toInt64 &&& 63))), (0, .ref q_row)]) hx hb dX1_addMultiple_118 hl (k := 2) rfl rfl (by decide) rfl (fun ls hl => ?_)
        refine lv_goto (tgt := 76) hx hb dX1_addMultiple_121 (by decide) ?_
        exact ih ((v7 + ((a_row v9.toNatClampNeg).toInt64)) >>> ((31 : Int32).toInt64 &&& 63)) (v9 + 1) (upd a_row v9.toNatClampNeg (((v7 + ((a_row v9.toNatClampNeg).toInt64)) &&& 2147483647).toInt32)) _ hf _ _ (hP.sub [0, 1, 2, 3, 4] rfl) (hD.sub [0, 1, 2, 3, 4] (by decide) rfl) hS _ (lv_sub hl [2, 1, 0] rfl) he
set_option maxHeartbeats 4000000 in
set_option maxRecDepth 100000 in
theorem c_S_addMultiple (l : Launch) (dC : Nat → ClassId) (dI : Nat → Nat → Nat) (cA : ClassId) (sz : Nat) (q_row : Nat) (q_b : Nat) (q_b_signs : Nat) (q_b_lengths : Nat) (q_b_limbs : Nat) (k : Nat) (n_row : Nat) (a_row : Nat → Int32) (fro : Int32) (b_room : Int32) (n_b_signs : Nat) (a_b_signs : Nat → Int32) (n_b_lengths : Nat) (a_b_lengths : Nat → Int32) (n_b_limbs : Nat) (a_b_limbs : Nat → Int32) (slotB : Int32) (word : Int64) (o : (Nat → Int32)) (hf : f_S_addMultiple k n_row a_row fro b_room n_b_lengths a_b_lengths n_b_limbs a_b_limbs slotB word = some o) : Met l yX1_addMultiple wsX1_addMultiple rm_S_addMultiple (c_Pre (dC, dI) vwCl [(cA, .int)] [(q_row, .inl (cA, n_row, .inl a_row)), (q_b, .inr (0, [.int b_room, .ref q_b_signs, .ref q_b_lengths, .ref q_b_limbs])), (q_b_signs, .inl (cA, n_b_signs, .inl a_b_signs)), (q_b_lengths, .inl (cA, n_b_lengths, .inl a_b_lengths)), (q_b_limbs, .inl (cA, n_b_limbs, .inl a_b_limbs))] sz [.ref q_row, .int fro, .ref q_b, .int slotB, .long word]) (c_Qv (dC, dI) vwCl [(cA, .int)] [(q_row, .inl (cA, n_row, .inl o)), (q_b, .inr (0, [.int b_room, .ref q_b_signs, .ref q_b_lengths, .ref q_b_limbs])), (q_b_signs, .inl (cA, n_b_signs, .inl a_b_signs)), (q_b_lengths, .inl (cA, n_b_lengths, .inl a_b_lengths)), (q_b_limbs, .inl (cA, n_b_limbs, .inl a_b_limbs))] (va_A [(q_row, .inl (cA, n_row, .inl a_row)), (q_b, .inr (0, [.int b_room, .ref q_b_signs, .ref q_b_lengths, .ref q_b_limbs])), (q_b_signs, .inl (cA, n_b_signs, .inl a_b_signs)), (q_b_lengths, .inl (cA, n_b_lengths, .inl a_b_lengths)), (q_b_limbs, .inl (cA, n_b_limbs, .inl a_b_limbs))] sz)) 0 0 (va_A [(q_row, .inl (cA, n_row, .inl a_row)), (q_b, .inr (0, [.int b_room, .ref q_b_signs, .ref q_b_lengths, .ref q_b_limbs])), (q_b_signs, .inl (cA, n_b_signs, .inl a_b_signs)), (q_b_lengths, .inl (cA, n_b_lengths, .inl a_b_lengths)), (q_b_limbs, .inl (cA, n_b_limbs, .inl a_b_limbs))] sz) := by
  unfold f_S_addMultiple at hf
  refine k_ent (Qc := fun A => c_Qv (dC, dI) vwCl [(cA, .int)] [(q_row, .inl (cA, n_row, .inl o)), (q_b, .inr (0, [.int b_room, .ref q_b_signs, .ref q_b_lengths, .ref q_b_limbs])), (q_b_signs, .inl (cA, n_b_signs, .inl a_b_signs)), (q_b_lengths, .inl (cA, n_b_lengths, .inl a_b_lengths)), (q_b_limbs, .inl (cA, n_b_limbs, .inl a_b_limbs))] A) (by decide) rfl (Nat.le_of_ble_eq_true rfl) ?_
  intro p e s m below meth c A hx hb hr hown hts hml hlocks hin hsz hA hK H locs hP hD hS ls hl
  have hown : s.vm.findClass RX1 = some m.cls := hown
  have hl : lv_has ls 10 [(0, .ref q_row), (1, .int fro), (2, .ref q_b), (3, .int slotB), (4, .long word)] := hl
  refine lv_aload_n hx hb dX1_addMultiple_0 rfl (lv_at hl 2 rfl) ?_
  refine lv_iload_n hx hb dX1_addMultiple_1 rfl (lv_at hl 3 rfl) ?_
  obtain ⟨x1, g2, hf⟩ := og_b hf
  refine kc_i (wr := [(q_row, .inl (cA, n_row, .inl a_row))]) (w1 := [(q_b, .inr (0, [.int b_room, .ref q_b_signs, .ref q_b_lengths, .ref q_b_limbs])), (q_b_signs, .inl (cA, n_b_signs, .inl a_b_signs)), (q_b_lengths, .inl (cA, n_b_lengths, .inl a_b_lengths)), (q_b_limbs, .inl (cA, n_b_limbs, .inl a_b_limbs))]) [1, 2, 3, 4] [0] (va_runV (As := [.int slotB]) (rest := []) ⟨hx, hb, hml, hown, hts⟩ (c_N_lengthOf l dC dI cA H.size q_b q_b_signs q_b_lengths q_b_limbs b_room n_b_signs a_b_signs n_b_lengths a_b_lengths n_b_limbs a_b_limbs slotB x1 g2) (cwV 1 hts gX1_addMultiple_X0_lengthOf rfl rfl rfl (by decide +kernel) ⟨Nat.le_of_ble_eq_true rfl, Nat.le_of_ble_eq_true rfl⟩) (kc_preV hP hD hK [1, 2, 3, 4] rfl rfl (by decide) (ci := 0) (q0 := 1) rfl rfl) rfl rfl hl.1 rfl (lv_room (Nat.le_of_ble_eq_true rfl)) dX1_addMultiple_2 ⟨Nat.le_of_ble_eq_true rfl, Nat.le_of_ble_eq_true rfl⟩) hP hD hS hA rfl rfl (by decide) (by decide) (fun H locs hP hD hS => ?_)
  have hP : va_P (dC, dI) vwCl [(q_row, .inl (cA, n_row, .inl a_row)), (q_b, .inr (0, [.int b_room, .ref q_b_signs, .ref q_b_lengths, .ref q_b_limbs])), (q_b_signs, .inl (cA, n_b_signs, .inl a_b_signs)), (q_b_lengths, .inl (cA, n_b_lengths, .inl a_b_lengths)), (q_b_limbs, .inl (cA, n_b_limbs, .inl a_b_limbs))] H := hP
  have hD : va_D A [(q_row, .inl (cA, n_row, .inl a_row)), (q_b, .inr (0, [.int b_room, .ref q_b_signs, .ref q_b_lengths, .ref q_b_limbs])), (q_b_signs, .inl (cA, n_b_signs, .inl a_b_signs)), (q_b_lengths, .inl (cA, n_b_lengths, .inl a_b_lengths)), (q_b_limbs, .inl (cA, n_b_limbs, .inl a_b_limbs))] := hD
  refine lv_istore (lv' := [(6, .int x1), (0, .ref q_row), (1, .int fro), (2, .ref q_b), (3, .int slotB), (4, .long word)]) hx hb dX1_addMultiple_5 hl (by decide) rfl (fun ls hl => ?_)
  refine lv_lconst (v := 0) hx hb dX1_addMultiple_7 (by decide) ?_
  refine lv_lstore (lv' := [(7, .long 0), (6, .int x1), (0, .ref q_row), (1, .int fro), (2, .ref q_b), (3, .int slotB), (4, .long word)]) hx hb dX1_addMultiple_8 hl (by decide) rfl (fun ls hl => ?_)
  refine lv_iconst (v := 0) hx hb dX1_addMultiple_10 (by decide) ?_
  refine lv_istore (lv' := [(9, .int 0), (7, .long 0), (6, .int x1), (0, .ref q_row), (1, .int fro), (2, .ref q_b), (3, .int slotB), (4, .long word)]) hx hb dX1_addMultiple_11 hl (by decide) rfl (fun ls hl => ?_)
  obtain ⟨x18, g19, hf⟩ := og_b hf
  refine w_S_addMultiple_L13 hx hb hown hts hml hA hK k q_row q_b q_b_signs q_b_lengths q_b_limbs fro slotB word x1 n_row b_room n_b_signs a_b_signs n_b_lengths a_b_lengths n_b_limbs a_b_limbs k (0 : Int64) (0 : Int32) a_row _ g19 _ _ (hP.sub [0, 1, 2, 3, 4] rfl) (hD.sub [0, 1, 2, 3, 4] (by decide) rfl) hS _ (lv_sub hl [3, 4, 5, 6, 7, 2, 1, 0] rfl) ?_
  intro H locs hP hD hS ls hl
  refine lv_iload_n hx hb dX1_addMultiple_70 rfl (lv_at hl 1 rfl) ?_
  refine lv_iload hx hb dX1_addMultiple_71 (lv_at hl 5 rfl) ?_
  refine lv_iadd hx hb dX1_addMultiple_73 ?_
  refine lv_istore (lv' := [(9, .int (fro + x1)), (0, .ref q_row), (1, .int fro), (2, .ref q_b), (3, .int slotB), (4, .long word), (6, .int x1), (7, .long x18.1)]) hx hb dX1_addMultiple_74 hl (by decide) rfl (fun ls hl => ?_)
  obtain ⟨x32, g33, hf⟩ := og_b hf
  refine w_S_addMultiple_L76 hx hb hown hts hml hA hK k q_row q_b q_b_signs q_b_lengths q_b_limbs n_row b_room n_b_signs a_b_signs n_b_lengths a_b_lengths n_b_limbs a_b_limbs k x18.1 (fro + x1) x18.2.2 _ g33 _ _ (hP.sub [0, 1, 2, 3, 4] rfl) (hD.sub [0, 1, 2, 3, 4] (by decide) rfl) hS _ (lv_sub hl [1, 7, 0] rfl) ?_
  intro H locs hP hD hS ls hl
  have e9 := Option.some.inj hf
  subst e9
  exact kr_v hx hb hr hlocks hK hS (hP.sub [0, 1, 2, 3, 4] rfl) (hD.sub [0, 1, 2, 3, 4] (by decide) rfl) dX1_addMultiple_124
def rm_S_addProduct : Room := { frames := 2, cells := 0, slots := 0, locals := 51 }
theorem kw_S_addProduct_0 : (.fieldLink RX1 19 "MinorSteps$Sum" "minus" "[I" : Cond) ∈ wsX1_addProduct := by decide +kernel
theorem kw_S_addProduct_1 : (.fieldLink RX1 15 "MinorSteps$Sum" "plus" "[I" : Cond) ∈ wsX1_addProduct := by decide +kernel
theorem ki_S_addProduct_X1 : ∀ w ∈ u_ws RX1 TX1 6, w ∈ wsX1_addProduct := by decide +kernel
set_option maxHeartbeats 4000000 in
set_option maxRecDepth 100000 in
theorem w_S_addProduct_L44 {p : Program} {l : Launch} {e : Env} {s : State} {m : MethodId} {args : Array Value} {below : List Frame} {meth : Method} {c : Code} {Q : State → Prop} {A : Nat → Prop} {H0 : Heap} {dC : Nat → ClassId} {dI : Nat → Nat → Nat} {cA : ClassId} (hx : p.tables.exec = Jvm.exec) (hb : c.code = cX1_addProduct) (hown : s.vm.findClass RX1 = some m.cls) (hts : ∀ w ∈ wsX1_addProduct, w.before args s = true) (hml : c.maxLocals = 9) (hA : ∀ q, H0.size ≤ q → A q) (hK : va_K (dC, dI) vwCl [(cA, .int)] s) (k : Nat) (q_t : Nat) (q_t_plus : Nat) (q_t_minus : Nat) (q_t_divisor : Nat) (q_a : Nat) (q_a_signs : Nat) (q_a_lengths : Nat) (q_a_limbs : Nat) (q_b : Nat) (q_b_signs : Nat) (q_b_lengths : Nat) (q_b_limbs : Nat) (v2 : Int32) (v4 : Int32) (i0_t : Int32) (i4_t : Int32) (i5_t : Int32) (n_t_plus : Nat) (a_t_plus : Nat → Int32) (n_t_minus : Nat) (n_t_divisor : Nat) (a_t_divisor : Nat → Int32) (i0_a : Int32) (n_a_signs : Nat) (a_a_signs : Nat → Int32) (n_a_lengths : Nat) (a_a_lengths : Nat → Int32) (n_a_limbs : Nat) (a_a_limbs : Nat → Int32) (i0_b : Int32) (n_b_signs : Nat) (a_b_signs : Nat → Int32) (n_b_lengths : Nat) (a_b_lengths : Nat → Int32) (n_b_limbs : Nat) (a_b_limbs : Nat → Int32) : ∀ (j : Nat) (v8 : Int32) (a_t_minus : Nat → Int32) (o : Int32 × (Nat → Int32)), f_S_addProduct_L44 k v2 v4 n_t_minus i0_a n_a_lengths a_a_lengths n_a_limbs a_a_limbs i0_b n_b_lengths a_b_lengths n_b_limbs a_b_limbs j v8 a_t_minus = some o → ∀ (H : Heap) (locs : List Loc), va_P (dC, dI) vwCl [(q_t, .inr (1, [.int i0_t, .ref q_t_plus, .ref q_t_minus, .ref q_t_divisor, .int i4_t, .int i5_t])), (q_t_plus, .inl (cA, n_t_plus, .inl a_t_plus)), (q_t_minus, .inl (cA, n_t_minus, .inl a_t_minus)), (q_t_divisor, .inl (cA, n_t_divisor, .inl a_t_divisor)), (q_a, .inr (0, [.int i0_a, .ref q_a_signs, .ref q_a_lengths, .ref q_a_limbs])), (q_a_signs, .inl (cA, n_a_signs, .inl a_a_signs)), (q_a_lengths, .inl (cA, n_a_lengths, .inl a_a_lengths)), (q_a_limbs, .inl (cA, n_a_limbs, .inl a_a_limbs)), (q_b, .inr (0, [.int i0_b, .ref q_b_signs, .ref q_b_lengths, .ref q_b_limbs])), (q_b_signs, .inl (cA, n_b_signs, .inl a_b_signs)), (q_b_lengths, .inl (cA, n_b_lengths, .inl a_b_lengths)), (q_b_limbs, .inl (cA, n_b_limbs, .inl a_b_limbs))] H → va_D A [(q_t, .inr (1, [.int i0_t, .ref q_t_plus, .ref q_t_minus, .ref q_t_divisor, .int i4_t, .int i5_t])), (q_t_plus, .inl (cA, n_t_plus, .inl a_t_plus)), (q_t_minus, .inl (cA, n_t_minus, .inl a_t_minus)), (q_t_divisor, .inl (cA, n_t_divisor, .inl a_t_divisor)), (q_a, .inr (0, [.int i0_a, .ref q_a_signs, .ref q_a_lengths, .ref q_a_limbs])), (q_a_signs, .inl (cA, n_a_signs, .inl a_a_signs)), (q_a_lengths, .inl (cA, n_a_lengths, .inl a_a_lengths)), (q_a_limbs, .inl (cA, n_a_limbs, .inl a_a_limbs)), (q_b, .inr (0, [.int i0_b, .ref q_b_signs, .ref q_b_lengths, .ref q_b_limbs])), (q_b_signs, .inl (cA, n_b_signs, .inl a_b_signs)), (q_b_lengths, .inl (cA, n_b_lengths, .inl a_b_lengths)), (q_b_limbs, .inl (cA, n_b_limbs, .inl a_b_limbs))] → va_S A H0 H locs → ∀ ls : Array Slot, lv_has ls 9 [(1, .ref q_a), (2, .int v2), (3, .ref q_b), (4, .int v4), (7, .ref q_t_minus), (8, .int v8)] → ∀ (he : ∀ (H : Heap) (locs : List Loc), va_P (dC, dI) vwCl [(q_t, .inr (1, [.int i0_t, .ref q_t_plus, .ref q_t_minus, .ref q_t_divisor, .int i4_t, .int i5_t])), (q_t_plus, .inl (cA, n_t_plus, .inl a_t_plus)), (q_t_minus, .inl (cA, n_t_minus, .inl o.2)), (q_t_divisor, .inl (cA, n_t_divisor, .inl a_t_divisor)), (q_a, .inr (0, [.int i0_a, .ref q_a_signs, .ref q_a_lengths, .ref q_a_limbs])), (q_a_signs, .inl (cA, n_a_signs, .inl a_a_signs)), (q_a_lengths, .inl (cA, n_a_lengths, .inl a_a_lengths)), (q_a_limbs, .inl (cA, n_a_limbs, .inl a_a_limbs)), (q_b, .inr (0, [.int i0_b, .ref q_b_signs, .ref q_b_lengths, .ref q_b_limbs])), (q_b_signs, .inl (cA, n_b_signs, .inl a_b_signs)), (q_b_lengths, .inl (cA, n_b_lengths, .inl a_b_lengths)), (q_b_limbs, .inl (cA, n_b_limbs, .inl a_b_limbs))] H → va_D A [(q_t, .inr (1, [.int i0_t, .ref q_t_plus, .ref q_t_minus, .ref q_t_divisor, .int i4_t, .int i5_t])), (q_t_plus, .inl (cA, n_t_plus, .inl a_t_plus)), (q_t_minus, .inl (cA, n_t_minus, .inl o.2)), (q_t_divisor, .inl (cA, n_t_divisor, .inl a_t_divisor)), (q_a, .inr (0, [.int i0_a, .ref q_a_signs, .ref q_a_lengths, .ref q_a_limbs])), (q_a_signs, .inl (cA, n_a_signs, .inl a_a_signs)), (q_a_lengths, .inl (cA, n_a_lengths, .inl a_a_lengths)), (q_a_limbs, .inl (cA, n_a_limbs, .inl a_a_limbs)), (q_b, .inr (0, [.int i0_b, .ref q_b_signs, .ref q_b_lengths, .ref q_b_limbs])), (q_b_signs, .inl (cA, n_b_signs, .inl a_b_signs)), (q_b_lengths, .inl (cA, n_b_lengths, .inl a_b_lengths)), (q_b_limbs, .inl (cA, n_b_limbs, .inl a_b_limbs))] → va_S A H0 H locs → ∀ ls : Array Slot, lv_has ls 9 [] → W p l e rm_S_addProduct s m args below meth c H locs 0 0 Q (F0 m 78 ls [])), W p l e rm_S_addProduct s m args below meth c H locs 0 0 Q (F0 m 44 ls []) := by
  intro j
  induction j with
  | zero =>
    intro v8 a_t_minus o hf
    rw [f_S_addProduct_L44] at hf
    cases hf
  | succ j ih =>
    intro v8 a_t_minus o hf H locs hP hD hS ls hl he
    rw [f_S_addProduct_L44] at hf
    refine lv_iload hx hb dX1_addProduct_44 (lv_at hl 5 rfl) ?_
    refine lv_aload_n hx hb dX1_addProduct_46 rfl (lv_at hl 0 rfl) ?_
    refine lv_iload_n hx hb dX1_addProduct_47 rfl (lv_at hl 1 rfl) ?_
    obtain ⟨x21, g22, hf⟩ := og_b hf
    refine kc_i (wr := [(q_t, .inr (1, [.int i0_t, .ref q_t_plus, .ref q_t_minus, .ref q_t_divisor, .int i4_t, .int i5_t])), (q_t_plus, .inl (cA, n_t_plus, .inl a_t_plus)), (q_t_minus, .inl (cA, n_t_minus, .inl a_t_minus)), (q_t_divisor, .inl (cA, n_t_divisor, .inl a_t_divisor)), (q_b, .inr (0, [.int i0_b, .ref q_b_signs, .ref q_b_lengths, .ref q_b_limbs])), (q_b_signs, .inl (cA, n_b_signs, .inl a_b_signs)), (q_b_lengths, .inl (cA, n_b_lengths, .inl a_b_lengths)), (q_b_limbs, .inl (cA, n_b_limbs, .inl a_b_limbs))]) (w1 := [(q_a, .inr (0, [.int i0_a, .ref q_a_signs, .ref q_a_lengths, .ref q_a_limbs])), (q_a_signs, .inl (cA, n_a_signs, .inl a_a_signs)), (q_a_lengths, .inl (cA, n_a_lengths, .inl a_a_lengths)), (q_a_limbs, .inl (cA, n_a_limbs, .inl a_a_limbs))]) [4, 5, 6, 7] [0, 1, 2, 3, 8, 9, 10, 11] (va_runV (As := [.int v2]) (rest := [.int v8]) ⟨hx, hb, hml, hown, hts⟩ (c_N_lengthOf l dC dI cA H.size q_a q_a_signs q_a_lengths q_a_limbs i0_a n_a_signs a_a_signs n_a_lengths a_a_lengths n_a_limbs a_a_limbs v2 x21 g22) (cwV 1 hts gX1_addProduct_X0_lengthOf rfl rfl rfl (by decide +kernel) ⟨Nat.le_of_ble_eq_true rfl, Nat.le_of_ble_eq_true rfl⟩) (kc_preV hP hD hK [4, 5, 6, 7] rfl rfl (by decide) (ci := 0) (q0 := 4) rfl rfl) rfl rfl hl.1 rfl (lv_room (Nat.le_of_ble_eq_true rfl)) dX1_addProduct_48 ⟨Nat.le_of_ble_eq_true rfl, Nat.le_of_ble_eq_true rfl⟩) hP hD hS hA rfl rfl (by decide) (by decide) (fun H locs hP hD hS => ?_)
    have hP : va_P (dC, dI) vwCl [(q_t, .inr (1, [.int i0_t, .ref q_t_plus, .ref q_t_minus, .ref q_t_divisor, .int i4_t, .int i5_t])), (q_t_plus, .inl (cA, n_t_plus, .inl a_t_plus)), (q_t_minus, .inl (cA, n_t_minus, .inl a_t_minus)), (q_t_divisor, .inl (cA, n_t_divisor, .inl a_t_divisor)), (q_b, .inr (0, [.int i0_b, .ref q_b_signs, .ref q_b_lengths, .ref q_b_limbs])), (q_b_signs, .inl (cA, n_b_signs, .inl a_b_signs)), (q_b_lengths, .inl (cA, n_b_lengths, .inl a_b_lengths)), (q_b_limbs, .inl (cA, n_b_limbs, .inl a_b_limbs)), (q_a, .inr (0, [.int i0_a, .ref q_a_signs, .ref q_a_lengths, .ref q_a_limbs])), (q_a_signs, .inl (cA, n_a_signs, .inl a_a_signs)), (q_a_lengths, .inl (cA, n_a_lengths, .inl a_a_lengths)), (q_a_limbs, .inl (cA, n_a_limbs, .inl a_a_limbs))] H := hP
    have hD : va_D A [(q_t, .inr (1, [.int i0_t, .ref q_t_plus, .ref q_t_minus, .ref q_t_divisor, .int i4_t, .int i5_t])), (q_t_plus, .inl (cA, n_t_plus, .inl a_t_plus)), (q_t_minus, .inl (cA, n_t_minus, .inl a_t_minus)), (q_t_divisor, .inl (cA, n_t_divisor, .inl a_t_divisor)), (q_b, .inr (0, [.int i0_b, .ref q_b_signs, .ref q_b_lengths, .ref q_b_limbs])), (q_b_signs, .inl (cA, n_b_signs, .inl a_b_signs)), (q_b_lengths, .inl (cA, n_b_lengths, .inl a_b_lengths)), (q_b_limbs, .inl (cA, n_b_limbs, .inl a_b_limbs)), (q_a, .inr (0, [.int i0_a, .ref q_a_signs, .ref q_a_lengths, .ref q_a_limbs])), (q_a_signs, .inl (cA, n_a_signs, .inl a_a_signs)), (q_a_lengths, .inl (cA, n_a_lengths, .inl a_a_lengths)), (q_a_limbs, .inl (cA, n_a_limbs, .inl a_a_limbs))] := hD
    refine lv_icmp_ge (tgt := 78) hx hb dX1_addProduct_51 (by decide) (fun c23 => ?_) (fun c23 => ?_)
    · have hf := og_t c23 hf
      have e9 := Option.some.inj hf
      subst e9
      exact he _ _ (hP.sub [0, 1, 2, 3, 8, 9, 10, 11, 4, 5, 6, 7] rfl) (hD.sub [0, 1, 2, 3, 8, 9, 10, 11, 4, 5, 6, 7] (by decide) rfl) hS _ (lv_sub hl [] rfl)
    · have hf := og_f c23 hf
      refine lv_aload hx hb dX1_addProduct_54 (lv_at hl 4 rfl) ?_
      refine lv_iload hx hb dX1_addProduct_56 (lv_at hl 5 rfl) ?_
      refine lv_aload_n hx hb dX1_addProduct_58 rfl (lv_at hl 2 rfl) ?_
      refine lv_iload hx hb dX1_addProduct_59 (lv_at hl 3 rfl) ?_
      refine lv_aload_n hx hb dX1_addProduct_61 rfl (lv_at hl 0 rfl) ?_
      refine lv_iload_n hx hb dX1_addProduct_62 rfl (lv_at hl 1 rfl) ?_
      refine lv_iload hx hb dX1_addProduct_63 (lv_at hl 5 rfl) ?_
      obtain ⟨x24, g25, hf⟩ := og_b hf
      refine kc_i (wr := [(q_t, .inr (1, [.int i0_t, .ref q_t_plus, .ref q_t_minus, .ref q_t_divisor, .int i4_t, .int i5_t])), (q_t_plus, .inl (cA, n_t_plus, .inl a_t_plus)), (q_t_minus, .inl (cA, n_t_minus, .inl a_t_minus)), (q_t_divisor, .inl (cA, n_t_divisor, .inl a_t_divisor)), (q_b, .inr (0, [.int i0_b, .ref q_b_signs, .ref q_b_lengths, .ref q_b_limbs])), (q_b_signs, .inl (cA, n_b_signs, .inl a_b_signs)), (q_b_lengths, .inl (cA, n_b_lengths, .inl a_b_lengths)), (q_b_limbs, .inl (cA, n_b_limbs, .inl a_b_limbs))]) (w1 := [(q_a, .inr (0, [.int i0_a, .ref q_a_signs, .ref q_a_lengths, .ref q_a_limbs])), (q_a_signs, .inl (cA, n_a_signs, .inl a_a_signs)), (q_a_lengths, .inl (cA, n_a_lengths, .inl a_a_lengths)), (q_a_limbs, .inl (cA, n_a_limbs, .inl a_a_limbs))]) [8, 9, 10, 11] [0, 1, 2, 3, 4, 5, 6, 7] (va_runV (As := [.int v2, .int v8]) (rest := [.int v4, .ref q_b, .int v8, .ref q_t_minus]) ⟨hx, hb, hml, hown, hts⟩ (c_N_limbOf l dC dI cA H.size q_a q_a_signs q_a_lengths q_a_limbs i0_a n_a_signs a_a_signs n_a_lengths a_a_lengths n_a_limbs a_a_limbs v2 v8 x24 g25) (cwV 2 hts gX1_addProduct_X0_limbOf rfl rfl rfl (by decide +kernel) ⟨Nat.le_of_ble_eq_true rfl, Nat.le_of_ble_eq_true rfl⟩) (kc_preV hP hD hK [8, 9, 10, 11] rfl rfl (by decide) (ci := 0) (q0 := 8) rfl rfl) rfl rfl hl.1 rfl (lv_room (Nat.le_of_ble_eq_true rfl)) dX1_addProduct_65 ⟨Nat.le_of_ble_eq_true rfl, Nat.le_of_ble_eq_true rfl⟩) hP hD hS hA rfl rfl (by decide) (by decide) (fun H locs hP hD hS => ?_)
      have hP : va_P (dC, dI) vwCl [(q_t, .inr (1, [.int i0_t, .ref q_t_plus, .ref q_t_minus, .ref q_t_divisor, .int i4_t, .int i5_t])), (q_t_plus, .inl (cA, n_t_plus, .inl a_t_plus)), (q_t_minus, .inl (cA, n_t_minus, .inl a_t_minus)), (q_t_divisor, .inl (cA, n_t_divisor, .inl a_t_divisor)), (q_b, .inr (0, [.int i0_b, .ref q_b_signs, .ref q_b_lengths, .ref q_b_limbs])), (q_b_signs, .inl (cA, n_b_signs, .inl a_b_signs)), (q_b_lengths, .inl (cA, n_b_lengths, .inl a_b_lengths)), (q_b_limbs, .inl (cA, n_b_limbs, .inl a_b_limbs)), (q_a, .inr (0, [.int i0_a, .ref q_a_signs, .ref q_a_lengths, .ref q_a_limbs])), (q_a_signs, .inl (cA, n_a_signs, .inl a_a_signs)), (q_a_lengths, .inl (cA, n_a_lengths, .inl a_a_lengths)), (q_a_limbs, .inl (cA, n_a_limbs, .inl a_a_limbs))] H := hP
      have hD : va_D A [(q_t, .inr (1, [.int i0_t, .ref q_t_plus, .ref q_t_minus, .ref q_t_divisor, .int i4_t, .int i5_t])), (q_t_plus, .inl (cA, n_t_plus, .inl a_t_plus)), (q_t_minus, .inl (cA, n_t_minus, .inl a_t_minus)), (q_t_divisor, .inl (cA, n_t_divisor, .inl a_t_divisor)), (q_b, .inr (0, [.int i0_b, .ref q_b_signs, .ref q_b_lengths, .ref q_b_limbs])), (q_b_signs, .inl (cA, n_b_signs, .inl a_b_signs)), (q_b_lengths, .inl (cA, n_b_lengths, .inl a_b_lengths)), (q_b_limbs, .inl (cA, n_b_limbs, .inl a_b_limbs)), (q_a, .inr (0, [.int i0_a, .ref q_a_signs, .ref q_a_lengths, .ref q_a_limbs])), (q_a_signs, .inl (cA, n_a_signs, .inl a_a_signs)), (q_a_lengths, .inl (cA, n_a_lengths, .inl a_a_lengths)), (q_a_limbs, .inl (cA, n_a_limbs, .inl a_a_limbs))] := hD
      refine lv_i2l (v := x24.toInt64) hx hb dX1_addProduct_68 rfl ?_
      obtain ⟨x26, g27, hf⟩ := og_b hf
      refine kc_v (wr := [(q_t, .inr (1, [.int i0_t, .ref q_t_plus, .ref q_t_minus, .ref q_t_divisor, .int i4_t, .int i5_t])), (q_t_plus, .inl (cA, n_t_plus, .inl a_t_plus)), (q_t_divisor, .inl (cA, n_t_divisor, .inl a_t_divisor)), (q_a, .inr (0, [.int i0_a, .ref q_a_signs, .ref q_a_lengths, .ref q_a_limbs])), (q_a_signs, .inl (cA, n_a_signs, .inl a_a_signs)), (q_a_lengths, .inl (cA, n_a_lengths, .inl a_a_lengths)), (q_a_limbs, .inl (cA, n_a_limbs, .inl a_a_limbs))]) (w1 := [(q_t_minus, .inl (cA, n_t_minus, .inl x26)), (q_b, .inr (0, [.int i0_b, .ref q_b_signs, .ref q_b_lengths, .ref q_b_limbs])), (q_b_signs, .inl (cA, n_b_signs, .inl a_b_signs)), (q_b_lengths, .inl (cA, n_b_lengths, .inl a_b_lengths)), (q_b_limbs, .inl (cA, n_b_limbs, .inl a_b_limbs))]) [2, 4, 5, 6, 7] [0, 1, 3, 8, 9, 10, 11] (va_runS (As := [.ref q_t_minus, .int v8, .ref q_b, .int v4, .long x24.toInt64]) (rest := []) ⟨hx, hb, hml, hown, hts⟩ (c_S_addMultiple l dC dI cA H.size q_t_minus q_b q_b_signs q_b_lengths q_b_limbs k n_t_minus a_t_minus v8 i0_b n_b_signs a_b_signs n_b_lengths a_b_lengths n_b_limbs a_b_limbs v4 x24.toInt64 x26 g27) (va_cwS 5 hts gX1_addProduct_X1_addMultiple rfl rfl rfl (by decide +kernel) ⟨Nat.le_of_ble_eq_true rfl, Nat.le_of_ble_eq_true rfl⟩) (kc_preS hP hD hK [2, 4, 5, 6, 7] rfl rfl (by decide)) rfl rfl hl.1 rfl (lv_room (Nat.le_of_ble_eq_true rfl)) dX1_addProduct_69 ⟨Nat.le_of_ble_eq_true rfl, Nat.le_of_ble_eq_true rfl⟩) hP hD hS hA rfl rfl (by decide) (by decide) (fun H locs hP hD hS => ?_)
      have hP : va_P (dC, dI) vwCl [(q_t, .inr (1, [.int i0_t, .ref q_t_plus, .ref q_t_minus, .ref q_t_divisor, .int i4_t, .int i5_t])), (q_t_plus, .inl (cA, n_t_plus, .inl a_t_plus)), (q_t_divisor, .inl (cA, n_t_divisor, .inl a_t_divisor)), (q_a, .inr (0, [.int i0_a, .ref q_a_signs, .ref q_a_lengths, .ref q_a_limbs])), (q_a_signs, .inl (cA, n_a_signs, .inl a_a_signs)), (q_a_lengths, .inl (cA, n_a_lengths, .inl a_a_lengths)), (q_a_limbs, .inl (cA, n_a_limbs, .inl a_a_limbs)), (q_t_minus, .inl (cA, n_t_minus, .inl x26)), (q_b, .inr (0, [.int i0_b, .ref q_b_signs, .ref q_b_lengths, .ref q_b_limbs])), (q_b_signs, .inl (cA, n_b_signs, .inl a_b_signs)), (q_b_lengths, .inl (cA, n_b_lengths, .inl a_b_lengths)), (q_b_limbs, .inl (cA, n_b_limbs, .inl a_b_limbs))] H := hP
      have hD : va_D A [(q_t, .inr (1, [.int i0_t, .ref q_t_plus, .ref q_t_minus, .ref q_t_divisor, .int i4_t, .int i5_t])), (q_t_plus, .inl (cA, n_t_plus, .inl a_t_plus)), (q_t_divisor, .inl (cA, n_t_divisor, .inl a_t_divisor)), (q_a, .inr (0, [.int i0_a, .ref q_a_signs, .ref q_a_lengths, .ref q_a_limbs])), (q_a_signs, .inl (cA, n_a_signs, .inl a_a_signs)), (q_a_lengths, .inl (cA, n_a_lengths, .inl a_a_lengths)), (q_a_limbs, .inl (cA, n_a_limbs, .inl a_a_limbs)), (q_t_minus, .inl (cA, n_t_minus, .inl x26)), (q_b, .inr (0, [.int i0_b, .ref q_b_signs, .ref q_b_lengths, .ref q_b_limbs])), (q_b_signs, .inl (cA, n_b_signs, .inl a_b_signs)), (q_b_lengths, .inl (cA, n_b_lengths, .inl a_b_lengths)), (q_b_limbs, .inl (cA, n_b_limbs, .inl a_b_limbs))] := hD
      refine lv_iinc (v := v8 + 1) (lv' := [(8, .int (v8 + 1)), (1, .ref q_a), (2, .int v2), (3, .ref q_b), (4, .int v4), (7, .ref q_t_minus)]) hx hb dX1_addProduct_72 hl (k := 5) rfl rfl (by decide) rfl (fun ls hl => ?_)
      refine lv_goto (tgt := 44) hx hb dX1_addProduct_75 (by decide) ?_
      exact ih (v8 + 1) x26 _ hf _ _ (hP.sub [0, 1, 7, 2, 3, 4, 5, 6, 8, 9, 10, 11] rfl) (hD.sub [0, 1, 7, 2, 3, 4, 5, 6, 8, 9, 10, 11] (by decide) rfl) hS _ (lv_sub hl [1, 2, 3, 4, 5, 0] rfl) he
set_option maxHeartbeats 4000000 in
set_option maxRecDepth 100000 in
theorem w_S_addProduct_L44b {p : Program} {l : Launch} {e : Env} {s : State} {m : MethodId} {args : Array Value} {below : List Frame} {meth : Method} {c : Code} {Q : State → Prop} {A : Nat → Prop} {H0 : Heap} {dC : Nat → ClassId} {dI : Nat → Nat → Nat} {cA : ClassId} (hx : p.tables.exec = Jvm.exec) (hb : c.code = cX1_addProduct) (hown : s.vm.findClass RX1 = some m.cls) (hts : ∀ w ∈ wsX1_addProduct, w.before args s = true) (hml : c.maxLocals = 9) (hA : ∀ q, H0.size ≤ q → A q) (hK : va_K (dC, dI) vwCl [(cA, .int)] s) (k : Nat) (q_t : Nat) (q_t_plus : Nat) (q_t_minus : Nat) (q_t_divisor : Nat) (q_a : Nat) (q_a_signs : Nat) (q_a_lengths : Nat) (q_a_limbs : Nat) (q_b : Nat) (q_b_signs : Nat) (q_b_lengths : Nat) (q_b_limbs : Nat) (v2 : Int32) (v4 : Int32) (i0_t : Int32) (i4_t : Int32) (i5_t : Int32) (n_t_plus : Nat) (n_t_minus : Nat) (a_t_minus : Nat → Int32) (n_t_divisor : Nat) (a_t_divisor : Nat → Int32) (i0_a : Int32) (n_a_signs : Nat) (a_a_signs : Nat → Int32) (n_a_lengths : Nat) (a_a_lengths : Nat → Int32) (n_a_limbs : Nat) (a_a_limbs : Nat → Int32) (i0_b : Int32) (n_b_signs : Nat) (a_b_signs : Nat → Int32) (n_b_lengths : Nat) (a_b_lengths : Nat → Int32) (n_b_limbs : Nat) (a_b_limbs : Nat → Int32) : ∀ (j : Nat) (v8 : Int32) (a_t_plus : Nat → Int32) (o : Int32 × (Nat → Int32)), f_S_addProduct_L44b k v2 v4 n_t_plus i0_a n_a_lengths a_a_lengths n_a_limbs a_a_limbs i0_b n_b_lengths a_b_lengths n_b_limbs a_b_limbs j v8 a_t_plus = some o → ∀ (H : Heap) (locs : List Loc), va_P (dC, dI) vwCl [(q_t, .inr (1, [.int i0_t, .ref q_t_plus, .ref q_t_minus, .ref q_t_divisor, .int i4_t, .int i5_t])), (q_t_plus, .inl (cA, n_t_plus, .inl a_t_plus)), (q_t_minus, .inl (cA, n_t_minus, .inl a_t_minus)), (q_t_divisor, .inl (cA, n_t_divisor, .inl a_t_divisor)), (q_a, .inr (0, [.int i0_a, .ref q_a_signs, .ref q_a_lengths, .ref q_a_limbs])), (q_a_signs, .inl (cA, n_a_signs, .inl a_a_signs)), (q_a_lengths, .inl (cA, n_a_lengths, .inl a_a_lengths)), (q_a_limbs, .inl (cA, n_a_limbs, .inl a_a_limbs)), (q_b, .inr (0, [.int i0_b, .ref q_b_signs, .ref q_b_lengths, .ref q_b_limbs])), (q_b_signs, .inl (cA, n_b_signs, .inl a_b_signs)), (q_b_lengths, .inl (cA, n_b_lengths, .inl a_b_lengths)), (q_b_limbs, .inl (cA, n_b_limbs, .inl a_b_limbs))] H → va_D A [(q_t, .inr (1, [.int i0_t, .ref q_t_plus, .ref q_t_minus, .ref q_t_divisor, .int i4_t, .int i5_t])), (q_t_plus, .inl (cA, n_t_plus, .inl a_t_plus)), (q_t_minus, .inl (cA, n_t_minus, .inl a_t_minus)), (q_t_divisor, .inl (cA, n_t_divisor, .inl a_t_divisor)), (q_a, .inr (0, [.int i0_a, .ref q_a_signs, .ref q_a_lengths, .ref q_a_limbs])), (q_a_signs, .inl (cA, n_a_signs, .inl a_a_signs)), (q_a_lengths, .inl (cA, n_a_lengths, .inl a_a_lengths)), (q_a_limbs, .inl (cA, n_a_limbs, .inl a_a_limbs)), (q_b, .inr (0, [.int i0_b, .ref q_b_signs, .ref q_b_lengths, .ref q_b_limbs])), (q_b_signs, .inl (cA, n_b_signs, .inl a_b_signs)), (q_b_lengths, .inl (cA, n_b_lengths, .inl a_b_lengths)), (q_b_limbs, .inl (cA, n_b_limbs, .inl a_b_limbs))] → va_S A H0 H locs → ∀ ls : Array Slot, lv_has ls 9 [(1, .ref q_a), (2, .int v2), (3, .ref q_b), (4, .int v4), (7, .ref q_t_plus), (8, .int v8)] → ∀ (he : ∀ (H : Heap) (locs : List Loc), va_P (dC, dI) vwCl [(q_t, .inr (1, [.int i0_t, .ref q_t_plus, .ref q_t_minus, .ref q_t_divisor, .int i4_t, .int i5_t])), (q_t_plus, .inl (cA, n_t_plus, .inl o.2)), (q_t_minus, .inl (cA, n_t_minus, .inl a_t_minus)), (q_t_divisor, .inl (cA, n_t_divisor, .inl a_t_divisor)), (q_a, .inr (0, [.int i0_a, .ref q_a_signs, .ref q_a_lengths, .ref q_a_limbs])), (q_a_signs, .inl (cA, n_a_signs, .inl a_a_signs)), (q_a_lengths, .inl (cA, n_a_lengths, .inl a_a_lengths)), (q_a_limbs, .inl (cA, n_a_limbs, .inl a_a_limbs)), (q_b, .inr (0, [.int i0_b, .ref q_b_signs, .ref q_b_lengths, .ref q_b_limbs])), (q_b_signs, .inl (cA, n_b_signs, .inl a_b_signs)), (q_b_lengths, .inl (cA, n_b_lengths, .inl a_b_lengths)), (q_b_limbs, .inl (cA, n_b_limbs, .inl a_b_limbs))] H → va_D A [(q_t, .inr (1, [.int i0_t, .ref q_t_plus, .ref q_t_minus, .ref q_t_divisor, .int i4_t, .int i5_t])), (q_t_plus, .inl (cA, n_t_plus, .inl o.2)), (q_t_minus, .inl (cA, n_t_minus, .inl a_t_minus)), (q_t_divisor, .inl (cA, n_t_divisor, .inl a_t_divisor)), (q_a, .inr (0, [.int i0_a, .ref q_a_signs, .ref q_a_lengths, .ref q_a_limbs])), (q_a_signs, .inl (cA, n_a_signs, .inl a_a_signs)), (q_a_lengths, .inl (cA, n_a_lengths, .inl a_a_lengths)), (q_a_limbs, .inl (cA, n_a_limbs, .inl a_a_limbs)), (q_b, .inr (0, [.int i0_b, .ref q_b_signs, .ref q_b_lengths, .ref q_b_limbs])), (q_b_signs, .inl (cA, n_b_signs, .inl a_b_signs)), (q_b_lengths, .inl (cA, n_b_lengths, .inl a_b_lengths)), (q_b_limbs, .inl (cA, n_b_limbs, .inl a_b_limbs))] → va_S A H0 H locs → ∀ ls : Array Slot, lv_has ls 9 [] → W p l e rm_S_addProduct s m args below meth c H locs 0 0 Q (F0 m 78 ls [])), W p l e rm_S_addProduct s m args below meth c H locs 0 0 Q (F0 m 44 ls []) := by
  intro j
  induction j with
  | zero =>
    intro v8 a_t_plus o hf
    rw [f_S_addProduct_L44b] at hf
    cases hf
  | succ j ih =>
    intro v8 a_t_plus o hf H locs hP hD hS ls hl he
    rw [f_S_addProduct_L44b] at hf
    refine lv_iload hx hb dX1_addProduct_44 (lv_at hl 5 rfl) ?_
    refine lv_aload_n hx hb dX1_addProduct_46 rfl (lv_at hl 0 rfl) ?_
    refine lv_iload_n hx hb dX1_addProduct_47 rfl (lv_at hl 1 rfl) ?_
    obtain ⟨x44, g45, hf⟩ := og_b hf
    refine kc_i (wr := [(q_t, .inr (1, [.int i0_t, .ref q_t_plus, .ref q_t_minus, .ref q_t_divisor, .int i4_t, .int i5_t])), (q_t_plus, .inl (cA, n_t_plus, .inl a_t_plus)), (q_t_minus, .inl (cA, n_t_minus, .inl a_t_minus)), (q_t_divisor, .inl (cA, n_t_divisor, .inl a_t_divisor)), (q_b, .inr (0, [.int i0_b, .ref q_b_signs, .ref q_b_lengths, .ref q_b_limbs])), (q_b_signs, .inl (cA, n_b_signs, .inl a_b_signs)), (q_b_lengths, .inl (cA, n_b_lengths, .inl a_b_lengths)), (q_b_limbs, .inl (cA, n_b_limbs, .inl a_b_limbs))]) (w1 := [(q_a, .inr (0, [.int i0_a, .ref q_a_signs, .ref q_a_lengths, .ref q_a_limbs])), (q_a_signs, .inl (cA, n_a_signs, .inl a_a_signs)), (q_a_lengths, .inl (cA, n_a_lengths, .inl a_a_lengths)), (q_a_limbs, .inl (cA, n_a_limbs, .inl a_a_limbs))]) [4, 5, 6, 7] [0, 1, 2, 3, 8, 9, 10, 11] (va_runV (As := [.int v2]) (rest := [.int v8]) ⟨hx, hb, hml, hown, hts⟩ (c_N_lengthOf l dC dI cA H.size q_a q_a_signs q_a_lengths q_a_limbs i0_a n_a_signs a_a_signs n_a_lengths a_a_lengths n_a_limbs a_a_limbs v2 x44 g45) (cwV 1 hts gX1_addProduct_X0_lengthOf rfl rfl rfl (by decide +kernel) ⟨Nat.le_of_ble_eq_true rfl, Nat.le_of_ble_eq_true rfl⟩) (kc_preV hP hD hK [4, 5, 6, 7] rfl rfl (by decide) (ci := 0) (q0 := 4) rfl rfl) rfl rfl hl.1 rfl (lv_room (Nat.le_of_ble_eq_true rfl)) dX1_addProduct_48 ⟨Nat.le_of_ble_eq_true rfl, Nat.le_of_ble_eq_true rfl⟩) hP hD hS hA rfl rfl (by decide) (by decide) (fun H locs hP hD hS => ?_)
    have hP : va_P (dC, dI) vwCl [(q_t, .inr (1, [.int i0_t, .ref q_t_plus, .ref q_t_minus, .ref q_t_divisor, .int i4_t, .int i5_t])), (q_t_plus, .inl (cA, n_t_plus, .inl a_t_plus)), (q_t_minus, .inl (cA, n_t_minus, .inl a_t_minus)), (q_t_divisor, .inl (cA, n_t_divisor, .inl a_t_divisor)), (q_b, .inr (0, [.int i0_b, .ref q_b_signs, .ref q_b_lengths, .ref q_b_limbs])), (q_b_signs, .inl (cA, n_b_signs, .inl a_b_signs)), (q_b_lengths, .inl (cA, n_b_lengths, .inl a_b_lengths)), (q_b_limbs, .inl (cA, n_b_limbs, .inl a_b_limbs)), (q_a, .inr (0, [.int i0_a, .ref q_a_signs, .ref q_a_lengths, .ref q_a_limbs])), (q_a_signs, .inl (cA, n_a_signs, .inl a_a_signs)), (q_a_lengths, .inl (cA, n_a_lengths, .inl a_a_lengths)), (q_a_limbs, .inl (cA, n_a_limbs, .inl a_a_limbs))] H := hP
    have hD : va_D A [(q_t, .inr (1, [.int i0_t, .ref q_t_plus, .ref q_t_minus, .ref q_t_divisor, .int i4_t, .int i5_t])), (q_t_plus, .inl (cA, n_t_plus, .inl a_t_plus)), (q_t_minus, .inl (cA, n_t_minus, .inl a_t_minus)), (q_t_divisor, .inl (cA, n_t_divisor, .inl a_t_divisor)), (q_b, .inr (0, [.int i0_b, .ref q_b_signs, .ref q_b_lengths, .ref q_b_limbs])), (q_b_signs, .inl (cA, n_b_signs, .inl a_b_signs)), (q_b_lengths, .inl (cA, n_b_lengths, .inl a_b_lengths)), (q_b_limbs, .inl (cA, n_b_limbs, .inl a_b_limbs)), (q_a, .inr (0, [.int i0_a, .ref q_a_signs, .ref q_a_lengths, .ref q_a_limbs])), (q_a_signs, .inl (cA, n_a_signs, .inl a_a_signs)), (q_a_lengths, .inl (cA, n_a_lengths, .inl a_a_lengths)), (q_a_limbs, .inl (cA, n_a_limbs, .inl a_a_limbs))] := hD
    refine lv_icmp_ge (tgt := 78) hx hb dX1_addProduct_51 (by decide) (fun c46 => ?_) (fun c46 => ?_)
    · have hf := og_t c46 hf
      have e9 := Option.some.inj hf
      subst e9
      exact he _ _ (hP.sub [0, 1, 2, 3, 8, 9, 10, 11, 4, 5, 6, 7] rfl) (hD.sub [0, 1, 2, 3, 8, 9, 10, 11, 4, 5, 6, 7] (by decide) rfl) hS _ (lv_sub hl [] rfl)
    · have hf := og_f c46 hf
      refine lv_aload hx hb dX1_addProduct_54 (lv_at hl 4 rfl) ?_
      refine lv_iload hx hb dX1_addProduct_56 (lv_at hl 5 rfl) ?_
      refine lv_aload_n hx hb dX1_addProduct_58 rfl (lv_at hl 2 rfl) ?_
      refine lv_iload hx hb dX1_addProduct_59 (lv_at hl 3 rfl) ?_
      refine lv_aload_n hx hb dX1_addProduct_61 rfl (lv_at hl 0 rfl) ?_
      refine lv_iload_n hx hb dX1_addProduct_62 rfl (lv_at hl 1 rfl) ?_
      refine lv_iload hx hb dX1_addProduct_63 (lv_at hl 5 rfl) ?_
      obtain ⟨x47, g48, hf⟩ := og_b hf
      refine kc_i (wr := [(q_t, .inr (1, [.int i0_t, .ref q_t_plus, .ref q_t_minus, .ref q_t_divisor, .int i4_t, .int i5_t])), (q_t_plus, .inl (cA, n_t_plus, .inl a_t_plus)), (q_t_minus, .inl (cA, n_t_minus, .inl a_t_minus)), (q_t_divisor, .inl (cA, n_t_divisor, .inl a_t_divisor)), (q_b, .inr (0, [.int i0_b, .ref q_b_signs, .ref q_b_lengths, .ref q_b_limbs])), (q_b_signs, .inl (cA, n_b_signs, .inl a_b_signs)), (q_b_lengths, .inl (cA, n_b_lengths, .inl a_b_lengths)), (q_b_limbs, .inl (cA, n_b_limbs, .inl a_b_limbs))]) (w1 := [(q_a, .inr (0, [.int i0_a, .ref q_a_signs, .ref q_a_lengths, .ref q_a_limbs])), (q_a_signs, .inl (cA, n_a_signs, .inl a_a_signs)), (q_a_lengths, .inl (cA, n_a_lengths, .inl a_a_lengths)), (q_a_limbs, .inl (cA, n_a_limbs, .inl a_a_limbs))]) [8, 9, 10, 11] [0, 1, 2, 3, 4, 5, 6, 7] (va_runV (As := [.int v2, .int v8]) (rest := [.int v4, .ref q_b, .int v8, .ref q_t_plus]) ⟨hx, hb, hml, hown, hts⟩ (c_N_limbOf l dC dI cA H.size q_a q_a_signs q_a_lengths q_a_limbs i0_a n_a_signs a_a_signs n_a_lengths a_a_lengths n_a_limbs a_a_limbs v2 v8 x47 g48) (cwV 2 hts gX1_addProduct_X0_limbOf rfl rfl rfl (by decide +kernel) ⟨Nat.le_of_ble_eq_true rfl, Nat.le_of_ble_eq_true rfl⟩) (kc_preV hP hD hK [8, 9, 10, 11] rfl rfl (by decide) (ci := 0) (q0 := 8) rfl rfl) rfl rfl hl.1 rfl (lv_room (Nat.le_of_ble_eq_true rfl)) dX1_addProduct_65 ⟨Nat.le_of_ble_eq_true rfl, Nat.le_of_ble_eq_true rfl⟩) hP hD hS hA rfl rfl (by decide) (by decide) (fun H locs hP hD hS => ?_)
      have hP : va_P (dC, dI) vwCl [(q_t, .inr (1, [.int i0_t, .ref q_t_plus, .ref q_t_minus, .ref q_t_divisor, .int i4_t, .int i5_t])), (q_t_plus, .inl (cA, n_t_plus, .inl a_t_plus)), (q_t_minus, .inl (cA, n_t_minus, .inl a_t_minus)), (q_t_divisor, .inl (cA, n_t_divisor, .inl a_t_divisor)), (q_b, .inr (0, [.int i0_b, .ref q_b_signs, .ref q_b_lengths, .ref q_b_limbs])), (q_b_signs, .inl (cA, n_b_signs, .inl a_b_signs)), (q_b_lengths, .inl (cA, n_b_lengths, .inl a_b_lengths)), (q_b_limbs, .inl (cA, n_b_limbs, .inl a_b_limbs)), (q_a, .inr (0, [.int i0_a, .ref q_a_signs, .ref q_a_lengths, .ref q_a_limbs])), (q_a_signs, .inl (cA, n_a_signs, .inl a_a_signs)), (q_a_lengths, .inl (cA, n_a_lengths, .inl a_a_lengths)), (q_a_limbs, .inl (cA, n_a_limbs, .inl a_a_limbs))] H := hP
      have hD : va_D A [(q_t, .inr (1, [.int i0_t, .ref q_t_plus, .ref q_t_minus, .ref q_t_divisor, .int i4_t, .int i5_t])), (q_t_plus, .inl (cA, n_t_plus, .inl a_t_plus)), (q_t_minus, .inl (cA, n_t_minus, .inl a_t_minus)), (q_t_divisor, .inl (cA, n_t_divisor, .inl a_t_divisor)), (q_b, .inr (0, [.int i0_b, .ref q_b_signs, .ref q_b_lengths, .ref q_b_limbs])), (q_b_signs, .inl (cA, n_b_signs, .inl a_b_signs)), (q_b_lengths, .inl (cA, n_b_lengths, .inl a_b_lengths)), (q_b_limbs, .inl (cA, n_b_limbs, .inl a_b_limbs)), (q_a, .inr (0, [.int i0_a, .ref q_a_signs, .ref q_a_lengths, .ref q_a_limbs])), (q_a_signs, .inl (cA, n_a_signs, .inl a_a_signs)), (q_a_lengths, .inl (cA, n_a_lengths, .inl a_a_lengths)), (q_a_limbs, .inl (cA, n_a_limbs, .inl a_a_limbs))] := hD
      refine lv_i2l (v := x47.toInt64) hx hb dX1_addProduct_68 rfl ?_
      obtain ⟨x49, g50, hf⟩ := og_b hf
      refine kc_v (wr := [(q_t, .inr (1, [.int i0_t, .ref q_t_plus, .ref q_t_minus, .ref q_t_divisor, .int i4_t, .int i5_t])), (q_t_minus, .inl (cA, n_t_minus, .inl a_t_minus)), (q_t_divisor, .inl (cA, n_t_divisor, .inl a_t_divisor)), (q_a, .inr (0, [.int i0_a, .ref q_a_signs, .ref q_a_lengths, .ref q_a_limbs])), (q_a_signs, .inl (cA, n_a_signs, .inl a_a_signs)), (q_a_lengths, .inl (cA, n_a_lengths, .inl a_a_lengths)), (q_a_limbs, .inl (cA, n_a_limbs, .inl a_a_limbs))]) (w1 := [(q_t_plus, .inl (cA, n_t_plus, .inl x49)), (q_b, .inr (0, [.int i0_b, .ref q_b_signs, .ref q_b_lengths, .ref q_b_limbs])), (q_b_signs, .inl (cA, n_b_signs, .inl a_b_signs)), (q_b_lengths, .inl (cA, n_b_lengths, .inl a_b_lengths)), (q_b_limbs, .inl (cA, n_b_limbs, .inl a_b_limbs))]) [1, 4, 5, 6, 7] [0, 2, 3, 8, 9, 10, 11] (va_runS (As := [.ref q_t_plus, .int v8, .ref q_b, .int v4, .long x47.toInt64]) (rest := []) ⟨hx, hb, hml, hown, hts⟩ (c_S_addMultiple l dC dI cA H.size q_t_plus q_b q_b_signs q_b_lengths q_b_limbs k n_t_plus a_t_plus v8 i0_b n_b_signs a_b_signs n_b_lengths a_b_lengths n_b_limbs a_b_limbs v4 x47.toInt64 x49 g50) (va_cwS 5 hts gX1_addProduct_X1_addMultiple rfl rfl rfl (by decide +kernel) ⟨Nat.le_of_ble_eq_true rfl, Nat.le_of_ble_eq_true rfl⟩) (kc_preS hP hD hK [1, 4, 5, 6, 7] rfl rfl (by decide)) rfl rfl hl.1 rfl (lv_room (Nat.le_of_ble_eq_true rfl)) dX1_addProduct_69 ⟨Nat.le_of_ble_eq_true rfl, Nat.le_of_ble_eq_true rfl⟩) hP hD hS hA rfl rfl (by decide) (by decide) (fun H locs hP hD hS => ?_)
      have hP : va_P (dC, dI) vwCl [(q_t, .inr (1, [.int i0_t, .ref q_t_plus, .ref q_t_minus, .ref q_t_divisor, .int i4_t, .int i5_t])), (q_t_minus, .inl (cA, n_t_minus, .inl a_t_minus)), (q_t_divisor, .inl (cA, n_t_divisor, .inl a_t_divisor)), (q_a, .inr (0, [.int i0_a, .ref q_a_signs, .ref q_a_lengths, .ref q_a_limbs])), (q_a_signs, .inl (cA, n_a_signs, .inl a_a_signs)), (q_a_lengths, .inl (cA, n_a_lengths, .inl a_a_lengths)), (q_a_limbs, .inl (cA, n_a_limbs, .inl a_a_limbs)), (q_t_plus, .inl (cA, n_t_plus, .inl x49)), (q_b, .inr (0, [.int i0_b, .ref q_b_signs, .ref q_b_lengths, .ref q_b_limbs])), (q_b_signs, .inl (cA, n_b_signs, .inl a_b_signs)), (q_b_lengths, .inl (cA, n_b_lengths, .inl a_b_lengths)), (q_b_limbs, .inl (cA, n_b_limbs, .inl a_b_limbs))] H := hP
      have hD : va_D A [(q_t, .inr (1, [.int i0_t, .ref q_t_plus, .ref q_t_minus, .ref q_t_divisor, .int i4_t, .int i5_t])), (q_t_minus, .inl (cA, n_t_minus, .inl a_t_minus)), (q_t_divisor, .inl (cA, n_t_divisor, .inl a_t_divisor)), (q_a, .inr (0, [.int i0_a, .ref q_a_signs, .ref q_a_lengths, .ref q_a_limbs])), (q_a_signs, .inl (cA, n_a_signs, .inl a_a_signs)), (q_a_lengths, .inl (cA, n_a_lengths, .inl a_a_lengths)), (q_a_limbs, .inl (cA, n_a_limbs, .inl a_a_limbs)), (q_t_plus, .inl (cA, n_t_plus, .inl x49)), (q_b, .inr (0, [.int i0_b, .ref q_b_signs, .ref q_b_lengths, .ref q_b_limbs])), (q_b_signs, .inl (cA, n_b_signs, .inl a_b_signs)), (q_b_lengths, .inl (cA, n_b_lengths, .inl a_b_lengths)), (q_b_limbs, .inl (cA, n_b_limbs, .inl a_b_limbs))] := hD
      refine lv_iinc (v := v8 + 1) (lv' := [(8, .int (v8 + 1)), (1, .ref q_a), (2, .int v2), (3, .ref q_b), (4, .int v4), (7, .ref q_t_plus)]) hx hb dX1_addProduct_72 hl (k := 5) rfl rfl (by decide) rfl (fun ls hl => ?_)
      refine lv_goto (tgt := 44) hx hb dX1_addProduct_75 (by decide) ?_
      exact ih (v8 + 1) x49 _ hf _ _ (hP.sub [0, 7, 1, 2, 3, 4, 5, 6, 8, 9, 10, 11] rfl) (hD.sub [0, 7, 1, 2, 3, 4, 5, 6, 8, 9, 10, 11] (by decide) rfl) hS _ (lv_sub hl [1, 2, 3, 4, 5, 0] rfl) he
set_option maxHeartbeats 4000000 in
set_option maxRecDepth 100000 in
theorem c_S_addProduct (l : Launch) (dC : Nat → ClassId) (dI : Nat → Nat → Nat) (cA : ClassId) (sz : Nat) (q_t : Nat) (q_t_plus : Nat) (q_t_minus : Nat) (q_t_divisor : Nat) (q_a : Nat) (q_a_signs : Nat) (q_a_lengths : Nat) (q_a_limbs : Nat) (q_b : Nat) (q_b_signs : Nat) (q_b_lengths : Nat) (q_b_limbs : Nat) (k : Nat) (t_room : Int32) (t_sign : Int32) (t_length : Int32) (n_t_plus : Nat) (a_t_plus : Nat → Int32) (n_t_minus : Nat) (a_t_minus : Nat → Int32) (n_t_divisor : Nat) (a_t_divisor : Nat → Int32) (a_room : Int32) (n_a_signs : Nat) (a_a_signs : Nat → Int32) (n_a_lengths : Nat) (a_a_lengths : Nat → Int32) (n_a_limbs : Nat) (a_a_limbs : Nat → Int32) (slotA : Int32) (b_room : Int32) (n_b_signs : Nat) (a_b_signs : Nat → Int32) (n_b_lengths : Nat) (a_b_lengths : Nat → Int32) (n_b_limbs : Nat) (a_b_limbs : Nat → Int32) (slotB : Int32) (factor : Int32) (o : (Nat → Int32) × (Nat → Int32)) (hf : f_S_addProduct k n_t_plus a_t_plus n_t_minus a_t_minus a_room n_a_signs a_a_signs n_a_lengths a_a_lengths n_a_limbs a_a_limbs slotA b_room n_b_signs a_b_signs n_b_lengths a_b_lengths n_b_limbs a_b_limbs slotB factor = some o) : Met l yX1_addProduct wsX1_addProduct rm_S_addProduct (c_Pre (dC, dI) vwCl [(cA, .int)] [(q_t, .inr (1, [.int t_room, .ref q_t_plus, .ref q_t_minus, .ref q_t_divisor, .int t_sign, .int t_length])), (q_t_plus, .inl (cA, n_t_plus, .inl a_t_plus)), (q_t_minus, .inl (cA, n_t_minus, .inl a_t_minus)), (q_t_divisor, .inl (cA, n_t_divisor, .inl a_t_divisor)), (q_a, .inr (0, [.int a_room, .ref q_a_signs, .ref q_a_lengths, .ref q_a_limbs])), (q_a_signs, .inl (cA, n_a_signs, .inl a_a_signs)), (q_a_lengths, .inl (cA, n_a_lengths, .inl a_a_lengths)), (q_a_limbs, .inl (cA, n_a_limbs, .inl a_a_limbs)), (q_b, .inr (0, [.int b_room, .ref q_b_signs, .ref q_b_lengths, .ref q_b_limbs])), (q_b_signs, .inl (cA, n_b_signs, .inl a_b_signs)), (q_b_lengths, .inl (cA, n_b_lengths, .inl a_b_lengths)), (q_b_limbs, .inl (cA, n_b_limbs, .inl a_b_limbs))] sz [.ref q_t, .ref q_a, .int slotA, .ref q_b, .int slotB, .int factor]) (c_Qv (dC, dI) vwCl [(cA, .int)] [(q_t, .inr (1, [.int t_room, .ref q_t_plus, .ref q_t_minus, .ref q_t_divisor, .int t_sign, .int t_length])), (q_t_plus, .inl (cA, n_t_plus, .inl o.1)), (q_t_minus, .inl (cA, n_t_minus, .inl o.2)), (q_t_divisor, .inl (cA, n_t_divisor, .inl a_t_divisor)), (q_a, .inr (0, [.int a_room, .ref q_a_signs, .ref q_a_lengths, .ref q_a_limbs])), (q_a_signs, .inl (cA, n_a_signs, .inl a_a_signs)), (q_a_lengths, .inl (cA, n_a_lengths, .inl a_a_lengths)), (q_a_limbs, .inl (cA, n_a_limbs, .inl a_a_limbs)), (q_b, .inr (0, [.int b_room, .ref q_b_signs, .ref q_b_lengths, .ref q_b_limbs])), (q_b_signs, .inl (cA, n_b_signs, .inl a_b_signs)), (q_b_lengths, .inl (cA, n_b_lengths, .inl a_b_lengths)), (q_b_limbs, .inl (cA, n_b_limbs, .inl a_b_limbs))] (va_A [(q_t, .inr (1, [.int t_room, .ref q_t_plus, .ref q_t_minus, .ref q_t_divisor, .int t_sign, .int t_length])), (q_t_plus, .inl (cA, n_t_plus, .inl a_t_plus)), (q_t_minus, .inl (cA, n_t_minus, .inl a_t_minus)), (q_t_divisor, .inl (cA, n_t_divisor, .inl a_t_divisor)), (q_a, .inr (0, [.int a_room, .ref q_a_signs, .ref q_a_lengths, .ref q_a_limbs])), (q_a_signs, .inl (cA, n_a_signs, .inl a_a_signs)), (q_a_lengths, .inl (cA, n_a_lengths, .inl a_a_lengths)), (q_a_limbs, .inl (cA, n_a_limbs, .inl a_a_limbs)), (q_b, .inr (0, [.int b_room, .ref q_b_signs, .ref q_b_lengths, .ref q_b_limbs])), (q_b_signs, .inl (cA, n_b_signs, .inl a_b_signs)), (q_b_lengths, .inl (cA, n_b_lengths, .inl a_b_lengths)), (q_b_limbs, .inl (cA, n_b_limbs, .inl a_b_limbs))] sz)) 0 0 (va_A [(q_t, .inr (1, [.int t_room, .ref q_t_plus, .ref q_t_minus, .ref q_t_divisor, .int t_sign, .int t_length])), (q_t_plus, .inl (cA, n_t_plus, .inl a_t_plus)), (q_t_minus, .inl (cA, n_t_minus, .inl a_t_minus)), (q_t_divisor, .inl (cA, n_t_divisor, .inl a_t_divisor)), (q_a, .inr (0, [.int a_room, .ref q_a_signs, .ref q_a_lengths, .ref q_a_limbs])), (q_a_signs, .inl (cA, n_a_signs, .inl a_a_signs)), (q_a_lengths, .inl (cA, n_a_lengths, .inl a_a_lengths)), (q_a_limbs, .inl (cA, n_a_limbs, .inl a_a_limbs)), (q_b, .inr (0, [.int b_room, .ref q_b_signs, .ref q_b_lengths, .ref q_b_limbs])), (q_b_signs, .inl (cA, n_b_signs, .inl a_b_signs)), (q_b_lengths, .inl (cA, n_b_lengths, .inl a_b_lengths)), (q_b_limbs, .inl (cA, n_b_limbs, .inl a_b_limbs))] sz) := by
  unfold f_S_addProduct at hf
  refine k_ent (Qc := fun A => c_Qv (dC, dI) vwCl [(cA, .int)] [(q_t, .inr (1, [.int t_room, .ref q_t_plus, .ref q_t_minus, .ref q_t_divisor, .int t_sign, .int t_length])), (q_t_plus, .inl (cA, n_t_plus, .inl o.1)), (q_t_minus, .inl (cA, n_t_minus, .inl o.2)), (q_t_divisor, .inl (cA, n_t_divisor, .inl a_t_divisor)), (q_a, .inr (0, [.int a_room, .ref q_a_signs, .ref q_a_lengths, .ref q_a_limbs])), (q_a_signs, .inl (cA, n_a_signs, .inl a_a_signs)), (q_a_lengths, .inl (cA, n_a_lengths, .inl a_a_lengths)), (q_a_limbs, .inl (cA, n_a_limbs, .inl a_a_limbs)), (q_b, .inr (0, [.int b_room, .ref q_b_signs, .ref q_b_lengths, .ref q_b_limbs])), (q_b_signs, .inl (cA, n_b_signs, .inl a_b_signs)), (q_b_lengths, .inl (cA, n_b_lengths, .inl a_b_lengths)), (q_b_limbs, .inl (cA, n_b_limbs, .inl a_b_limbs))] A) (by decide) rfl (Nat.le_of_ble_eq_true rfl) ?_
  intro p e s m below meth c A hx hb hr hown hts hml hlocks hin hsz hA hK H locs hP hD hS ls hl
  have hown : s.vm.findClass RX1 = some m.cls := hown
  have hl : lv_has ls 9 [(0, .ref q_t), (1, .ref q_a), (2, .int slotA), (3, .ref q_b), (4, .int slotB), (5, .int factor)] := hl
  refine lv_aload_n hx hb dX1_addProduct_0 rfl (lv_at hl 1 rfl) ?_
  refine lv_iload_n hx hb dX1_addProduct_1 rfl (lv_at hl 2 rfl) ?_
  obtain ⟨x1, g2, hf⟩ := og_b hf
  refine kc_i (wr := [(q_t, .inr (1, [.int t_room, .ref q_t_plus, .ref q_t_minus, .ref q_t_divisor, .int t_sign, .int t_length])), (q_t_plus, .inl (cA, n_t_plus, .inl a_t_plus)), (q_t_minus, .inl (cA, n_t_minus, .inl a_t_minus)), (q_t_divisor, .inl (cA, n_t_divisor, .inl a_t_divisor)), (q_b, .inr (0, [.int b_room, .ref q_b_signs, .ref q_b_lengths, .ref q_b_limbs])), (q_b_signs, .inl (cA, n_b_signs, .inl a_b_signs)), (q_b_lengths, .inl (cA, n_b_lengths, .inl a_b_lengths)), (q_b_limbs, .inl (cA, n_b_limbs, .inl a_b_limbs))]) (w1 := [(q_a, .inr (0, [.int a_room, .ref q_a_signs, .ref q_a_lengths, .ref q_a_limbs])), (q_a_signs, .inl (cA, n_a_signs, .inl a_a_signs)), (q_a_lengths, .inl (cA, n_a_lengths, .inl a_a_lengths)), (q_a_limbs, .inl (cA, n_a_limbs, .inl a_a_limbs))]) [4, 5, 6, 7] [0, 1, 2, 3, 8, 9, 10, 11] (va_runV (As := [.int slotA]) (rest := []) ⟨hx, hb, hml, hown, hts⟩ (c_N_signOf l dC dI cA H.size q_a q_a_signs q_a_lengths q_a_limbs a_room n_a_signs a_a_signs n_a_lengths a_a_lengths n_a_limbs a_a_limbs slotA x1 g2) (cwV 1 hts gX1_addProduct_X0_signOf rfl rfl rfl (by decide +kernel) ⟨Nat.le_of_ble_eq_true rfl, Nat.le_of_ble_eq_true rfl⟩) (kc_preV hP hD hK [4, 5, 6, 7] rfl rfl (by decide) (ci := 0) (q0 := 4) rfl rfl) rfl rfl hl.1 rfl (lv_room (Nat.le_of_ble_eq_true rfl)) dX1_addProduct_2 ⟨Nat.le_of_ble_eq_true rfl, Nat.le_of_ble_eq_true rfl⟩) hP hD hS hA rfl rfl (by decide) (by decide) (fun H locs hP hD hS => ?_)
  have hP : va_P (dC, dI) vwCl [(q_t, .inr (1, [.int t_room, .ref q_t_plus, .ref q_t_minus, .ref q_t_divisor, .int t_sign, .int t_length])), (q_t_plus, .inl (cA, n_t_plus, .inl a_t_plus)), (q_t_minus, .inl (cA, n_t_minus, .inl a_t_minus)), (q_t_divisor, .inl (cA, n_t_divisor, .inl a_t_divisor)), (q_b, .inr (0, [.int b_room, .ref q_b_signs, .ref q_b_lengths, .ref q_b_limbs])), (q_b_signs, .inl (cA, n_b_signs, .inl a_b_signs)), (q_b_lengths, .inl (cA, n_b_lengths, .inl a_b_lengths)), (q_b_limbs, .inl (cA, n_b_limbs, .inl a_b_limbs)), (q_a, .inr (0, [.int a_room, .ref q_a_signs, .ref q_a_lengths, .ref q_a_limbs])), (q_a_signs, .inl (cA, n_a_signs, .inl a_a_signs)), (q_a_lengths, .inl (cA, n_a_lengths, .inl a_a_lengths)), (q_a_limbs, .inl (cA, n_a_limbs, .inl a_a_limbs))] H := hP
  have hD : va_D A [(q_t, .inr (1, [.int t_room, .ref q_t_plus, .ref q_t_minus, .ref q_t_divisor, .int t_sign, .int t_length])), (q_t_plus, .inl (cA, n_t_plus, .inl a_t_plus)), (q_t_minus, .inl (cA, n_t_minus, .inl a_t_minus)), (q_t_divisor, .inl (cA, n_t_divisor, .inl a_t_divisor)), (q_b, .inr (0, [.int b_room, .ref q_b_signs, .ref q_b_lengths, .ref q_b_limbs])), (q_b_signs, .inl (cA, n_b_signs, .inl a_b_signs)), (q_b_lengths, .inl (cA, n_b_lengths, .inl a_b_lengths)), (q_b_limbs, .inl (cA, n_b_limbs, .inl a_b_limbs)), (q_a, .inr (0, [.int a_room, .ref q_a_signs, .ref q_a_lengths, .ref q_a_limbs])), (q_a_signs, .inl (cA, n_a_signs, .inl a_a_signs)), (q_a_lengths, .inl (cA, n_a_lengths, .inl a_a_lengths)), (q_a_limbs, .inl (cA, n_a_limbs, .inl a_a_limbs))] := hD
  refine lv_aload_n hx hb dX1_addProduct_5 rfl (lv_at hl 3 rfl) ?_
  refine lv_iload hx hb dX1_addProduct_6 (lv_at hl 4 rfl) ?_
  obtain ⟨x3, g4, hf⟩ := og_b hf
  refine kc_i (wr := [(q_t, .inr (1, [.int t_room, .ref q_t_plus, .ref q_t_minus, .ref q_t_divisor, .int t_sign, .int t_length])), (q_t_plus, .inl (cA, n_t_plus, .inl a_t_plus)), (q_t_minus, .inl (cA, n_t_minus, .inl a_t_minus)), (q_t_divisor, .inl (cA, n_t_divisor, .inl a_t_divisor)), (q_a, .inr (0, [.int a_room, .ref q_a_signs, .ref q_a_lengths, .ref q_a_limbs])), (q_a_signs, .inl (cA, n_a_signs, .inl a_a_signs)), (q_a_lengths, .inl (cA, n_a_lengths, .inl a_a_lengths)), (q_a_limbs, .inl (cA, n_a_limbs, .inl a_a_limbs))]) (w1 := [(q_b, .inr (0, [.int b_room, .ref q_b_signs, .ref q_b_lengths, .ref q_b_limbs])), (q_b_signs, .inl (cA, n_b_signs, .inl a_b_signs)), (q_b_lengths, .inl (cA, n_b_lengths, .inl a_b_lengths)), (q_b_limbs, .inl (cA, n_b_limbs, .inl a_b_limbs))]) [4, 5, 6, 7] [0, 1, 2, 3, 8, 9, 10, 11] (va_runV (As := [.int slotB]) (rest := [.int x1]) ⟨hx, hb, hml, hown, hts⟩ (c_N_signOf l dC dI cA H.size q_b q_b_signs q_b_lengths q_b_limbs b_room n_b_signs a_b_signs n_b_lengths a_b_lengths n_b_limbs a_b_limbs slotB x3 g4) (cwV 1 hts gX1_addProduct_X0_signOf rfl rfl rfl (by decide +kernel) ⟨Nat.le_of_ble_eq_true rfl, Nat.le_of_ble_eq_true rfl⟩) (kc_preV hP hD hK [4, 5, 6, 7] rfl rfl (by decide) (ci := 0) (q0 := 4) rfl rfl) rfl rfl hl.1 rfl (lv_room (Nat.le_of_ble_eq_true rfl)) dX1_addProduct_8 ⟨Nat.le_of_ble_eq_true rfl, Nat.le_of_ble_eq_true rfl⟩) hP hD hS hA rfl rfl (by decide) (by decide) (fun H locs hP hD hS => ?_)
  have hP : va_P (dC, dI) vwCl [(q_t, .inr (1, [.int t_room, .ref q_t_plus, .ref q_t_minus, .ref q_t_divisor, .int t_sign, .int t_length])), (q_t_plus, .inl (cA, n_t_plus, .inl a_t_plus)), (q_t_minus, .inl (cA, n_t_minus, .inl a_t_minus)), (q_t_divisor, .inl (cA, n_t_divisor, .inl a_t_divisor)), (q_a, .inr (0, [.int a_room, .ref q_a_signs, .ref q_a_lengths, .ref q_a_limbs])), (q_a_signs, .inl (cA, n_a_signs, .inl a_a_signs)), (q_a_lengths, .inl (cA, n_a_lengths, .inl a_a_lengths)), (q_a_limbs, .inl (cA, n_a_limbs, .inl a_a_limbs)), (q_b, .inr (0, [.int b_room, .ref q_b_signs, .ref q_b_lengths, .ref q_b_limbs])), (q_b_signs, .inl (cA, n_b_signs, .inl a_b_signs)), (q_b_lengths, .inl (cA, n_b_lengths, .inl a_b_lengths)), (q_b_limbs, .inl (cA, n_b_limbs, .inl a_b_limbs))] H := hP
  have hD : va_D A [(q_t, .inr (1, [.int t_room, .ref q_t_plus, .ref q_t_minus, .ref q_t_divisor, .int t_sign, .int t_length])), (q_t_plus, .inl (cA, n_t_plus, .inl a_t_plus)), (q_t_minus, .inl (cA, n_t_minus, .inl a_t_minus)), (q_t_divisor, .inl (cA, n_t_divisor, .inl a_t_divisor)), (q_a, .inr (0, [.int a_room, .ref q_a_signs, .ref q_a_lengths, .ref q_a_limbs])), (q_a_signs, .inl (cA, n_a_signs, .inl a_a_signs)), (q_a_lengths, .inl (cA, n_a_lengths, .inl a_a_lengths)), (q_a_limbs, .inl (cA, n_a_limbs, .inl a_a_limbs)), (q_b, .inr (0, [.int b_room, .ref q_b_signs, .ref q_b_lengths, .ref q_b_limbs])), (q_b_signs, .inl (cA, n_b_signs, .inl a_b_signs)), (q_b_lengths, .inl (cA, n_b_lengths, .inl a_b_lengths)), (q_b_limbs, .inl (cA, n_b_limbs, .inl a_b_limbs))] := hD
  refine lv_imul hx hb dX1_addProduct_11 ?_
  refine lv_iload hx hb dX1_addProduct_12 (lv_at hl 5 rfl) ?_
  refine lv_imul hx hb dX1_addProduct_14 ?_
  refine lv_istore (lv' := [(6, .int ((x1 * x3) * factor)), (0, .ref q_t), (1, .ref q_a), (2, .int slotA), (3, .ref q_b), (4, .int slotB), (5, .int factor)]) hx hb dX1_addProduct_15 hl (by decide) rfl (fun ls hl => ?_)
  refine lv_iload hx hb dX1_addProduct_17 (lv_at hl 0 rfl) ?_
  refine lv_if_ne (tgt := 23) hx hb dX1_addProduct_19 (by decide) (fun c5 => ?_) (fun c5 => ?_)
  · have hf := og_f c5 hf
    refine lv_iload hx hb dX1_addProduct_23 (lv_at hl 0 rfl) ?_
    refine lv_if_le (tgt := 35) hx hb dX1_addProduct_25 (by decide) (fun c6 => ?_) (fun c6 => ?_)
    · have hf := og_t c6 hf
      refine lv_aload_n hx hb dX1_addProduct_35 rfl (lv_at hl 1 rfl) ?_
      refine va_get (D := (dC, dI)) (ci := 1) (v := .ref q_t_minus) (C := RX1) (T := TX1) (N := 6) hx hb hts ki_S_addProduct_X1 hown hK hP 0 rfl rfl 2 (by decide) (hts (.fieldLink RX1 19 "MinorSteps$Sum" "minus" "[I") kw_S_addProduct_0) (fun _ h9 => h9) rfl dX1_addProduct_36 ?_
      refine lv_astore (lv' := [(7, .ref q_t_minus), (6, .int ((x1 * x3) * factor)), (0, .ref q_t), (1, .ref q_a), (2, .int slotA), (3, .ref q_b), (4, .int slotB), (5, .int factor)]) hx hb dX1_addProduct_39 hl (by decide) rfl (fun ls hl => ?_)
      refine lv_iconst (v := 0) hx hb dX1_addProduct_41 (by decide) ?_
      refine lv_istore (lv' := [(8, .int 0), (7, .ref q_t_minus), (6, .int ((x1 * x3) * factor)), (0, .ref q_t), (1, .ref q_a), (2, .int slotA), (3, .ref q_b), (4, .int slotB), (5, .int factor)]) hx hb dX1_addProduct_42 hl (by decide) rfl (fun ls hl => ?_)
      obtain ⟨x28, g29, hf⟩ := og_b hf
      refine w_S_addProduct_L44 hx hb hown hts hml hA hK k q_t q_t_plus q_t_minus q_t_divisor q_a q_a_signs q_a_lengths q_a_limbs q_b q_b_signs q_b_lengths q_b_limbs slotA slotB t_room t_sign t_length n_t_plus a_t_plus n_t_minus n_t_divisor a_t_divisor a_room n_a_signs a_a_signs n_a_lengths a_a_lengths n_a_limbs a_a_limbs b_room n_b_signs a_b_signs n_b_lengths a_b_lengths n_b_limbs a_b_limbs k (0 : Int32) a_t_minus _ g29 _ _ (hP.sub [0, 1, 2, 3, 4, 5, 6, 7, 8, 9, 10, 11] rfl) (hD.sub [0, 1, 2, 3, 4, 5, 6, 7, 8, 9, 10, 11] (by decide) rfl) hS _ (lv_sub hl [4, 5, 6, 7, 1, 0] rfl) ?_
      intro H locs hP hD hS ls hl
      have e9 := Option.some.inj hf
      subst e9
      exact kr_v hx hb hr hlocks hK hS (hP.sub [0, 1, 2, 3, 4, 5, 6, 7, 8, 9, 10, 11] rfl) (hD.sub [0, 1, 2, 3, 4, 5, 6, 7, 8, 9, 10, 11] (by decide) rfl) dX1_addProduct_78
    · have hf := og_f c6 hf
      refine lv_aload_n hx hb dX1_addProduct_28 rfl (lv_at hl 1 rfl) ?_
      refine va_get (D := (dC, dI)) (ci := 1) (v := .ref q_t_plus) (C := RX1) (T := TX1) (N := 6) hx hb hts ki_S_addProduct_X1 hown hK hP 0 rfl rfl 1 (by decide) (hts (.fieldLink RX1 15 "MinorSteps$Sum" "plus" "[I") kw_S_addProduct_1) (fun _ h9 => h9) rfl dX1_addProduct_29 ?_
      refine lv_goto (tgt := 39) hx hb dX1_addProduct_32 (by decide) ?_
      refine lv_astore (lv' := [(7, .ref q_t_plus), (6, .int ((x1 * x3) * factor)), (0, .ref q_t), (1, .ref q_a), (2, .int slotA), (3, .ref q_b), (4, .int slotB), (5, .int factor)]) hx hb dX1_addProduct_39 hl (by decide) rfl (fun ls hl => ?_)
      refine lv_iconst (v := 0) hx hb dX1_addProduct_41 (by decide) ?_
      refine lv_istore (lv' := [(8, .int 0), (7, .ref q_t_plus), (6, .int ((x1 * x3) * factor)), (0, .ref q_t), (1, .ref q_a), (2, .int slotA), (3, .ref q_b), (4, .int slotB), (5, .int factor)]) hx hb dX1_addProduct_42 hl (by decide) rfl (fun ls hl => ?_)
      obtain ⟨x51, g52, hf⟩ := og_b hf
      refine w_S_addProduct_L44b hx hb hown hts hml hA hK k q_t q_t_plus q_t_minus q_t_divisor q_a q_a_signs q_a_lengths q_a_limbs q_b q_b_signs q_b_lengths q_b_limbs slotA slotB t_room t_sign t_length n_t_plus n_t_minus a_t_minus n_t_divisor a_t_divisor a_room n_a_signs a_a_signs n_a_lengths a_a_lengths n_a_limbs a_a_limbs b_room n_b_signs a_b_signs n_b_lengths a_b_lengths n_b_limbs a_b_limbs k (0 : Int32) a_t_plus _ g52 _ _ (hP.sub [0, 1, 2, 3, 4, 5, 6, 7, 8, 9, 10, 11] rfl) (hD.sub [0, 1, 2, 3, 4, 5, 6, 7, 8, 9, 10, 11] (by decide) rfl) hS _ (lv_sub hl [4, 5, 6, 7, 1, 0] rfl) ?_
      intro H locs hP hD hS ls hl
      have e9 := Option.some.inj hf
      subst e9
      exact kr_v hx hb hr hlocks hK hS (hP.sub [0, 1, 2, 3, 4, 5, 6, 7, 8, 9, 10, 11] rfl) (hD.sub [0, 1, 2, 3, 4, 5, 6, 7, 8, 9, 10, 11] (by decide) rfl) dX1_addProduct_78
  · have hf := og_t c5 hf
    have e9 := Option.some.inj hf
    subst e9
    exact kr_v hx hb hr hlocks hK hS (hP.sub [0, 1, 2, 3, 4, 5, 6, 7, 8, 9, 10, 11] rfl) (hD.sub [0, 1, 2, 3, 4, 5, 6, 7, 8, 9, 10, 11] (by decide) rfl) dX1_addProduct_22
def rm_S_addProductSame : Room := { frames := 2, cells := 0, slots := 0, locals := 51 }
theorem kw_S_addProductSame_0 : (.fieldLink RX1 19 "MinorSteps$Sum" "minus" "[I" : Cond) ∈ wsX1_addProduct := by decide +kernel
theorem kw_S_addProductSame_1 : (.fieldLink RX1 15 "MinorSteps$Sum" "plus" "[I" : Cond) ∈ wsX1_addProduct := by decide +kernel
theorem ki_S_addProductSame_X1 : ∀ w ∈ u_ws RX1 TX1 6, w ∈ wsX1_addProduct := by decide +kernel
set_option maxHeartbeats 4000000 in
set_option maxRecDepth 100000 in
theorem w_S_addProductSame_L44 {p : Program} {l : Launch} {e : Env} {s : State} {m : MethodId} {args : Array Value} {below : List Frame} {meth : Method} {c : Code} {Q : State → Prop} {A : Nat → Prop} {H0 : Heap} {dC : Nat → ClassId} {dI : Nat → Nat → Nat} {cA : ClassId} (hx : p.tables.exec = Jvm.exec) (hb : c.code = cX1_addProduct) (hown : s.vm.findClass RX1 = some m.cls) (hts : ∀ w ∈ wsX1_addProduct, w.before args s = true) (hml : c.maxLocals = 9) (hA : ∀ q, H0.size ≤ q → A q) (hK : va_K (dC, dI) vwCl [(cA, .int)] s) (k : Nat) (q_t : Nat) (q_t_plus : Nat) (q_t_minus : Nat) (q_t_divisor : Nat) (q_a : Nat) (q_a_signs : Nat) (q_a_lengths : Nat) (q_a_limbs : Nat) (v2 : Int32) (v4 : Int32) (i0_t : Int32) (i4_t : Int32) (i5_t : Int32) (n_t_plus : Nat) (a_t_plus : Nat → Int32) (n_t_minus : Nat) (n_t_divisor : Nat) (a_t_divisor : Nat → Int32) (i0_a : Int32) (n_a_signs : Nat) (a_a_signs : Nat → Int32) (n_a_lengths : Nat) (a_a_lengths : Nat → Int32) (n_a_limbs : Nat) (a_a_limbs : Nat → Int32) : ∀ (j : Nat) (v8 : Int32) (a_t_minus : Nat → Int32) (o : Int32 × (Nat → Int32)), f_S_addProductSame_L44 k v2 v4 n_t_minus i0_a n_a_lengths a_a_lengths n_a_limbs a_a_limbs j v8 a_t_minus = some o → ∀ (H : Heap) (locs : List Loc), va_P (dC, dI) vwCl [(q_t, .inr (1, [.int i0_t, .ref q_t_plus, .ref q_t_minus, .ref q_t_divisor, .int i4_t, .int i5_t])), (q_t_plus, .inl (cA, n_t_plus, .inl a_t_plus)), (q_t_minus, .inl (cA, n_t_minus, .inl a_t_minus)), (q_t_divisor, .inl (cA, n_t_divisor, .inl a_t_divisor)), (q_a, .inr (0, [.int i0_a, .ref q_a_signs, .ref q_a_lengths, .ref q_a_limbs])), (q_a_signs, .inl (cA, n_a_signs, .inl a_a_signs)), (q_a_lengths, .inl (cA, n_a_lengths, .inl a_a_lengths)), (q_a_limbs, .inl (cA, n_a_limbs, .inl a_a_limbs))] H → va_D A [(q_t, .inr (1, [.int i0_t, .ref q_t_plus, .ref q_t_minus, .ref q_t_divisor, .int i4_t, .int i5_t])), (q_t_plus, .inl (cA, n_t_plus, .inl a_t_plus)), (q_t_minus, .inl (cA, n_t_minus, .inl a_t_minus)), (q_t_divisor, .inl (cA, n_t_divisor, .inl a_t_divisor)), (q_a, .inr (0, [.int i0_a, .ref q_a_signs, .ref q_a_lengths, .ref q_a_limbs])), (q_a_signs, .inl (cA, n_a_signs, .inl a_a_signs)), (q_a_lengths, .inl (cA, n_a_lengths, .inl a_a_lengths)), (q_a_limbs, .inl (cA, n_a_limbs, .inl a_a_limbs))] → va_S A H0 H locs → ∀ ls : Array Slot, lv_has ls 9 [(1, .ref q_a), (2, .int v2), (3, .ref q_a), (4, .int v4), (7, .ref q_t_minus), (8, .int v8)] → ∀ (he : ∀ (H : Heap) (locs : List Loc), va_P (dC, dI) vwCl [(q_t, .inr (1, [.int i0_t, .ref q_t_plus, .ref q_t_minus, .ref q_t_divisor, .int i4_t, .int i5_t])), (q_t_plus, .inl (cA, n_t_plus, .inl a_t_plus)), (q_t_minus, .inl (cA, n_t_minus, .inl o.2)), (q_t_divisor, .inl (cA, n_t_divisor, .inl a_t_divisor)), (q_a, .inr (0, [.int i0_a, .ref q_a_signs, .ref q_a_lengths, .ref q_a_limbs])), (q_a_signs, .inl (cA, n_a_signs, .inl a_a_signs)), (q_a_lengths, .inl (cA, n_a_lengths, .inl a_a_lengths)), (q_a_limbs, .inl (cA, n_a_limbs, .inl a_a_limbs))] H → va_D A [(q_t, .inr (1, [.int i0_t, .ref q_t_plus, .ref q_t_minus, .ref q_t_divisor, .int i4_t, .int i5_t])), (q_t_plus, .inl (cA, n_t_plus, .inl a_t_plus)), (q_t_minus, .inl (cA, n_t_minus, .inl o.2)), (q_t_divisor, .inl (cA, n_t_divisor, .inl a_t_divisor)), (q_a, .inr (0, [.int i0_a, .ref q_a_signs, .ref q_a_lengths, .ref q_a_limbs])), (q_a_signs, .inl (cA, n_a_signs, .inl a_a_signs)), (q_a_lengths, .inl (cA, n_a_lengths, .inl a_a_lengths)), (q_a_limbs, .inl (cA, n_a_limbs, .inl a_a_limbs))] → va_S A H0 H locs → ∀ ls : Array Slot, lv_has ls 9 [] → W p l e rm_S_addProductSame s m args below meth c H locs 0 0 Q (F0 m 78 ls [])), W p l e rm_S_addProductSame s m args below meth c H locs 0 0 Q (F0 m 44 ls []) := by
  intro j
  induction j with
  | zero =>
    intro v8 a_t_minus o hf
    rw [f_S_addProductSame_L44] at hf
    cases hf
  | succ j ih =>
    intro v8 a_t_minus o hf H locs hP hD hS ls hl he
    rw [f_S_addProductSame_L44] at hf
    refine lv_iload hx hb dX1_addProduct_44 (lv_at hl 5 rfl) ?_
    refine lv_aload_n hx hb dX1_addProduct_46 rfl (lv_at hl 0 rfl) ?_
    refine lv_iload_n hx hb dX1_addProduct_47 rfl (lv_at hl 1 rfl) ?_
    obtain ⟨x21, g22, hf⟩ := og_b hf
    refine kc_i (wr := [(q_t, .inr (1, [.int i0_t, .ref q_t_plus, .ref q_t_minus, .ref q_t_divisor, .int i4_t, .int i5_t])), (q_t_plus, .inl (cA, n_t_plus, .inl a_t_plus)), (q_t_minus, .inl (cA, n_t_minus, .inl a_t_minus)), (q_t_divisor, .inl (cA, n_t_divisor, .inl a_t_divisor))]) (w1 := [(q_a, .inr (0, [.int i0_a, .ref q_a_signs, .ref q_a_lengths, .ref q_a_limbs])), (q_a_signs, .inl (cA, n_a_signs, .inl a_a_signs)), (q_a_lengths, .inl (cA, n_a_lengths, .inl a_a_lengths)), (q_a_limbs, .inl (cA, n_a_limbs, .inl a_a_limbs))]) [4, 5, 6, 7] [0, 1, 2, 3] (va_runV (As := [.int v2]) (rest := [.int v8]) ⟨hx, hb, hml, hown, hts⟩ (c_N_lengthOf l dC dI cA H.size q_a q_a_signs q_a_lengths q_a_limbs i0_a n_a_signs a_a_signs n_a_lengths a_a_lengths n_a_limbs a_a_limbs v2 x21 g22) (cwV 1 hts gX1_addProduct_X0_lengthOf rfl rfl rfl (by decide +kernel) ⟨Nat.le_of_ble_eq_true rfl, Nat.le_of_ble_eq_true rfl⟩) (kc_preV hP hD hK [4, 5, 6, 7] rfl rfl (by decide) (ci := 0) (q0 := 4) rfl rfl) rfl rfl hl.1 rfl (lv_room (Nat.le_of_ble_eq_true rfl)) dX1_addProduct_48 ⟨Nat.le_of_ble_eq_true rfl, Nat.le_of_ble_eq_true rfl⟩) hP hD hS hA rfl rfl (by decide) (by decide) (fun H locs hP hD hS => ?_)
    have hP : va_P (dC, dI) vwCl [(q_t, .inr (1, [.int i0_t, .ref q_t_plus, .ref q_t_minus, .ref q_t_divisor, .int i4_t, .int i5_t])), (q_t_plus, .inl (cA, n_t_plus, .inl a_t_plus)), (q_t_minus, .inl (cA, n_t_minus, .inl a_t_minus)), (q_t_divisor, .inl (cA, n_t_divisor, .inl a_t_divisor)), (q_a, .inr (0, [.int i0_a, .ref q_a_signs, .ref q_a_lengths, .ref q_a_limbs])), (q_a_signs, .inl (cA, n_a_signs, .inl a_a_signs)), (q_a_lengths, .inl (cA, n_a_lengths, .inl a_a_lengths)), (q_a_limbs, .inl (cA, n_a_limbs, .inl a_a_limbs))] H := hP
    have hD : va_D A [(q_t, .inr (1, [.int i0_t, .ref q_t_plus, .ref q_t_minus, .ref q_t_divisor, .int i4_t, .int i5_t])), (q_t_plus, .inl (cA, n_t_plus, .inl a_t_plus)), (q_t_minus, .inl (cA, n_t_minus, .inl a_t_minus)), (q_t_divisor, .inl (cA, n_t_divisor, .inl a_t_divisor)), (q_a, .inr (0, [.int i0_a, .ref q_a_signs, .ref q_a_lengths, .ref q_a_limbs])), (q_a_signs, .inl (cA, n_a_signs, .inl a_a_signs)), (q_a_lengths, .inl (cA, n_a_lengths, .inl a_a_lengths)), (q_a_limbs, .inl (cA, n_a_limbs, .inl a_a_limbs))] := hD
    refine lv_icmp_ge (tgt := 78) hx hb dX1_addProduct_51 (by decide) (fun c23 => ?_) (fun c23 => ?_)
    · have hf := og_t c23 hf
      have e9 := Option.some.inj hf
      subst e9
      exact he _ _ (hP.sub [0, 1, 2, 3, 4, 5, 6, 7] rfl) (hD.sub [0, 1, 2, 3, 4, 5, 6, 7] (by decide) rfl) hS _ (lv_sub hl [] rfl)
    · have hf := og_f c23 hf
      refine lv_aload hx hb dX1_addProduct_54 (lv_at hl 4 rfl) ?_
      refine lv_iload hx hb dX1_addProduct_56 (lv_at hl 5 rfl) ?_
      refine lv_aload_n hx hb dX1_addProduct_58 rfl (lv_at hl 2 rfl) ?_
      refine lv_iload hx hb dX1_addProduct_59 (lv_at hl 3 rfl) ?_
      refine lv_aload_n hx hb dX1_addProduct_61 rfl (lv_at hl 0 rfl) ?_
      refine lv_iload_n hx hb dX1_addProduct_62 rfl (lv_at hl 1 rfl) ?_
      refine lv_iload hx hb dX1_addProduct_63 (lv_at hl 5 rfl) ?_
      obtain ⟨x24, g25, hf⟩ := og_b hf
      refine kc_i (wr := [(q_t, .inr (1, [.int i0_t, .ref q_t_plus, .ref q_t_minus, .ref q_t_divisor, .int i4_t, .int i5_t])), (q_t_plus, .inl (cA, n_t_plus, .inl a_t_plus)), (q_t_minus, .inl (cA, n_t_minus, .inl a_t_minus)), (q_t_divisor, .inl (cA, n_t_divisor, .inl a_t_divisor))]) (w1 := [(q_a, .inr (0, [.int i0_a, .ref q_a_signs, .ref q_a_lengths, .ref q_a_limbs])), (q_a_signs, .inl (cA, n_a_signs, .inl a_a_signs)), (q_a_lengths, .inl (cA, n_a_lengths, .inl a_a_lengths)), (q_a_limbs, .inl (cA, n_a_limbs, .inl a_a_limbs))]) [4, 5, 6, 7] [0, 1, 2, 3] (va_runV (As := [.int v2, .int v8]) (rest := [.int v4, .ref q_a, .int v8, .ref q_t_minus]) ⟨hx, hb, hml, hown, hts⟩ (c_N_limbOf l dC dI cA H.size q_a q_a_signs q_a_lengths q_a_limbs i0_a n_a_signs a_a_signs n_a_lengths a_a_lengths n_a_limbs a_a_limbs v2 v8 x24 g25) (cwV 2 hts gX1_addProduct_X0_limbOf rfl rfl rfl (by decide +kernel) ⟨Nat.le_of_ble_eq_true rfl, Nat.le_of_ble_eq_true rfl⟩) (kc_preV hP hD hK [4, 5, 6, 7] rfl rfl (by decide) (ci := 0) (q0 := 4) rfl rfl) rfl rfl hl.1 rfl (lv_room (Nat.le_of_ble_eq_true rfl)) dX1_addProduct_65 ⟨Nat.le_of_ble_eq_true rfl, Nat.le_of_ble_eq_true rfl⟩) hP hD hS hA rfl rfl (by decide) (by decide) (fun H locs hP hD hS => ?_)
      have hP : va_P (dC, dI) vwCl [(q_t, .inr (1, [.int i0_t, .ref q_t_plus, .ref q_t_minus, .ref q_t_divisor, .int i4_t, .int i5_t])), (q_t_plus, .inl (cA, n_t_plus, .inl a_t_plus)), (q_t_minus, .inl (cA, n_t_minus, .inl a_t_minus)), (q_t_divisor, .inl (cA, n_t_divisor, .inl a_t_divisor)), (q_a, .inr (0, [.int i0_a, .ref q_a_signs, .ref q_a_lengths, .ref q_a_limbs])), (q_a_signs, .inl (cA, n_a_signs, .inl a_a_signs)), (q_a_lengths, .inl (cA, n_a_lengths, .inl a_a_lengths)), (q_a_limbs, .inl (cA, n_a_limbs, .inl a_a_limbs))] H := hP
      have hD : va_D A [(q_t, .inr (1, [.int i0_t, .ref q_t_plus, .ref q_t_minus, .ref q_t_divisor, .int i4_t, .int i5_t])), (q_t_plus, .inl (cA, n_t_plus, .inl a_t_plus)), (q_t_minus, .inl (cA, n_t_minus, .inl a_t_minus)), (q_t_divisor, .inl (cA, n_t_divisor, .inl a_t_divisor)), (q_a, .inr (0, [.int i0_a, .ref q_a_signs, .ref q_a_lengths, .ref q_a_limbs])), (q_a_signs, .inl (cA, n_a_signs, .inl a_a_signs)), (q_a_lengths, .inl (cA, n_a_lengths, .inl a_a_lengths)), (q_a_limbs, .inl (cA, n_a_limbs, .inl a_a_limbs))] := hD
      refine lv_i2l (v := x24.toInt64) hx hb dX1_addProduct_68 rfl ?_
      obtain ⟨x26, g27, hf⟩ := og_b hf
      refine kc_v (wr := [(q_t, .inr (1, [.int i0_t, .ref q_t_plus, .ref q_t_minus, .ref q_t_divisor, .int i4_t, .int i5_t])), (q_t_plus, .inl (cA, n_t_plus, .inl a_t_plus)), (q_t_divisor, .inl (cA, n_t_divisor, .inl a_t_divisor))]) (w1 := [(q_t_minus, .inl (cA, n_t_minus, .inl x26)), (q_a, .inr (0, [.int i0_a, .ref q_a_signs, .ref q_a_lengths, .ref q_a_limbs])), (q_a_signs, .inl (cA, n_a_signs, .inl a_a_signs)), (q_a_lengths, .inl (cA, n_a_lengths, .inl a_a_lengths)), (q_a_limbs, .inl (cA, n_a_limbs, .inl a_a_limbs))]) [2, 4, 5, 6, 7] [0, 1, 3] (va_runS (As := [.ref q_t_minus, .int v8, .ref q_a, .int v4, .long x24.toInt64]) (rest := []) ⟨hx, hb, hml, hown, hts⟩ (c_S_addMultiple l dC dI cA H.size q_t_minus q_a q_a_signs q_a_lengths q_a_limbs k n_t_minus a_t_minus v8 i0_a n_a_signs a_a_signs n_a_lengths a_a_lengths n_a_limbs a_a_limbs v4 x24.toInt64 x26 g27) (va_cwS 5 hts gX1_addProduct_X1_addMultiple rfl rfl rfl (by decide +kernel) ⟨Nat.le_of_ble_eq_true rfl, Nat.le_of_ble_eq_true rfl⟩) (kc_preS hP hD hK [2, 4, 5, 6, 7] rfl rfl (by decide)) rfl rfl hl.1 rfl (lv_room (Nat.le_of_ble_eq_true rfl)) dX1_addProduct_69 ⟨Nat.le_of_ble_eq_true rfl, Nat.le_of_ble_eq_true rfl⟩) hP hD hS hA rfl rfl (by decide) (by decide) (fun H locs hP hD hS => ?_)
      have hP : va_P (dC, dI) vwCl [(q_t, .inr (1, [.int i0_t, .ref q_t_plus, .ref q_t_minus, .ref q_t_divisor, .int i4_t, .int i5_t])), (q_t_plus, .inl (cA, n_t_plus, .inl a_t_plus)), (q_t_divisor, .inl (cA, n_t_divisor, .inl a_t_divisor)), (q_t_minus, .inl (cA, n_t_minus, .inl x26)), (q_a, .inr (0, [.int i0_a, .ref q_a_signs, .ref q_a_lengths, .ref q_a_limbs])), (q_a_signs, .inl (cA, n_a_signs, .inl a_a_signs)), (q_a_lengths, .inl (cA, n_a_lengths, .inl a_a_lengths)), (q_a_limbs, .inl (cA, n_a_limbs, .inl a_a_limbs))] H := hP
      have hD : va_D A [(q_t, .inr (1, [.int i0_t, .ref q_t_plus, .ref q_t_minus, .ref q_t_divisor, .int i4_t, .int i5_t])), (q_t_plus, .inl (cA, n_t_plus, .inl a_t_plus)), (q_t_divisor, .inl (cA, n_t_divisor, .inl a_t_divisor)), (q_t_minus, .inl (cA, n_t_minus, .inl x26)), (q_a, .inr (0, [.int i0_a, .ref q_a_signs, .ref q_a_lengths, .ref q_a_limbs])), (q_a_signs, .inl (cA, n_a_signs, .inl a_a_signs)), (q_a_lengths, .inl (cA, n_a_lengths, .inl a_a_lengths)), (q_a_limbs, .inl (cA, n_a_limbs, .inl a_a_limbs))] := hD
      refine lv_iinc (v := v8 + 1) (lv' := [(8, .int (v8 + 1)), (1, .ref q_a), (2, .int v2), (3, .ref q_a), (4, .int v4), (7, .ref q_t_minus)]) hx hb dX1_addProduct_72 hl (k := 5) rfl rfl (by decide) rfl (fun ls hl => ?_)
      refine lv_goto (tgt := 44) hx hb dX1_addProduct_75 (by decide) ?_
      exact ih (v8 + 1) x26 _ hf _ _ (hP.sub [0, 1, 3, 2, 4, 5, 6, 7] rfl) (hD.sub [0, 1, 3, 2, 4, 5, 6, 7] (by decide) rfl) hS _ (lv_sub hl [1, 2, 3, 4, 5, 0] rfl) he
set_option maxHeartbeats 4000000 in
set_option maxRecDepth 100000 in
theorem w_S_addProductSame_L44b {p : Program} {l : Launch} {e : Env} {s : State} {m : MethodId} {args : Array Value} {below : List Frame} {meth : Method} {c : Code} {Q : State → Prop} {A : Nat → Prop} {H0 : Heap} {dC : Nat → ClassId} {dI : Nat → Nat → Nat} {cA : ClassId} (hx : p.tables.exec = Jvm.exec) (hb : c.code = cX1_addProduct) (hown : s.vm.findClass RX1 = some m.cls) (hts : ∀ w ∈ wsX1_addProduct, w.before args s = true) (hml : c.maxLocals = 9) (hA : ∀ q, H0.size ≤ q → A q) (hK : va_K (dC, dI) vwCl [(cA, .int)] s) (k : Nat) (q_t : Nat) (q_t_plus : Nat) (q_t_minus : Nat) (q_t_divisor : Nat) (q_a : Nat) (q_a_signs : Nat) (q_a_lengths : Nat) (q_a_limbs : Nat) (v2 : Int32) (v4 : Int32) (i0_t : Int32) (i4_t : Int32) (i5_t : Int32) (n_t_plus : Nat) (n_t_minus : Nat) (a_t_minus : Nat → Int32) (n_t_divisor : Nat) (a_t_divisor : Nat → Int32) (i0_a : Int32) (n_a_signs : Nat) (a_a_signs : Nat → Int32) (n_a_lengths : Nat) (a_a_lengths : Nat → Int32) (n_a_limbs : Nat) (a_a_limbs : Nat → Int32) : ∀ (j : Nat) (v8 : Int32) (a_t_plus : Nat → Int32) (o : Int32 × (Nat → Int32)), f_S_addProductSame_L44b k v2 v4 n_t_plus i0_a n_a_lengths a_a_lengths n_a_limbs a_a_limbs j v8 a_t_plus = some o → ∀ (H : Heap) (locs : List Loc), va_P (dC, dI) vwCl [(q_t, .inr (1, [.int i0_t, .ref q_t_plus, .ref q_t_minus, .ref q_t_divisor, .int i4_t, .int i5_t])), (q_t_plus, .inl (cA, n_t_plus, .inl a_t_plus)), (q_t_minus, .inl (cA, n_t_minus, .inl a_t_minus)), (q_t_divisor, .inl (cA, n_t_divisor, .inl a_t_divisor)), (q_a, .inr (0, [.int i0_a, .ref q_a_signs, .ref q_a_lengths, .ref q_a_limbs])), (q_a_signs, .inl (cA, n_a_signs, .inl a_a_signs)), (q_a_lengths, .inl (cA, n_a_lengths, .inl a_a_lengths)), (q_a_limbs, .inl (cA, n_a_limbs, .inl a_a_limbs))] H → va_D A [(q_t, .inr (1, [.int i0_t, .ref q_t_plus, .ref q_t_minus, .ref q_t_divisor, .int i4_t, .int i5_t])), (q_t_plus, .inl (cA, n_t_plus, .inl a_t_plus)), (q_t_minus, .inl (cA, n_t_minus, .inl a_t_minus)), (q_t_divisor, .inl (cA, n_t_divisor, .inl a_t_divisor)), (q_a, .inr (0, [.int i0_a, .ref q_a_signs, .ref q_a_lengths, .ref q_a_limbs])), (q_a_signs, .inl (cA, n_a_signs, .inl a_a_signs)), (q_a_lengths, .inl (cA, n_a_lengths, .inl a_a_lengths)), (q_a_limbs, .inl (cA, n_a_limbs, .inl a_a_limbs))] → va_S A H0 H locs → ∀ ls : Array Slot, lv_has ls 9 [(1, .ref q_a), (2, .int v2), (3, .ref q_a), (4, .int v4), (7, .ref q_t_plus), (8, .int v8)] → ∀ (he : ∀ (H : Heap) (locs : List Loc), va_P (dC, dI) vwCl [(q_t, .inr (1, [.int i0_t, .ref q_t_plus, .ref q_t_minus, .ref q_t_divisor, .int i4_t, .int i5_t])), (q_t_plus, .inl (cA, n_t_plus, .inl o.2)), (q_t_minus, .inl (cA, n_t_minus, .inl a_t_minus)), (q_t_divisor, .inl (cA, n_t_divisor, .inl a_t_divisor)), (q_a, .inr (0, [.int i0_a, .ref q_a_signs, .ref q_a_lengths, .ref q_a_limbs])), (q_a_signs, .inl (cA, n_a_signs, .inl a_a_signs)), (q_a_lengths, .inl (cA, n_a_lengths, .inl a_a_lengths)), (q_a_limbs, .inl (cA, n_a_limbs, .inl a_a_limbs))] H → va_D A [(q_t, .inr (1, [.int i0_t, .ref q_t_plus, .ref q_t_minus, .ref q_t_divisor, .int i4_t, .int i5_t])), (q_t_plus, .inl (cA, n_t_plus, .inl o.2)), (q_t_minus, .inl (cA, n_t_minus, .inl a_t_minus)), (q_t_divisor, .inl (cA, n_t_divisor, .inl a_t_divisor)), (q_a, .inr (0, [.int i0_a, .ref q_a_signs, .ref q_a_lengths, .ref q_a_limbs])), (q_a_signs, .inl (cA, n_a_signs, .inl a_a_signs)), (q_a_lengths, .inl (cA, n_a_lengths, .inl a_a_lengths)), (q_a_limbs, .inl (cA, n_a_limbs, .inl a_a_limbs))] → va_S A H0 H locs → ∀ ls : Array Slot, lv_has ls 9 [] → W p l e rm_S_addProductSame s m args below meth c H locs 0 0 Q (F0 m 78 ls [])), W p l e rm_S_addProductSame s m args below meth c H locs 0 0 Q (F0 m 44 ls []) := by
  intro j
  induction j with
  | zero =>
    intro v8 a_t_plus o hf
    rw [f_S_addProductSame_L44b] at hf
    cases hf
  | succ j ih =>
    intro v8 a_t_plus o hf H locs hP hD hS ls hl he
    rw [f_S_addProductSame_L44b] at hf
    refine lv_iload hx hb dX1_addProduct_44 (lv_at hl 5 rfl) ?_
    refine lv_aload_n hx hb dX1_addProduct_46 rfl (lv_at hl 0 rfl) ?_
    refine lv_iload_n hx hb dX1_addProduct_47 rfl (lv_at hl 1 rfl) ?_
    obtain ⟨x44, g45, hf⟩ := og_b hf
    refine kc_i (wr := [(q_t, .inr (1, [.int i0_t, .ref q_t_plus, .ref q_t_minus, .ref q_t_divisor, .int i4_t, .int i5_t])), (q_t_plus, .inl (cA, n_t_plus, .inl a_t_plus)), (q_t_minus, .inl (cA, n_t_minus, .inl a_t_minus)), (q_t_divisor, .inl (cA, n_t_divisor, .inl a_t_divisor))]) (w1 := [(q_a, .inr (0, [.int i0_a, .ref q_a_signs, .ref q_a_lengths, .ref q_a_limbs])), (q_a_signs, .inl (cA, n_a_signs, .inl a_a_signs)), (q_a_lengths, .inl (cA, n_a_lengths, .inl a_a_lengths)), (q_a_limbs, .inl (cA, n_a_limbs, .inl a_a_limbs))]) [4, 5, 6, 7] [0, 1, 2, 3] (va_runV (As := [.int v2]) (rest := [.int v8]) ⟨hx, hb, hml, hown, hts⟩ (c_N_lengthOf l dC dI cA H.size q_a q_a_signs q_a_lengths q_a_limbs i0_a n_a_signs a_a_signs n_a_lengths a_a_lengths n_a_limbs a_a_limbs v2 x44 g45) (cwV 1 hts gX1_addProduct_X0_lengthOf rfl rfl rfl (by decide +kernel) ⟨Nat.le_of_ble_eq_true rfl, Nat.le_of_ble_eq_true rfl⟩) (kc_preV hP hD hK [4, 5, 6, 7] rfl rfl (by decide) (ci := 0) (q0 := 4) rfl rfl) rfl rfl hl.1 rfl (lv_room (Nat.le_of_ble_eq_true rfl)) dX1_addProduct_48 ⟨Nat.le_of_ble_eq_true rfl, Nat.le_of_ble_eq_true rfl⟩) hP hD hS hA rfl rfl (by decide) (by decide) (fun H locs hP hD hS => ?_)
    have hP : va_P (dC, dI) vwCl [(q_t, .inr (1, [.int i0_t, .ref q_t_plus, .ref q_t_minus, .ref q_t_divisor, .int i4_t, .int i5_t])), (q_t_plus, .inl (cA, n_t_plus, .inl a_t_plus)), (q_t_minus, .inl (cA, n_t_minus, .inl a_t_minus)), (q_t_divisor, .inl (cA, n_t_divisor, .inl a_t_divisor)), (q_a, .inr (0, [.int i0_a, .ref q_a_signs, .ref q_a_lengths, .ref q_a_limbs])), (q_a_signs, .inl (cA, n_a_signs, .inl a_a_signs)), (q_a_lengths, .inl (cA, n_a_lengths, .inl a_a_lengths)), (q_a_limbs, .inl (cA, n_a_limbs, .inl a_a_limbs))] H := hP
    have hD : va_D A [(q_t, .inr (1, [.int i0_t, .ref q_t_plus, .ref q_t_minus, .ref q_t_divisor, .int i4_t, .int i5_t])), (q_t_plus, .inl (cA, n_t_plus, .inl a_t_plus)), (q_t_minus, .inl (cA, n_t_minus, .inl a_t_minus)), (q_t_divisor, .inl (cA, n_t_divisor, .inl a_t_divisor)), (q_a, .inr (0, [.int i0_a, .ref q_a_signs, .ref q_a_lengths, .ref q_a_limbs])), (q_a_signs, .inl (cA, n_a_signs, .inl a_a_signs)), (q_a_lengths, .inl (cA, n_a_lengths, .inl a_a_lengths)), (q_a_limbs, .inl (cA, n_a_limbs, .inl a_a_limbs))] := hD
    refine lv_icmp_ge (tgt := 78) hx hb dX1_addProduct_51 (by decide) (fun c46 => ?_) (fun c46 => ?_)
    · have hf := og_t c46 hf
      have e9 := Option.some.inj hf
      subst e9
      exact he _ _ (hP.sub [0, 1, 2, 3, 4, 5, 6, 7] rfl) (hD.sub [0, 1, 2, 3, 4, 5, 6, 7] (by decide) rfl) hS _ (lv_sub hl [] rfl)
    · have hf := og_f c46 hf
      refine lv_aload hx hb dX1_addProduct_54 (lv_at hl 4 rfl) ?_
      refine lv_iload hx hb dX1_addProduct_56 (lv_at hl 5 rfl) ?_
      refine lv_aload_n hx hb dX1_addProduct_58 rfl (lv_at hl 2 rfl) ?_
      refine lv_iload hx hb dX1_addProduct_59 (lv_at hl 3 rfl) ?_
      refine lv_aload_n hx hb dX1_addProduct_61 rfl (lv_at hl 0 rfl) ?_
      refine lv_iload_n hx hb dX1_addProduct_62 rfl (lv_at hl 1 rfl) ?_
      refine lv_iload hx hb dX1_addProduct_63 (lv_at hl 5 rfl) ?_
      obtain ⟨x47, g48, hf⟩ := og_b hf
      refine kc_i (wr := [(q_t, .inr (1, [.int i0_t, .ref q_t_plus, .ref q_t_minus, .ref q_t_divisor, .int i4_t, .int i5_t])), (q_t_plus, .inl (cA, n_t_plus, .inl a_t_plus)), (q_t_minus, .inl (cA, n_t_minus, .inl a_t_minus)), (q_t_divisor, .inl (cA, n_t_divisor, .inl a_t_divisor))]) (w1 := [(q_a, .inr (0, [.int i0_a, .ref q_a_signs, .ref q_a_lengths, .ref q_a_limbs])), (q_a_signs, .inl (cA, n_a_signs, .inl a_a_signs)), (q_a_lengths, .inl (cA, n_a_lengths, .inl a_a_lengths)), (q_a_limbs, .inl (cA, n_a_limbs, .inl a_a_limbs))]) [4, 5, 6, 7] [0, 1, 2, 3] (va_runV (As := [.int v2, .int v8]) (rest := [.int v4, .ref q_a, .int v8, .ref q_t_plus]) ⟨hx, hb, hml, hown, hts⟩ (c_N_limbOf l dC dI cA H.size q_a q_a_signs q_a_lengths q_a_limbs i0_a n_a_signs a_a_signs n_a_lengths a_a_lengths n_a_limbs a_a_limbs v2 v8 x47 g48) (cwV 2 hts gX1_addProduct_X0_limbOf rfl rfl rfl (by decide +kernel) ⟨Nat.le_of_ble_eq_true rfl, Nat.le_of_ble_eq_true rfl⟩) (kc_preV hP hD hK [4, 5, 6, 7] rfl rfl (by decide) (ci := 0) (q0 := 4) rfl rfl) rfl rfl hl.1 rfl (lv_room (Nat.le_of_ble_eq_true rfl)) dX1_addProduct_65 ⟨Nat.le_of_ble_eq_true rfl, Nat.le_of_ble_eq_true rfl⟩) hP hD hS hA rfl rfl (by decide) (by decide) (fun H locs hP hD hS => ?_)
      have hP : va_P (dC, dI) vwCl [(q_t, .inr (1, [.int i0_t, .ref q_t_plus, .ref q_t_minus, .ref q_t_divisor, .int i4_t, .int i5_t])), (q_t_plus, .inl (cA, n_t_plus, .inl a_t_plus)), (q_t_minus, .inl (cA, n_t_minus, .inl a_t_minus)), (q_t_divisor, .inl (cA, n_t_divisor, .inl a_t_divisor)), (q_a, .inr (0, [.int i0_a, .ref q_a_signs, .ref q_a_lengths, .ref q_a_limbs])), (q_a_signs, .inl (cA, n_a_signs, .inl a_a_signs)), (q_a_lengths, .inl (cA, n_a_lengths, .inl a_a_lengths)), (q_a_limbs, .inl (cA, n_a_limbs, .inl a_a_limbs))] H := hP
      have hD : va_D A [(q_t, .inr (1, [.int i0_t, .ref q_t_plus, .ref q_t_minus, .ref q_t_divisor, .int i4_t, .int i5_t])), (q_t_plus, .inl (cA, n_t_plus, .inl a_t_plus)), (q_t_minus, .inl (cA, n_t_minus, .inl a_t_minus)), (q_t_divisor, .inl (cA, n_t_divisor, .inl a_t_divisor)), (q_a, .inr (0, [.int i0_a, .ref q_a_signs, .ref q_a_lengths, .ref q_a_limbs])), (q_a_signs, .inl (cA, n_a_signs, .inl a_a_signs)), (q_a_lengths, .inl (cA, n_a_lengths, .inl a_a_lengths)), (q_a_limbs, .inl (cA, n_a_limbs, .inl a_a_limbs))] := hD
      refine lv_i2l (v := x47.toInt64) hx hb dX1_addProduct_68 rfl ?_
      obtain ⟨x49, g50, hf⟩ := og_b hf
      refine kc_v (wr := [(q_t, .inr (1, [.int i0_t, .ref q_t_plus, .ref q_t_minus, .ref q_t_divisor, .int i4_t, .int i5_t])), (q_t_minus, .inl (cA, n_t_minus, .inl a_t_minus)), (q_t_divisor, .inl (cA, n_t_divisor, .inl a_t_divisor))]) (w1 := [(q_t_plus, .inl (cA, n_t_plus, .inl x49)), (q_a, .inr (0, [.int i0_a, .ref q_a_signs, .ref q_a_lengths, .ref q_a_limbs])), (q_a_signs, .inl (cA, n_a_signs, .inl a_a_signs)), (q_a_lengths, .inl (cA, n_a_lengths, .inl a_a_lengths)), (q_a_limbs, .inl (cA, n_a_limbs, .inl a_a_limbs))]) [1, 4, 5, 6, 7] [0, 2, 3] (va_runS (As := [.ref q_t_plus, .int v8, .ref q_a, .int v4, .long x47.toInt64]) (rest := []) ⟨hx, hb, hml, hown, hts⟩ (c_S_addMultiple l dC dI cA H.size q_t_plus q_a q_a_signs q_a_lengths q_a_limbs k n_t_plus a_t_plus v8 i0_a n_a_signs a_a_signs n_a_lengths a_a_lengths n_a_limbs a_a_limbs v4 x47.toInt64 x49 g50) (va_cwS 5 hts gX1_addProduct_X1_addMultiple rfl rfl rfl (by decide +kernel) ⟨Nat.le_of_ble_eq_true rfl, Nat.le_of_ble_eq_true rfl⟩) (kc_preS hP hD hK [1, 4, 5, 6, 7] rfl rfl (by decide)) rfl rfl hl.1 rfl (lv_room (Nat.le_of_ble_eq_true rfl)) dX1_addProduct_69 ⟨Nat.le_of_ble_eq_true rfl, Nat.le_of_ble_eq_true rfl⟩) hP hD hS hA rfl rfl (by decide) (by decide) (fun H locs hP hD hS => ?_)
      have hP : va_P (dC, dI) vwCl [(q_t, .inr (1, [.int i0_t, .ref q_t_plus, .ref q_t_minus, .ref q_t_divisor, .int i4_t, .int i5_t])), (q_t_minus, .inl (cA, n_t_minus, .inl a_t_minus)), (q_t_divisor, .inl (cA, n_t_divisor, .inl a_t_divisor)), (q_t_plus, .inl (cA, n_t_plus, .inl x49)), (q_a, .inr (0, [.int i0_a, .ref q_a_signs, .ref q_a_lengths, .ref q_a_limbs])), (q_a_signs, .inl (cA, n_a_signs, .inl a_a_signs)), (q_a_lengths, .inl (cA, n_a_lengths, .inl a_a_lengths)), (q_a_limbs, .inl (cA, n_a_limbs, .inl a_a_limbs))] H := hP
      have hD : va_D A [(q_t, .inr (1, [.int i0_t, .ref q_t_plus, .ref q_t_minus, .ref q_t_divisor, .int i4_t, .int i5_t])), (q_t_minus, .inl (cA, n_t_minus, .inl a_t_minus)), (q_t_divisor, .inl (cA, n_t_divisor, .inl a_t_divisor)), (q_t_plus, .inl (cA, n_t_plus, .inl x49)), (q_a, .inr (0, [.int i0_a, .ref q_a_signs, .ref q_a_lengths, .ref q_a_limbs])), (q_a_signs, .inl (cA, n_a_signs, .inl a_a_signs)), (q_a_lengths, .inl (cA, n_a_lengths, .inl a_a_lengths)), (q_a_limbs, .inl (cA, n_a_limbs, .inl a_a_limbs))] := hD
      refine lv_iinc (v := v8 + 1) (lv' := [(8, .int (v8 + 1)), (1, .ref q_a), (2, .int v2), (3, .ref q_a), (4, .int v4), (7, .ref q_t_plus)]) hx hb dX1_addProduct_72 hl (k := 5) rfl rfl (by decide) rfl (fun ls hl => ?_)
      refine lv_goto (tgt := 44) hx hb dX1_addProduct_75 (by decide) ?_
      exact ih (v8 + 1) x49 _ hf _ _ (hP.sub [0, 3, 1, 2, 4, 5, 6, 7] rfl) (hD.sub [0, 3, 1, 2, 4, 5, 6, 7] (by decide) rfl) hS _ (lv_sub hl [1, 2, 3, 4, 5, 0] rfl) he
set_option maxHeartbeats 4000000 in
set_option maxRecDepth 100000 in
theorem c_S_addProductSame (l : Launch) (dC : Nat → ClassId) (dI : Nat → Nat → Nat) (cA : ClassId) (sz : Nat) (q_t : Nat) (q_t_plus : Nat) (q_t_minus : Nat) (q_t_divisor : Nat) (q_a : Nat) (q_a_signs : Nat) (q_a_lengths : Nat) (q_a_limbs : Nat) (k : Nat) (t_room : Int32) (t_sign : Int32) (t_length : Int32) (n_t_plus : Nat) (a_t_plus : Nat → Int32) (n_t_minus : Nat) (a_t_minus : Nat → Int32) (n_t_divisor : Nat) (a_t_divisor : Nat → Int32) (a_room : Int32) (n_a_signs : Nat) (a_a_signs : Nat → Int32) (n_a_lengths : Nat) (a_a_lengths : Nat → Int32) (n_a_limbs : Nat) (a_a_limbs : Nat → Int32) (slotA : Int32) (slotB : Int32) (factor : Int32) (o : (Nat → Int32) × (Nat → Int32)) (hf : f_S_addProductSame k n_t_plus a_t_plus n_t_minus a_t_minus a_room n_a_signs a_a_signs n_a_lengths a_a_lengths n_a_limbs a_a_limbs slotA slotB factor = some o) : Met l yX1_addProduct wsX1_addProduct rm_S_addProductSame (c_Pre (dC, dI) vwCl [(cA, .int)] [(q_t, .inr (1, [.int t_room, .ref q_t_plus, .ref q_t_minus, .ref q_t_divisor, .int t_sign, .int t_length])), (q_t_plus, .inl (cA, n_t_plus, .inl a_t_plus)), (q_t_minus, .inl (cA, n_t_minus, .inl a_t_minus)), (q_t_divisor, .inl (cA, n_t_divisor, .inl a_t_divisor)), (q_a, .inr (0, [.int a_room, .ref q_a_signs, .ref q_a_lengths, .ref q_a_limbs])), (q_a_signs, .inl (cA, n_a_signs, .inl a_a_signs)), (q_a_lengths, .inl (cA, n_a_lengths, .inl a_a_lengths)), (q_a_limbs, .inl (cA, n_a_limbs, .inl a_a_limbs))] sz [.ref q_t, .ref q_a, .int slotA, .ref q_a, .int slotB, .int factor]) (c_Qv (dC, dI) vwCl [(cA, .int)] [(q_t, .inr (1, [.int t_room, .ref q_t_plus, .ref q_t_minus, .ref q_t_divisor, .int t_sign, .int t_length])), (q_t_plus, .inl (cA, n_t_plus, .inl o.1)), (q_t_minus, .inl (cA, n_t_minus, .inl o.2)), (q_t_divisor, .inl (cA, n_t_divisor, .inl a_t_divisor)), (q_a, .inr (0, [.int a_room, .ref q_a_signs, .ref q_a_lengths, .ref q_a_limbs])), (q_a_signs, .inl (cA, n_a_signs, .inl a_a_signs)), (q_a_lengths, .inl (cA, n_a_lengths, .inl a_a_lengths)), (q_a_limbs, .inl (cA, n_a_limbs, .inl a_a_limbs))] (va_A [(q_t, .inr (1, [.int t_room, .ref q_t_plus, .ref q_t_minus, .ref q_t_divisor, .int t_sign, .int t_length])), (q_t_plus, .inl (cA, n_t_plus, .inl a_t_plus)), (q_t_minus, .inl (cA, n_t_minus, .inl a_t_minus)), (q_t_divisor, .inl (cA, n_t_divisor, .inl a_t_divisor)), (q_a, .inr (0, [.int a_room, .ref q_a_signs, .ref q_a_lengths, .ref q_a_limbs])), (q_a_signs, .inl (cA, n_a_signs, .inl a_a_signs)), (q_a_lengths, .inl (cA, n_a_lengths, .inl a_a_lengths)), (q_a_limbs, .inl (cA, n_a_limbs, .inl a_a_limbs))] sz)) 0 0 (va_A [(q_t, .inr (1, [.int t_room, .ref q_t_plus, .ref q_t_minus, .ref q_t_divisor, .int t_sign, .int t_length])), (q_t_plus, .inl (cA, n_t_plus, .inl a_t_plus)), (q_t_minus, .inl (cA, n_t_minus, .inl a_t_minus)), (q_t_divisor, .inl (cA, n_t_divisor, .inl a_t_divisor)), (q_a, .inr (0, [.int a_room, .ref q_a_signs, .ref q_a_lengths, .ref q_a_limbs])), (q_a_signs, .inl (cA, n_a_signs, .inl a_a_signs)), (q_a_lengths, .inl (cA, n_a_lengths, .inl a_a_lengths)), (q_a_limbs, .inl (cA, n_a_limbs, .inl a_a_limbs))] sz) := by
  unfold f_S_addProductSame at hf
  refine k_ent (Qc := fun A => c_Qv (dC, dI) vwCl [(cA, .int)] [(q_t, .inr (1, [.int t_room, .ref q_t_plus, .ref q_t_minus, .ref q_t_divisor, .int t_sign, .int t_length])), (q_t_plus, .inl (cA, n_t_plus, .inl o.1)), (q_t_minus, .inl (cA, n_t_minus, .inl o.2)), (q_t_divisor, .inl (cA, n_t_divisor, .inl a_t_divisor)), (q_a, .inr (0, [.int a_room, .ref q_a_signs, .ref q_a_lengths, .ref q_a_limbs])), (q_a_signs, .inl (cA, n_a_signs, .inl a_a_signs)), (q_a_lengths, .inl (cA, n_a_lengths, .inl a_a_lengths)), (q_a_limbs, .inl (cA, n_a_limbs, .inl a_a_limbs))] A) (by decide) rfl (Nat.le_of_ble_eq_true rfl) ?_
  intro p e s m below meth c A hx hb hr hown hts hml hlocks hin hsz hA hK H locs hP hD hS ls hl
  have hown : s.vm.findClass RX1 = some m.cls := hown
  have hl : lv_has ls 9 [(0, .ref q_t), (1, .ref q_a), (2, .int slotA), (3, .ref q_a), (4, .int slotB), (5, .int factor)] := hl
  refine lv_aload_n hx hb dX1_addProduct_0 rfl (lv_at hl 1 rfl) ?_
  refine lv_iload_n hx hb dX1_addProduct_1 rfl (lv_at hl 2 rfl) ?_
  obtain ⟨x1, g2, hf⟩ := og_b hf
  refine kc_i (wr := [(q_t, .inr (1, [.int t_room, .ref q_t_plus, .ref q_t_minus, .ref q_t_divisor, .int t_sign, .int t_length])), (q_t_plus, .inl (cA, n_t_plus, .inl a_t_plus)), (q_t_minus, .inl (cA, n_t_minus, .inl a_t_minus)), (q_t_divisor, .inl (cA, n_t_divisor, .inl a_t_divisor))]) (w1 := [(q_a, .inr (0, [.int a_room, .ref q_a_signs, .ref q_a_lengths, .ref q_a_limbs])), (q_a_signs, .inl (cA, n_a_signs, .inl a_a_signs)), (q_a_lengths, .inl (cA, n_a_lengths, .inl a_a_lengths)), (q_a_limbs, .inl (cA, n_a_limbs, .inl a_a_limbs))]) [4, 5, 6, 7] [0, 1, 2, 3] (va_runV (As := [.int slotA]) (rest := []) ⟨hx, hb, hml, hown, hts⟩ (c_N_signOf l dC dI cA H.size q_a q_a_signs q_a_lengths q_a_limbs a_room n_a_signs a_a_signs n_a_lengths a_a_lengths n_a_limbs a_a_limbs slotA x1 g2) (cwV 1 hts gX1_addProduct_X0_signOf rfl rfl rfl (by decide +kernel) ⟨Nat.le_of_ble_eq_true rfl, Nat.le_of_ble_eq_true rfl⟩) (kc_preV hP hD hK [4, 5, 6, 7] rfl rfl (by decide) (ci := 0) (q0 := 4) rfl rfl) rfl rfl hl.1 rfl (lv_room (Nat.le_of_ble_eq_true rfl)) dX1_addProduct_2 ⟨Nat.le_of_ble_eq_true rfl, Nat.le_of_ble_eq_true rfl⟩) hP hD hS hA rfl rfl (by decide) (by decide) (fun H locs hP hD hS => ?_)
  have hP : va_P (dC, dI) vwCl [(q_t, .inr (1, [.int t_room, .ref q_t_plus, .ref q_t_minus, .ref q_t_divisor, .int t_sign, .int t_length])), (q_t_plus, .inl (cA, n_t_plus, .inl a_t_plus)), (q_t_minus, .inl (cA, n_t_minus, .inl a_t_minus)), (q_t_divisor, .inl (cA, n_t_divisor, .inl a_t_divisor)), (q_a, .inr (0, [.int a_room, .ref q_a_signs, .ref q_a_lengths, .ref q_a_limbs])), (q_a_signs, .inl (cA, n_a_signs, .inl a_a_signs)), (q_a_lengths, .inl (cA, n_a_lengths, .inl a_a_lengths)), (q_a_limbs, .inl (cA, n_a_limbs, .inl a_a_limbs))] H := hP
  have hD : va_D A [(q_t, .inr (1, [.int t_room, .ref q_t_plus, .ref q_t_minus, .ref q_t_divisor, .int t_sign, .int t_length])), (q_t_plus, .inl (cA, n_t_plus, .inl a_t_plus)), (q_t_minus, .inl (cA, n_t_minus, .inl a_t_minus)), (q_t_divisor, .inl (cA, n_t_divisor, .inl a_t_divisor)), (q_a, .inr (0, [.int a_room, .ref q_a_signs, .ref q_a_lengths, .ref q_a_limbs])), (q_a_signs, .inl (cA, n_a_signs, .inl a_a_signs)), (q_a_lengths, .inl (cA, n_a_lengths, .inl a_a_lengths)), (q_a_limbs, .inl (cA, n_a_limbs, .inl a_a_limbs))] := hD
  refine lv_aload_n hx hb dX1_addProduct_5 rfl (lv_at hl 3 rfl) ?_
  refine lv_iload hx hb dX1_addProduct_6 (lv_at hl 4 rfl) ?_
  obtain ⟨x3, g4, hf⟩ := og_b hf
  refine kc_i (wr := [(q_t, .inr (1, [.int t_room, .ref q_t_plus, .ref q_t_minus, .ref q_t_divisor, .int t_sign, .int t_length])), (q_t_plus, .inl (cA, n_t_plus, .inl a_t_plus)), (q_t_minus, .inl (cA, n_t_minus, .inl a_t_minus)), (q_t_divisor, .inl (cA, n_t_divisor, .inl a_t_divisor))]) (w1 := [(q_a, .inr (0, [.int a_room, .ref q_a_signs, .ref q_a_lengths, .ref q_a_limbs])), (q_a_signs, .inl (cA, n_a_signs, .inl a_a_signs)), (q_a_lengths, .inl (cA, n_a_lengths, .inl a_a_lengths)), (q_a_limbs, .inl (cA, n_a_limbs, .inl a_a_limbs))]) [4, 5, 6, 7] [0, 1, 2, 3] (va_runV (As := [.int slotB]) (rest := [.int x1]) ⟨hx, hb, hml, hown, hts⟩ (c_N_signOf l dC dI cA H.size q_a q_a_signs q_a_lengths q_a_limbs a_room n_a_signs a_a_signs n_a_lengths a_a_lengths n_a_limbs a_a_limbs slotB x3 g4) (cwV 1 hts gX1_addProduct_X0_signOf rfl rfl rfl (by decide +kernel) ⟨Nat.le_of_ble_eq_true rfl, Nat.le_of_ble_eq_true rfl⟩) (kc_preV hP hD hK [4, 5, 6, 7] rfl rfl (by decide) (ci := 0) (q0 := 4) rfl rfl) rfl rfl hl.1 rfl (lv_room (Nat.le_of_ble_eq_true rfl)) dX1_addProduct_8 ⟨Nat.le_of_ble_eq_true rfl, Nat.le_of_ble_eq_true rfl⟩) hP hD hS hA rfl rfl (by decide) (by decide) (fun H locs hP hD hS => ?_)
  have hP : va_P (dC, dI) vwCl [(q_t, .inr (1, [.int t_room, .ref q_t_plus, .ref q_t_minus, .ref q_t_divisor, .int t_sign, .int t_length])), (q_t_plus, .inl (cA, n_t_plus, .inl a_t_plus)), (q_t_minus, .inl (cA, n_t_minus, .inl a_t_minus)), (q_t_divisor, .inl (cA, n_t_divisor, .inl a_t_divisor)), (q_a, .inr (0, [.int a_room, .ref q_a_signs, .ref q_a_lengths, .ref q_a_limbs])), (q_a_signs, .inl (cA, n_a_signs, .inl a_a_signs)), (q_a_lengths, .inl (cA, n_a_lengths, .inl a_a_lengths)), (q_a_limbs, .inl (cA, n_a_limbs, .inl a_a_limbs))] H := hP
  have hD : va_D A [(q_t, .inr (1, [.int t_room, .ref q_t_plus, .ref q_t_minus, .ref q_t_divisor, .int t_sign, .int t_length])), (q_t_plus, .inl (cA, n_t_plus, .inl a_t_plus)), (q_t_minus, .inl (cA, n_t_minus, .inl a_t_minus)), (q_t_divisor, .inl (cA, n_t_divisor, .inl a_t_divisor)), (q_a, .inr (0, [.int a_room, .ref q_a_signs, .ref q_a_lengths, .ref q_a_limbs])), (q_a_signs, .inl (cA, n_a_signs, .inl a_a_signs)), (q_a_lengths, .inl (cA, n_a_lengths, .inl a_a_lengths)), (q_a_limbs, .inl (cA, n_a_limbs, .inl a_a_limbs))] := hD
  refine lv_imul hx hb dX1_addProduct_11 ?_
  refine lv_iload hx hb dX1_addProduct_12 (lv_at hl 5 rfl) ?_
  refine lv_imul hx hb dX1_addProduct_14 ?_
  refine lv_istore (lv' := [(6, .int ((x1 * x3) * factor)), (0, .ref q_t), (1, .ref q_a), (2, .int slotA), (3, .ref q_a), (4, .int slotB), (5, .int factor)]) hx hb dX1_addProduct_15 hl (by decide) rfl (fun ls hl => ?_)
  refine lv_iload hx hb dX1_addProduct_17 (lv_at hl 0 rfl) ?_
  refine lv_if_ne (tgt := 23) hx hb dX1_addProduct_19 (by decide) (fun c5 => ?_) (fun c5 => ?_)
  · have hf := og_f c5 hf
    refine lv_iload hx hb dX1_addProduct_23 (lv_at hl 0 rfl) ?_
    refine lv_if_le (tgt := 35) hx hb dX1_addProduct_25 (by decide) (fun c6 => ?_) (fun c6 => ?_)
    · have hf := og_t c6 hf
      refine lv_aload_n hx hb dX1_addProduct_35 rfl (lv_at hl 1 rfl) ?_
      refine va_get (D := (dC, dI)) (ci := 1) (v := .ref q_t_minus) (C := RX1) (T := TX1) (N := 6) hx hb hts ki_S_addProductSame_X1 hown hK hP 0 rfl rfl 2 (by decide) (hts (.fieldLink RX1 19 "MinorSteps$Sum" "minus" "[I") kw_S_addProductSame_0) (fun _ h9 => h9) rfl dX1_addProduct_36 ?_
      refine lv_astore (lv' := [(7, .ref q_t_minus), (6, .int ((x1 * x3) * factor)), (0, .ref q_t), (1, .ref q_a), (2, .int slotA), (3, .ref q_a), (4, .int slotB), (5, .int factor)]) hx hb dX1_addProduct_39 hl (by decide) rfl (fun ls hl => ?_)
      refine lv_iconst (v := 0) hx hb dX1_addProduct_41 (by decide) ?_
      refine lv_istore (lv' := [(8, .int 0), (7, .ref q_t_minus), (6, .int ((x1 * x3) * factor)), (0, .ref q_t), (1, .ref q_a), (2, .int slotA), (3, .ref q_a), (4, .int slotB), (5, .int factor)]) hx hb dX1_addProduct_42 hl (by decide) rfl (fun ls hl => ?_)
      obtain ⟨x28, g29, hf⟩ := og_b hf
      refine w_S_addProductSame_L44 hx hb hown hts hml hA hK k q_t q_t_plus q_t_minus q_t_divisor q_a q_a_signs q_a_lengths q_a_limbs slotA slotB t_room t_sign t_length n_t_plus a_t_plus n_t_minus n_t_divisor a_t_divisor a_room n_a_signs a_a_signs n_a_lengths a_a_lengths n_a_limbs a_a_limbs k (0 : Int32) a_t_minus _ g29 _ _ (hP.sub [0, 1, 2, 3, 4, 5, 6, 7] rfl) (hD.sub [0, 1, 2, 3, 4, 5, 6, 7] (by decide) rfl) hS _ (lv_sub hl [4, 5, 6, 7, 1, 0] rfl) ?_
      intro H locs hP hD hS ls hl
      have e9 := Option.some.inj hf
      subst e9
      exact kr_v hx hb hr hlocks hK hS (hP.sub [0, 1, 2, 3, 4, 5, 6, 7] rfl) (hD.sub [0, 1, 2, 3, 4, 5, 6, 7] (by decide) rfl) dX1_addProduct_78
    · have hf := og_f c6 hf
      refine lv_aload_n hx hb dX1_addProduct_28 rfl (lv_at hl 1 rfl) ?_
      refine va_get (D := (dC, dI)) (ci := 1) (v := .ref q_t_plus) (C := RX1) (T := TX1) (N := 6) hx hb hts ki_S_addProductSame_X1 hown hK hP 0 rfl rfl 1 (by decide) (hts (.fieldLink RX1 15 "MinorSteps$Sum" "plus" "[I") kw_S_addProductSame_1) (fun _ h9 => h9) rfl dX1_addProduct_29 ?_
      refine lv_goto (tgt := 39) hx hb dX1_addProduct_32 (by decide) ?_
      refine lv_astore (lv' := [(7, .ref q_t_plus), (6, .int ((x1 * x3) * factor)), (0, .ref q_t), (1, .ref q_a), (2, .int slotA), (3, .ref q_a), (4, .int slotB), (5, .int factor)]) hx hb dX1_addProduct_39 hl (by decide) rfl (fun ls hl => ?_)
      refine lv_iconst (v := 0) hx hb dX1_addProduct_41 (by decide) ?_
      refine lv_istore (lv' := [(8, .int 0), (7, .ref q_t_plus), (6, .int ((x1 * x3) * factor)), (0, .ref q_t), (1, .ref q_a), (2, .int slotA), (3, .ref q_a), (4, .int slotB), (5, .int factor)]) hx hb dX1_addProduct_42 hl (by decide) rfl (fun ls hl => ?_)
      obtain ⟨x51, g52, hf⟩ := og_b hf
      refine w_S_addProductSame_L44b hx hb hown hts hml hA hK k q_t q_t_plus q_t_minus q_t_divisor q_a q_a_signs q_a_lengths q_a_limbs slotA slotB t_room t_sign t_length n_t_plus n_t_minus a_t_minus n_t_divisor a_t_divisor a_room n_a_signs a_a_signs n_a_lengths a_a_lengths n_a_limbs a_a_limbs k (0 : Int32) a_t_plus _ g52 _ _ (hP.sub [0, 1, 2, 3, 4, 5, 6, 7] rfl) (hD.sub [0, 1, 2, 3, 4, 5, 6, 7] (by decide) rfl) hS _ (lv_sub hl [4, 5, 6, 7, 1, 0] rfl) ?_
      intro H locs hP hD hS ls hl
      have e9 := Option.some.inj hf
      subst e9
      exact kr_v hx hb hr hlocks hK hS (hP.sub [0, 1, 2, 3, 4, 5, 6, 7] rfl) (hD.sub [0, 1, 2, 3, 4, 5, 6, 7] (by decide) rfl) dX1_addProduct_78
  · have hf := og_t c5 hf
    have e9 := Option.some.inj hf
    subst e9
    exact kr_v hx hb hr hlocks hK hS (hP.sub [0, 1, 2, 3, 4, 5, 6, 7] rfl) (hD.sub [0, 1, 2, 3, 4, 5, 6, 7] (by decide) rfl) dX1_addProduct_22
def rm_S_compareSides : Room := { frames := 0, cells := 0, slots := 0, locals := 0 }
theorem kw_S_compareSides_0 : (.fieldLink RX1 15 "MinorSteps$Sum" "plus" "[I" : Cond) ∈ wsX1_compareSides := by decide +kernel
theorem kw_S_compareSides_1 : (.fieldLink RX1 19 "MinorSteps$Sum" "minus" "[I" : Cond) ∈ wsX1_compareSides := by decide +kernel
theorem ki_S_compareSides_X1 : ∀ w ∈ u_ws RX1 TX1 6, w ∈ wsX1_compareSides := by decide +kernel
set_option maxHeartbeats 4000000 in
set_option maxRecDepth 100000 in
theorem w_S_compareSides_L8 {p : Program} {l : Launch} {e : Env} {s : State} {m : MethodId} {args : Array Value} {below : List Frame} {meth : Method} {c : Code} {Q : State → Prop} {A : Nat → Prop} {H0 : Heap} {dC : Nat → ClassId} {dI : Nat → Nat → Nat} {cA : ClassId} (hx : p.tables.exec = Jvm.exec) (hb : c.code = cX1_compareSides) (hown : s.vm.findClass RX1 = some m.cls) (hts : ∀ w ∈ wsX1_compareSides, w.before args s = true) (hml : c.maxLocals = 2) (hA : ∀ q, H0.size ≤ q → A q) (hK : va_K (dC, dI) vwCl [(cA, .int)] s) (k : Nat) (q_t : Nat) (q_t_plus : Nat) (q_t_minus : Nat) (q_t_divisor : Nat) (i0_t : Int32) (i4_t : Int32) (i5_t : Int32) (n_t_plus : Nat) (a_t_plus : Nat → Int32) (n_t_minus : Nat) (a_t_minus : Nat → Int32) (n_t_divisor : Nat) (a_t_divisor : Nat → Int32) : ∀ (j : Nat) (v1 : Int32) (o : Bool × Int32 × Int32), f_S_compareSides_L8 k n_t_plus a_t_plus n_t_minus a_t_minus j v1 = some o → ∀ (H : Heap) (locs : List Loc), va_P (dC, dI) vwCl [(q_t, .inr (1, [.int i0_t, .ref q_t_plus, .ref q_t_minus, .ref q_t_divisor, .int i4_t, .int i5_t])), (q_t_plus, .inl (cA, n_t_plus, .inl a_t_plus)), (q_t_minus, .inl (cA, n_t_minus, .inl a_t_minus)), (q_t_divisor, .inl (cA, n_t_divisor, .inl a_t_divisor))] H → va_D A [(q_t, .inr (1, [.int i0_t, .ref q_t_plus, .ref q_t_minus, .ref q_t_divisor, .int i4_t, .int i5_t])), (q_t_plus, .inl (cA, n_t_plus, .inl a_t_plus)), (q_t_minus, .inl (cA, n_t_minus, .inl a_t_minus)), (q_t_divisor, .inl (cA, n_t_divisor, .inl a_t_divisor))] → va_S A H0 H locs → ∀ ls : Array Slot, lv_has ls 2 [(0, .ref q_t), (1, .int v1)] → ∀ (he : ¬ o.1 = true → ∀ (H : Heap) (locs : List Loc), va_P (dC, dI) vwCl [(q_t, .inr (1, [.int i0_t, .ref q_t_plus, .ref q_t_minus, .ref q_t_divisor, .int i4_t, .int i5_t])), (q_t_plus, .inl (cA, n_t_plus, .inl a_t_plus)), (q_t_minus, .inl (cA, n_t_minus, .inl a_t_minus)), (q_t_divisor, .inl (cA, n_t_divisor, .inl a_t_divisor))] H → va_D A [(q_t, .inr (1, [.int i0_t, .ref q_t_plus, .ref q_t_minus, .ref q_t_divisor, .int i4_t, .int i5_t])), (q_t_plus, .inl (cA, n_t_plus, .inl a_t_plus)), (q_t_minus, .inl (cA, n_t_minus, .inl a_t_minus)), (q_t_divisor, .inl (cA, n_t_divisor, .inl a_t_divisor))] → va_S A H0 H locs → ∀ ls : Array Slot, lv_has ls 2 [] → W p l e rm_S_compareSides s m args below meth c H locs 0 0 Q (F0 m 54 ls [])) (hrt : o.1 = true → ∀ (H : Heap) (locs : List Loc), va_P (dC, dI) vwCl [(q_t, .inr (1, [.int i0_t, .ref q_t_plus, .ref q_t_minus, .ref q_t_divisor, .int i4_t, .int i5_t])), (q_t_plus, .inl (cA, n_t_plus, .inl a_t_plus)), (q_t_minus, .inl (cA, n_t_minus, .inl a_t_minus)), (q_t_divisor, .inl (cA, n_t_divisor, .inl a_t_divisor))] H → va_D A [(q_t, .inr (1, [.int i0_t, .ref q_t_plus, .ref q_t_minus, .ref q_t_divisor, .int i4_t, .int i5_t])), (q_t_plus, .inl (cA, n_t_plus, .inl a_t_plus)), (q_t_minus, .inl (cA, n_t_minus, .inl a_t_minus)), (q_t_divisor, .inl (cA, n_t_divisor, .inl a_t_divisor))] → va_S A H0 H locs → ∀ ls : Array Slot, W p l e rm_S_compareSides s m args below meth c H locs 0 0 Q (F0 m 47 ls [.int o.2.1])), W p l e rm_S_compareSides s m args below meth c H locs 0 0 Q (F0 m 8 ls []) := by
  intro j
  induction j with
  | zero =>
    intro v1 o hf
    rw [f_S_compareSides_L8] at hf
    cases hf
  | succ j ih =>
    intro v1 o hf H locs hP hD hS ls hl he hrt
    rw [f_S_compareSides_L8] at hf
    refine lv_iload_n hx hb dX1_compareSides_8 rfl (lv_at hl 1 rfl) ?_
    refine lv_if_lt (tgt := 54) hx hb dX1_compareSides_9 (by decide) (fun c15 => ?_) (fun c15 => ?_)
    · have hf := og_t c15 hf
      have e9 := Option.some.inj hf
      subst e9
      exact he (by decide) _ _ (hP.sub [0, 1, 2, 3] rfl) (hD.sub [0, 1, 2, 3] (by decide) rfl) hS _ (lv_sub hl [] rfl)
    · have hf := og_f c15 hf
      refine lv_aload_n hx hb dX1_compareSides_12 rfl (lv_at hl 0 rfl) ?_
      refine va_get (D := (dC, dI)) (ci := 1) (v := .ref q_t_plus) (C := RX1) (T := TX1) (N := 6) hx hb hts ki_S_compareSides_X1 hown hK hP 0 rfl rfl 1 (by decide) (hts (.fieldLink RX1 15 "MinorSteps$Sum" "plus" "[I") kw_S_compareSides_0) (fun _ h9 => h9) rfl dX1_compareSides_13 ?_
      refine lv_iload_n hx hb dX1_compareSides_16 rfl (lv_at hl 1 rfl) ?_
      obtain ⟨g16, hf⟩ := og_c hf
      refine va_iald hx hb hK hP 1 0 rfl rfl (og_in g16) dX1_compareSides_17 ?_
      refine lv_aload_n hx hb dX1_compareSides_18 rfl (lv_at hl 0 rfl) ?_
      refine va_get (D := (dC, dI)) (ci := 1) (v := .ref q_t_minus) (C := RX1) (T := TX1) (N := 6) hx hb hts ki_S_compareSides_X1 hown hK hP 0 rfl rfl 2 (by decide) (hts (.fieldLink RX1 19 "MinorSteps$Sum" "minus" "[I") kw_S_compareSides_1) (fun _ h9 => h9) rfl dX1_compareSides_19 ?_
      refine lv_iload_n hx hb dX1_compareSides_22 rfl (lv_at hl 1 rfl) ?_
      obtain ⟨g17, hf⟩ := og_c hf
      refine va_iald hx hb hK hP 2 0 rfl rfl (og_in g17) dX1_compareSides_23 ?_
      refine lv_icmp_eq (tgt := 48) hx hb dX1_compareSides_24 (by decide) (fun c18 => ?_) (fun c18 => ?_)
      · have hf := og_t c18 hf
        refine lv_iinc (v := v1 + (-1)) (lv' := [(1, .int (v1 + (-1))), (0, .ref q_t)]) hx hb dX1_compareSides_48 hl (k := 1) rfl rfl (by decide) rfl (fun ls hl => ?_)
        refine lv_goto (tgt := 8) hx hb dX1_compareSides_51 (by decide) ?_
        exact ih (v1 + (-1)) _ hf _ _ (hP.sub [0, 1, 2, 3] rfl) (hD.sub [0, 1, 2, 3] (by decide) rfl) hS _ (lv_sub hl [1, 0] rfl) he hrt
      · have hf := og_f c18 hf
        refine lv_aload_n hx hb dX1_compareSides_27 rfl (lv_at hl 0 rfl) ?_
        refine va_get (D := (dC, dI)) (ci := 1) (v := .ref q_t_plus) (C := RX1) (T := TX1) (N := 6) hx hb hts ki_S_compareSides_X1 hown hK hP 0 rfl rfl 1 (by decide) (hts (.fieldLink RX1 15 "MinorSteps$Sum" "plus" "[I") kw_S_compareSides_0) (fun _ h9 => h9) rfl dX1_compareSides_28 ?_
        refine lv_iload_n hx hb dX1_compareSides_31 rfl (lv_at hl 1 rfl) ?_
        obtain ⟨g19, hf⟩ := og_c hf
        refine va_iald hx hb hK hP 1 0 rfl rfl (og_in g19) dX1_compareSides_32 ?_
        refine lv_aload_n hx hb dX1_compareSides_33 rfl (lv_at hl 0 rfl) ?_
        refine va_get (D := (dC, dI)) (ci := 1) (v := .ref q_t_minus) (C := RX1) (T := TX1) (N := 6) hx hb hts ki_S_compareSides_X1 hown hK hP 0 rfl rfl 2 (by decide) (hts (.fieldLink RX1 19 "MinorSteps$Sum" "minus" "[I") kw_S_compareSides_1) (fun _ h9 => h9) rfl dX1_compareSides_34 ?_
        refine lv_iload_n hx hb dX1_compareSides_37 rfl (lv_at hl 1 rfl) ?_
        obtain ⟨g20, hf⟩ := og_c hf
        refine va_iald hx hb hK hP 2 0 rfl rfl (og_in g20) dX1_compareSides_38 ?_
        refine lv_icmp_le (tgt := 46) hx hb dX1_compareSides_39 (by decide) (fun c21 => ?_) (fun c21 => ?_)
        · have hf := og_t c21 hf
          refine lv_iconst (v := (-1)) hx hb dX1_compareSides_46 (by decide) ?_
          have e9 := Option.some.inj hf
          subst e9
          exact hrt rfl _ _ (hP.sub [0, 1, 2, 3] rfl) (hD.sub [0, 1, 2, 3] (by decide) rfl) hS _
        · have hf := og_f c21 hf
          refine lv_iconst (v := 1) hx hb dX1_compareSides_42 (by decide) ?_
          refine lv_goto (tgt := 47) hx hb dX1_compareSides_43 (by decide) ?_
          have e9 := Option.some.inj hf
          subst e9
          exact hrt rfl _ _ (hP.sub [0, 1, 2, 3] rfl) (hD.sub [0, 1, 2, 3] (by decide) rfl) hS _
set_option maxHeartbeats 4000000 in
set_option maxRecDepth 100000 in
theorem c_S_compareSides (l : Launch) (dC : Nat → ClassId) (dI : Nat → Nat → Nat) (cA : ClassId) (sz : Nat) (q_t : Nat) (q_t_plus : Nat) (q_t_minus : Nat) (q_t_divisor : Nat) (k : Nat) (t_room : Int32) (t_sign : Int32) (t_length : Int32) (n_t_plus : Nat) (a_t_plus : Nat → Int32) (n_t_minus : Nat) (a_t_minus : Nat → Int32) (n_t_divisor : Nat) (a_t_divisor : Nat → Int32) (o : Int32) (hf : f_S_compareSides k n_t_plus a_t_plus n_t_minus a_t_minus = some o) : Met l yX1_compareSides wsX1_compareSides rm_S_compareSides (c_Pre (dC, dI) vwCl [(cA, .int)] [(q_t, .inr (1, [.int t_room, .ref q_t_plus, .ref q_t_minus, .ref q_t_divisor, .int t_sign, .int t_length])), (q_t_plus, .inl (cA, n_t_plus, .inl a_t_plus)), (q_t_minus, .inl (cA, n_t_minus, .inl a_t_minus)), (q_t_divisor, .inl (cA, n_t_divisor, .inl a_t_divisor))] sz [.ref q_t]) (c_Qi (dC, dI) vwCl [(cA, .int)] [(q_t, .inr (1, [.int t_room, .ref q_t_plus, .ref q_t_minus, .ref q_t_divisor, .int t_sign, .int t_length])), (q_t_plus, .inl (cA, n_t_plus, .inl a_t_plus)), (q_t_minus, .inl (cA, n_t_minus, .inl a_t_minus)), (q_t_divisor, .inl (cA, n_t_divisor, .inl a_t_divisor))] (va_A [(q_t, .inr (1, [.int t_room, .ref q_t_plus, .ref q_t_minus, .ref q_t_divisor, .int t_sign, .int t_length])), (q_t_plus, .inl (cA, n_t_plus, .inl a_t_plus)), (q_t_minus, .inl (cA, n_t_minus, .inl a_t_minus)), (q_t_divisor, .inl (cA, n_t_divisor, .inl a_t_divisor))] sz) o) 0 0 (va_A [(q_t, .inr (1, [.int t_room, .ref q_t_plus, .ref q_t_minus, .ref q_t_divisor, .int t_sign, .int t_length])), (q_t_plus, .inl (cA, n_t_plus, .inl a_t_plus)), (q_t_minus, .inl (cA, n_t_minus, .inl a_t_minus)), (q_t_divisor, .inl (cA, n_t_divisor, .inl a_t_divisor))] sz) := by
  unfold f_S_compareSides at hf
  refine k_ent (Qc := fun A => c_Qi (dC, dI) vwCl [(cA, .int)] [(q_t, .inr (1, [.int t_room, .ref q_t_plus, .ref q_t_minus, .ref q_t_divisor, .int t_sign, .int t_length])), (q_t_plus, .inl (cA, n_t_plus, .inl a_t_plus)), (q_t_minus, .inl (cA, n_t_minus, .inl a_t_minus)), (q_t_divisor, .inl (cA, n_t_divisor, .inl a_t_divisor))] A o) (by decide) rfl (Nat.le_of_ble_eq_true rfl) ?_
  intro p e s m below meth c A hx hb hr hown hts hml hlocks hin hsz hA hK H locs hP hD hS ls hl
  have hown : s.vm.findClass RX1 = some m.cls := hown
  have hl : lv_has ls 2 [(0, .ref q_t)] := hl
  refine lv_aload_n hx hb dX1_compareSides_0 rfl (lv_at hl 0 rfl) ?_
  refine va_get (D := (dC, dI)) (ci := 1) (v := .ref q_t_plus) (C := RX1) (T := TX1) (N := 6) hx hb hts ki_S_compareSides_X1 hown hK hP 0 rfl rfl 1 (by decide) (hts (.fieldLink RX1 15 "MinorSteps$Sum" "plus" "[I") kw_S_compareSides_0) (fun _ h9 => h9) rfl dX1_compareSides_1 ?_
  refine va_alen hx hb hK hP 1 0 rfl rfl (v := nI n_t_plus) rfl dX1_compareSides_4 ?_
  refine lv_iconst (v := 1) hx hb dX1_compareSides_5 (by decide) ?_
  refine lv_isub hx hb dX1_compareSides_6 ?_
  refine lv_istore_n (lv' := [(1, .int ((nI n_t_plus) - 1)), (0, .ref q_t)]) hx hb dX1_compareSides_7 rfl hl (by decide) rfl (fun ls hl => ?_)
  obtain ⟨x22, g23, hf⟩ := og_b hf
  by_cases c24 : x22.1 = true
  · have hf := og_t c24 hf
    refine w_S_compareSides_L8 hx hb hown hts hml hA hK k q_t q_t_plus q_t_minus q_t_divisor t_room t_sign t_length n_t_plus a_t_plus n_t_minus a_t_minus n_t_divisor a_t_divisor k ((nI n_t_plus) - 1) _ g23 _ _ (hP.sub [0, 1, 2, 3] rfl) (hD.sub [0, 1, 2, 3] (by decide) rfl) hS _ (lv_sub hl [1, 0] rfl) (fun e9 => absurd c24 e9) (fun _ H locs hP hD hS ls => ?_)
    have e9 := Option.some.inj hf
    subst e9
    exact kr_i hx hb hr hlocks hK hS (hP.sub [0, 1, 2, 3] rfl) (hD.sub [0, 1, 2, 3] (by decide) rfl) dX1_compareSides_47
  · have hf := og_f c24 hf
    refine w_S_compareSides_L8 hx hb hown hts hml hA hK k q_t q_t_plus q_t_minus q_t_divisor t_room t_sign t_length n_t_plus a_t_plus n_t_minus a_t_minus n_t_divisor a_t_divisor k ((nI n_t_plus) - 1) _ g23 _ _ (hP.sub [0, 1, 2, 3] rfl) (hD.sub [0, 1, 2, 3] (by decide) rfl) hS _ (lv_sub hl [1, 0] rfl) (fun _ H locs hP hD hS ls hl => ?_) (fun e9 => absurd e9 c24)
    refine lv_iconst (v := 0) hx hb dX1_compareSides_54 (by decide) ?_
    have e9 := Option.some.inj hf
    subst e9
    exact kr_i hx hb hr hlocks hK hS (hP.sub [0, 1, 2, 3] rfl) (hD.sub [0, 1, 2, 3] (by decide) rfl) dX1_compareSides_55
def rm_S_isZero : Room := { frames := 1, cells := 0, slots := 0, locals := 21 }
set_option maxHeartbeats 4000000 in
set_option maxRecDepth 100000 in
theorem c_S_isZero (l : Launch) (dC : Nat → ClassId) (dI : Nat → Nat → Nat) (cA : ClassId) (sz : Nat) (q_t : Nat) (q_t_plus : Nat) (q_t_minus : Nat) (q_t_divisor : Nat) (k : Nat) (t_room : Int32) (t_sign : Int32) (t_length : Int32) (n_t_plus : Nat) (a_t_plus : Nat → Int32) (n_t_minus : Nat) (a_t_minus : Nat → Int32) (n_t_divisor : Nat) (a_t_divisor : Nat → Int32) (o : Int32) (hf : f_S_isZero k n_t_plus a_t_plus n_t_minus a_t_minus = some o) : Met l yX1_isZero wsX1_isZero rm_S_isZero (c_Pre (dC, dI) vwCl [(cA, .int)] [(q_t, .inr (1, [.int t_room, .ref q_t_plus, .ref q_t_minus, .ref q_t_divisor, .int t_sign, .int t_length])), (q_t_plus, .inl (cA, n_t_plus, .inl a_t_plus)), (q_t_minus, .inl (cA, n_t_minus, .inl a_t_minus)), (q_t_divisor, .inl (cA, n_t_divisor, .inl a_t_divisor))] sz [.ref q_t]) (c_Qi (dC, dI) vwCl [(cA, .int)] [(q_t, .inr (1, [.int t_room, .ref q_t_plus, .ref q_t_minus, .ref q_t_divisor, .int t_sign, .int t_length])), (q_t_plus, .inl (cA, n_t_plus, .inl a_t_plus)), (q_t_minus, .inl (cA, n_t_minus, .inl a_t_minus)), (q_t_divisor, .inl (cA, n_t_divisor, .inl a_t_divisor))] (va_A [(q_t, .inr (1, [.int t_room, .ref q_t_plus, .ref q_t_minus, .ref q_t_divisor, .int t_sign, .int t_length])), (q_t_plus, .inl (cA, n_t_plus, .inl a_t_plus)), (q_t_minus, .inl (cA, n_t_minus, .inl a_t_minus)), (q_t_divisor, .inl (cA, n_t_divisor, .inl a_t_divisor))] sz) o) 0 0 (va_A [(q_t, .inr (1, [.int t_room, .ref q_t_plus, .ref q_t_minus, .ref q_t_divisor, .int t_sign, .int t_length])), (q_t_plus, .inl (cA, n_t_plus, .inl a_t_plus)), (q_t_minus, .inl (cA, n_t_minus, .inl a_t_minus)), (q_t_divisor, .inl (cA, n_t_divisor, .inl a_t_divisor))] sz) := by
  unfold f_S_isZero at hf
  refine k_ent (Qc := fun A => c_Qi (dC, dI) vwCl [(cA, .int)] [(q_t, .inr (1, [.int t_room, .ref q_t_plus, .ref q_t_minus, .ref q_t_divisor, .int t_sign, .int t_length])), (q_t_plus, .inl (cA, n_t_plus, .inl a_t_plus)), (q_t_minus, .inl (cA, n_t_minus, .inl a_t_minus)), (q_t_divisor, .inl (cA, n_t_divisor, .inl a_t_divisor))] A o) (by decide) rfl (Nat.le_of_ble_eq_true rfl) ?_
  intro p e s m below meth c A hx hb hr hown hts hml hlocks hin hsz hA hK H locs hP hD hS ls hl
  have hown : s.vm.findClass RX1 = some m.cls := hown
  have hl : lv_has ls 1 [(0, .ref q_t)] := hl
  refine lv_aload_n hx hb dX1_isZero_0 rfl (lv_at hl 0 rfl) ?_
  obtain ⟨x1, g2, hf⟩ := og_b hf
  refine kc_i (wr := []) (w1 := [(q_t, .inr (1, [.int t_room, .ref q_t_plus, .ref q_t_minus, .ref q_t_divisor, .int t_sign, .int t_length])), (q_t_plus, .inl (cA, n_t_plus, .inl a_t_plus)), (q_t_minus, .inl (cA, n_t_minus, .inl a_t_minus)), (q_t_divisor, .inl (cA, n_t_divisor, .inl a_t_divisor))]) [0, 1, 2, 3] [] (va_runV (As := []) (rest := []) ⟨hx, hb, hml, hown, hts⟩ (c_S_compareSides l dC dI cA H.size q_t q_t_plus q_t_minus q_t_divisor k t_room t_sign t_length n_t_plus a_t_plus n_t_minus a_t_minus n_t_divisor a_t_divisor x1 g2) (cwV 0 hts gX1_isZero_X1_compareSides rfl rfl rfl (by decide +kernel) ⟨Nat.le_of_ble_eq_true rfl, Nat.le_of_ble_eq_true rfl⟩) (kc_preV hP hD hK [0, 1, 2, 3] rfl rfl (by decide) (ci := 1) (q0 := 0) rfl rfl) rfl rfl hl.1 rfl (lv_room (Nat.le_of_ble_eq_true rfl)) dX1_isZero_1 ⟨Nat.le_of_ble_eq_true rfl, Nat.le_of_ble_eq_true rfl⟩) hP hD hS hA rfl rfl (by decide) (by decide) (fun H locs hP hD hS => ?_)
  have hP : va_P (dC, dI) vwCl [(q_t, .inr (1, [.int t_room, .ref q_t_plus, .ref q_t_minus, .ref q_t_divisor, .int t_sign, .int t_length])), (q_t_plus, .inl (cA, n_t_plus, .inl a_t_plus)), (q_t_minus, .inl (cA, n_t_minus, .inl a_t_minus)), (q_t_divisor, .inl (cA, n_t_divisor, .inl a_t_divisor))] H := hP
  have hD : va_D A [(q_t, .inr (1, [.int t_room, .ref q_t_plus, .ref q_t_minus, .ref q_t_divisor, .int t_sign, .int t_length])), (q_t_plus, .inl (cA, n_t_plus, .inl a_t_plus)), (q_t_minus, .inl (cA, n_t_minus, .inl a_t_minus)), (q_t_divisor, .inl (cA, n_t_divisor, .inl a_t_divisor))] := hD
  refine lv_if_ne (tgt := 11) hx hb dX1_isZero_4 (by decide) (fun c3 => ?_) (fun c3 => ?_)
  · have hf := og_f c3 hf
    refine lv_iconst (v := 0) hx hb dX1_isZero_11 (by decide) ?_
    have e9 := Option.some.inj hf
    subst e9
    exact kr_z hx hb hr hlocks rfl hK hS (hP.sub [0, 1, 2, 3] rfl) (hD.sub [0, 1, 2, 3] (by decide) rfl) dX1_isZero_12
  · have hf := og_t c3 hf
    refine lv_iconst (v := 1) hx hb dX1_isZero_7 (by decide) ?_
    refine lv_goto (tgt := 12) hx hb dX1_isZero_8 (by decide) ?_
    have e9 := Option.some.inj hf
    subst e9
    exact kr_z hx hb hr hlocks rfl hK hS (hP.sub [0, 1, 2, 3] rfl) (hD.sub [0, 1, 2, 3] (by decide) rfl) dX1_isZero_12
def rm_S_trimmed : Room := { frames := 0, cells := 0, slots := 0, locals := 0 }
set_option maxHeartbeats 4000000 in
set_option maxRecDepth 100000 in
theorem w_S_trimmed_L2 {p : Program} {l : Launch} {e : Env} {s : State} {m : MethodId} {args : Array Value} {below : List Frame} {meth : Method} {c : Code} {Q : State → Prop} {A : Nat → Prop} {H0 : Heap} {dC : Nat → ClassId} {dI : Nat → Nat → Nat} {cA : ClassId} (hx : p.tables.exec = Jvm.exec) (hb : c.code = cX1_trimmed) (hown : s.vm.findClass RX1 = some m.cls) (hts : ∀ w ∈ wsX1_trimmed, w.before args s = true) (hml : c.maxLocals = 3) (hA : ∀ q, H0.size ≤ q → A q) (hK : va_K (dC, dI) vwCl [(cA, .int)] s) (k : Nat) (q_row : Nat) (n_row : Nat) (a_row : Nat → Int32) : ∀ (j : Nat) (v2 : Int32) (o : Int32), f_S_trimmed_L2 k n_row a_row j v2 = some o → ∀ (H : Heap) (locs : List Loc), va_P (dC, dI) vwCl [(q_row, .inl (cA, n_row, .inl a_row))] H → va_D A [(q_row, .inl (cA, n_row, .inl a_row))] → va_S A H0 H locs → ∀ ls : Array Slot, lv_has ls 3 [(0, .ref q_row), (2, .int v2)] → ∀ (he : ∀ (H : Heap) (locs : List Loc), va_P (dC, dI) vwCl [(q_row, .inl (cA, n_row, .inl a_row))] H → va_D A [(q_row, .inl (cA, n_row, .inl a_row))] → va_S A H0 H locs → ∀ ls : Array Slot, lv_has ls 3 [(2, .int o)] → W p l e rm_S_trimmed s m args below meth c H locs 0 0 Q (F0 m 20 ls [])), W p l e rm_S_trimmed s m args below meth c H locs 0 0 Q (F0 m 2 ls []) := by
  intro j
  induction j with
  | zero =>
    intro v2 o hf
    rw [f_S_trimmed_L2] at hf
    cases hf
  | succ j ih =>
    intro v2 o hf H locs hP hD hS ls hl he
    rw [f_S_trimmed_L2] at hf
    refine lv_iload_n hx hb dX1_trimmed_2 rfl (lv_at hl 1 rfl) ?_
    refine lv_if_le (tgt := 20) hx hb dX1_trimmed_3 (by decide) (fun c7 => ?_) (fun c7 => ?_)
    · have hf := og_t c7 hf
      have e9 := Option.some.inj hf
      subst e9
      exact he _ _ (hP.sub [0] rfl) (hD.sub [0] (by decide) rfl) hS _ (lv_sub hl [1] rfl)
    · have hf := og_f c7 hf
      refine lv_aload_n hx hb dX1_trimmed_6 rfl (lv_at hl 0 rfl) ?_
      refine lv_iload_n hx hb dX1_trimmed_7 rfl (lv_at hl 1 rfl) ?_
      refine lv_iconst (v := 1) hx hb dX1_trimmed_8 (by decide) ?_
      refine lv_isub hx hb dX1_trimmed_9 ?_
      obtain ⟨g8, hf⟩ := og_c hf
      refine va_iald hx hb hK hP 0 0 rfl rfl (og_in g8) dX1_trimmed_10 ?_
      refine lv_if_ne (tgt := 20) hx hb dX1_trimmed_11 (by decide) (fun c9 => ?_) (fun c9 => ?_)
      · have hf := og_f c9 hf
        have e9 := Option.some.inj hf
        subst e9
        exact he _ _ (hP.sub [0] rfl) (hD.sub [0] (by decide) rfl) hS _ (lv_sub hl [1] rfl)
      · have hf := og_t c9 hf
        refine lv_iinc (v := v2 + (-1)) (lv' := [(2, .int (v2 + (-1))), (0, .ref q_row)]) hx hb dX1_trimmed_14 hl (k := 1) rfl rfl (by decide) rfl (fun ls hl => ?_)
        refine lv_goto (tgt := 2) hx hb dX1_trimmed_17 (by decide) ?_
        exact ih (v2 + (-1)) _ hf _ _ (hP.sub [0] rfl) (hD.sub [0] (by decide) rfl) hS _ (lv_sub hl [1, 0] rfl) he
set_option maxHeartbeats 4000000 in
set_option maxRecDepth 100000 in
theorem c_S_trimmed (l : Launch) (dC : Nat → ClassId) (dI : Nat → Nat → Nat) (cA : ClassId) (sz : Nat) (q_row : Nat) (k : Nat) (n_row : Nat) (a_row : Nat → Int32) (most : Int32) (o : Int32) (hf : f_S_trimmed k n_row a_row most = some o) : Met l yX1_trimmed wsX1_trimmed rm_S_trimmed (c_Pre (dC, dI) vwCl [(cA, .int)] [(q_row, .inl (cA, n_row, .inl a_row))] sz [.ref q_row, .int most]) (c_Qi (dC, dI) vwCl [(cA, .int)] [(q_row, .inl (cA, n_row, .inl a_row))] (va_A [(q_row, .inl (cA, n_row, .inl a_row))] sz) o) 0 0 (va_A [(q_row, .inl (cA, n_row, .inl a_row))] sz) := by
  unfold f_S_trimmed at hf
  refine k_ent (Qc := fun A => c_Qi (dC, dI) vwCl [(cA, .int)] [(q_row, .inl (cA, n_row, .inl a_row))] A o) (by decide) rfl (Nat.le_of_ble_eq_true rfl) ?_
  intro p e s m below meth c A hx hb hr hown hts hml hlocks hin hsz hA hK H locs hP hD hS ls hl
  have hown : s.vm.findClass RX1 = some m.cls := hown
  have hl : lv_has ls 3 [(0, .ref q_row), (1, .int most)] := hl
  refine lv_iload_n hx hb dX1_trimmed_0 rfl (lv_at hl 1 rfl) ?_
  refine lv_istore_n (lv' := [(2, .int most), (0, .ref q_row), (1, .int most)]) hx hb dX1_trimmed_1 rfl hl (by decide) rfl (fun ls hl => ?_)
  obtain ⟨x10, g11, hf⟩ := og_b hf
  refine w_S_trimmed_L2 hx hb hown hts hml hA hK k q_row n_row a_row k most _ g11 _ _ (hP.sub [0] rfl) (hD.sub [0] (by decide) rfl) hS _ (lv_sub hl [1, 0] rfl) ?_
  intro H locs hP hD hS ls hl
  refine lv_iload_n hx hb dX1_trimmed_20 rfl (lv_at hl 1 rfl) ?_
  have e9 := Option.some.inj hf
  subst e9
  exact kr_i hx hb hr hlocks hK hS (hP.sub [0] rfl) (hD.sub [0] (by decide) rfl) dX1_trimmed_21
def rm_S_settle : Room := { frames := 1, cells := 0, slots := 0, locals := 22 }
theorem kw_S_settle_0 : (.fieldLink RX1 31 "MinorSteps$Sum" "sign" "I" : Cond) ∈ wsX1_settle := by decide +kernel
theorem kw_S_settle_1 : (.fieldLink RX1 15 "MinorSteps$Sum" "plus" "[I" : Cond) ∈ wsX1_settle := by decide +kernel
theorem kw_S_settle_2 : (.fieldLink RX1 19 "MinorSteps$Sum" "minus" "[I" : Cond) ∈ wsX1_settle := by decide +kernel
theorem kw_S_settle_3 : (.constantLong RX1 54 2147483647 : Cond) ∈ wsX1_settle := by decide +kernel
theorem kw_S_settle_4 : (.fieldLink RX1 34 "MinorSteps$Sum" "length" "I" : Cond) ∈ wsX1_settle := by decide +kernel
theorem ki_S_settle_X1 : ∀ w ∈ u_ws RX1 TX1 6, w ∈ wsX1_settle := by decide +kernel
set_option maxHeartbeats 4000000 in
set_option maxRecDepth 100000 in
theorem w_S_settle_L12 {p : Program} {l : Launch} {e : Env} {s : State} {m : MethodId} {args : Array Value} {below : List Frame} {meth : Method} {c : Code} {Q : State → Prop} {A : Nat → Prop} {H0 : Heap} {dC : Nat → ClassId} {dI : Nat → Nat → Nat} {cA : ClassId} (hx : p.tables.exec = Jvm.exec) (hb : c.code = cX1_settle) (hown : s.vm.findClass RX1 = some m.cls) (hts : ∀ w ∈ wsX1_settle, w.before args s = true) (hml : c.maxLocals = 4) (hA : ∀ q, H0.size ≤ q → A q) (hK : va_K (dC, dI) vwCl [(cA, .int)] s) (k : Nat) (q_t : Nat) (q_t_plus : Nat) (q_t_minus : Nat) (q_t_divisor : Nat) (i0_t : Int32) (i4_t : Int32) (i5_t : Int32) (n_t_plus : Nat) (n_t_minus : Nat) (a_t_minus : Nat → Int32) (n_t_divisor : Nat) (a_t_divisor : Nat → Int32) : ∀ (j : Nat) (v1 : Int64) (v3 : Int32) (a_t_plus : Nat → Int32) (o : Int64 × Int32 × (Nat → Int32)), f_S_settle_L12 k i4_t n_t_plus n_t_minus a_t_minus j v1 v3 a_t_plus = some o → ∀ (H : Heap) (locs : List Loc), va_P (dC, dI) vwCl [(q_t, .inr (1, [.int i0_t, .ref q_t_plus, .ref q_t_minus, .ref q_t_divisor, .int i4_t, .int i5_t])), (q_t_plus, .inl (cA, n_t_plus, .inl a_t_plus)), (q_t_minus, .inl (cA, n_t_minus, .inl a_t_minus)), (q_t_divisor, .inl (cA, n_t_divisor, .inl a_t_divisor))] H → va_D A [(q_t, .inr (1, [.int i0_t, .ref q_t_plus, .ref q_t_minus, .ref q_t_divisor, .int i4_t, .int i5_t])), (q_t_plus, .inl (cA, n_t_plus, .inl a_t_plus)), (q_t_minus, .inl (cA, n_t_minus, .inl a_t_minus)), (q_t_divisor, .inl (cA, n_t_divisor, .inl a_t_divisor))] → va_S A H0 H locs → ∀ ls : Array Slot, lv_has ls 4 [(0, .ref q_t), (1, .long v1), (3, .int v3)] → ∀ (he : ∀ (H : Heap) (locs : List Loc), va_P (dC, dI) vwCl [(q_t, .inr (1, [.int i0_t, .ref q_t_plus, .ref q_t_minus, .ref q_t_divisor, .int i4_t, .int i5_t])), (q_t_plus, .inl (cA, n_t_plus, .inl o.2.2)), (q_t_minus, .inl (cA, n_t_minus, .inl a_t_minus)), (q_t_divisor, .inl (cA, n_t_divisor, .inl a_t_divisor))] H → va_D A [(q_t, .inr (1, [.int i0_t, .ref q_t_plus, .ref q_t_minus, .ref q_t_divisor, .int i4_t, .int i5_t])), (q_t_plus, .inl (cA, n_t_plus, .inl o.2.2)), (q_t_minus, .inl (cA, n_t_minus, .inl a_t_minus)), (q_t_divisor, .inl (cA, n_t_divisor, .inl a_t_divisor))] → va_S A H0 H locs → ∀ ls : Array Slot, lv_has ls 4 [(0, .ref q_t)] → W p l e rm_S_settle s m args below meth c H locs 0 0 Q (F0 m 68 ls [])), W p l e rm_S_settle s m args below meth c H locs 0 0 Q (F0 m 12 ls []) := by
  intro j
  induction j with
  | zero =>
    intro v1 v3 a_t_plus o hf
    rw [f_S_settle_L12] at hf
    cases hf
  | succ j ih =>
    intro v1 v3 a_t_plus o hf H locs hP hD hS ls hl he
    rw [f_S_settle_L12] at hf
    refine lv_iload_n hx hb dX1_settle_12 rfl (lv_at hl 2 rfl) ?_
    refine lv_aload_n hx hb dX1_settle_13 rfl (lv_at hl 0 rfl) ?_
    refine va_get (D := (dC, dI)) (ci := 1) (v := .ref q_t_plus) (C := RX1) (T := TX1) (N := 6) hx hb hts ki_S_settle_X1 hown hK hP 0 rfl rfl 1 (by decide) (hts (.fieldLink RX1 15 "MinorSteps$Sum" "plus" "[I") kw_S_settle_1) (fun _ h9 => h9) rfl dX1_settle_14 ?_
    refine va_alen hx hb hK hP 1 0 rfl rfl (v := nI n_t_plus) rfl dX1_settle_17 ?_
    refine lv_icmp_ge (tgt := 68) hx hb dX1_settle_18 (by decide) (fun c11 => ?_) (fun c11 => ?_)
    · have hf := og_t c11 hf
      have e9 := Option.some.inj hf
      subst e9
      exact he _ _ (hP.sub [0, 1, 2, 3] rfl) (hD.sub [0, 1, 2, 3] (by decide) rfl) hS _ (lv_sub hl [0] rfl)
    · have hf := og_f c11 hf
      refine lv_lload_n hx hb dX1_settle_21 rfl (lv_at hl 1 rfl) ?_
      refine lv_aload_n hx hb dX1_settle_22 rfl (lv_at hl 0 rfl) ?_
      refine va_get (D := (dC, dI)) (ci := 1) (v := .int i4_t) (C := RX1) (T := TX1) (N := 6) hx hb hts ki_S_settle_X1 hown hK hP 0 rfl rfl 4 (by decide) (hts (.fieldLink RX1 31 "MinorSteps$Sum" "sign" "I") kw_S_settle_0) (fun _ h9 => h9) rfl dX1_settle_23 ?_
      refine lv_i2l (v := i4_t.toInt64) hx hb dX1_settle_26 rfl ?_
      refine lv_aload_n hx hb dX1_settle_27 rfl (lv_at hl 0 rfl) ?_
      refine va_get (D := (dC, dI)) (ci := 1) (v := .ref q_t_plus) (C := RX1) (T := TX1) (N := 6) hx hb hts ki_S_settle_X1 hown hK hP 0 rfl rfl 1 (by decide) (hts (.fieldLink RX1 15 "MinorSteps$Sum" "plus" "[I") kw_S_settle_1) (fun _ h9 => h9) rfl dX1_settle_28 ?_
      refine lv_iload_n hx hb dX1_settle_31 rfl (lv_at hl 2 rfl) ?_
      obtain ⟨g12, hf⟩ := og_c hf
      refine va_iald hx hb hK hP 1 0 rfl rfl (og_in g12) dX1_settle_32 ?_
      refine lv_i2l (v := (a_t_plus v3.toNatClampNeg).toInt64) hx hb dX1_settle_33 rfl ?_
      refine lv_aload_n hx hb dX1_settle_34 rfl (lv_at hl 0 rfl) ?_
      refine va_get (D := (dC, dI)) (ci := 1) (v := .ref q_t_minus) (C := RX1) (T := TX1) (N := 6) hx hb hts ki_S_settle_X1 hown hK hP 0 rfl rfl 2 (by decide) (hts (.fieldLink RX1 19 "MinorSteps$Sum" "minus" "[I") kw_S_settle_2) (fun _ h9 => h9) rfl dX1_settle_35 ?_
      refine lv_iload_n hx hb dX1_settle_38 rfl (lv_at hl 2 rfl) ?_
      obtain ⟨g13, hf⟩ := og_c hf
      refine va_iald hx hb hK hP 2 0 rfl rfl (og_in g13) dX1_settle_39 ?_
      refine lv_i2l (v := (a_t_minus v3.toNatClampNeg).toInt64) hx hb dX1_settle_40 rfl ?_
      refine lv_lsub hx hb dX1_settle_41 ?_
      refine lv_lmul hx hb dX1_settle_42 ?_
      refine lv_ladd hx hb dX1_settle_43 ?_
      refine lv_lstore_n (lv' := [(1, .long (v1 + (i4_t.toInt64 * (((a_t_plus v3.toNatClampNeg).toInt64) - ((a_t_minus v3.toNatClampNeg).toInt64))))), (0, .ref q_t), (3, .int v3)]) hx hb dX1_settle_44 rfl hl (by decide) rfl (fun ls hl => ?_)
      refine lv_aload_n hx hb dX1_settle_45 rfl (lv_at hl 1 rfl) ?_
      refine va_get (D := (dC, dI)) (ci := 1) (v := .ref q_t_plus) (C := RX1) (T := TX1) (N := 6) hx hb hts ki_S_settle_X1 hown hK hP 0 rfl rfl 1 (by decide) (hts (.fieldLink RX1 15 "MinorSteps$Sum" "plus" "[I") kw_S_settle_1) (fun _ h9 => h9) rfl dX1_settle_46 ?_
      refine lv_iload_n hx hb dX1_settle_49 rfl (lv_at hl 2 rfl) ?_
      refine lv_lload_n hx hb dX1_settle_50 rfl (lv_at hl 0 rfl) ?_
      refine lv_ldc2 (v := 2147483647) hx hb hown (hts (.constantLong RX1 54 2147483647) kw_S_settle_3) dX1_settle_51 ?_
      refine lv_land hx hb dX1_settle_54 ?_
      refine lv_l2i (v := ((v1 + (i4_t.toInt64 * (((a_t_plus v3.toNatClampNeg).toInt64) - ((a_t_minus v3.toNatClampNeg).toInt64)))) &&& 2147483647).toInt32) hx hb dX1_settle_55 rfl ?_
      obtain ⟨g14, hf⟩ := og_c hf
      refine va_iast hx hb hK hP hD hS 1 0 rfl rfl (og_in g14) dX1_settle_56 (fun H locs hP hD hS => ?_)
      have hP : va_P (dC, dI) vwCl [(q_t, .inr (1, [.int i0_t, .ref q_t_plus, .ref q_t_minus, .ref q_t_divisor, .int i4_t, .int i5_t])), (q_t_plus, .inl (cA, n_t_plus, .inl (upd a_t_plus v3.toNatClampNeg (((v1 + (i4_t.toInt64 * (((a_t_plus v3.toNatClampNeg).toInt64) - ((a_t_minus v3.toNatClampNeg).toInt64)))) &&& 2147483647).toInt32)))), (q_t_minus, .inl (cA, n_t_minus, .inl a_t_minus)), (q_t_divisor, .inl (cA, n_t_divisor, .inl a_t_divisor))] H := hP
      have hD : va_D A [(q_t, .inr (1, [.int i0_t, .ref q_t_plus, .ref q_t_minus, .ref q_t_divisor, .int i4_t, .int i5_t])), (q_t_plus, .inl (cA, n_t_plus, .inl (upd a_t_plus v3.toNatClampNeg (((v1 + (i4_t.toInt64 * (((a_t_plus v3.toNatClampNeg).toInt64) - ((a_t_minus v3.toNatClampNeg).toInt64)))) &&& 2147483647).toInt32)))), (q_t_minus, .inl (cA, n_t_minus, .inl a_t_minus)), (q_t_divisor, .inl (cA, n_t_divisor, .inl a_t_divisor))] := hD
      refine lv_lload_n hx hb dX1_settle_57 rfl (lv_at hl 0 rfl) ?_
      refine lv_bipush (v := 31) hx hb dX1_settle_58 (by decide) ?_
      refine lv_lshr (v := (v1 + (i4_t.toInt64 * (((a_t_plus v3.toNatClampNeg).toInt64) - ((a_t_minus v3.toNatClampNeg).toInt64)))) >>> ((31 : Int32).toInt64 &&& 63)) hx hb dX1_settle_60 rfl ?_
      refine lv_lstore_n (lv' := [(1, .long ((v1 + (i4_t.toInt64 * (((a_t_plus v3.toNatClampNeg).toInt64) - ((a_t_minus v3.toNatClampNeg).toInt64)))) >>> ((31 : Int32).toInt64 &&& 63))), (0, .ref q_t), (3, .int v3)]) hx hb dX1_settle_61 rfl hl (by decide) rfl (fun ls hl => ?_)
      refine lv_iinc (v := v3 + 1) (lv' := [(3, .int (v3 + 1)), (1, .long ((v1 + (i4_t.toInt64 * (((a_t_plus v3.toNatClampNeg).toInt64) - ((a_t_minus v3.toNatClampNeg).toInt64)))) >>> ((31 : Int32).toInt64 &&& 63))), (0, .ref q_t)]) hx hb dX1_settle_62 hl (k := 2) rfl rfl (by decide) rfl (fun ls hl => ?_)
      refine lv_goto (tgt := 12) hx hb dX1_settle_65 (by decide) ?_
      exact ih ((v1 + (i4_t.toInt64 * (((a_t_plus v3.toNatClampNeg).toInt64) - ((a_t_minus v3.toNatClampNeg).toInt64)))) >>> ((31 : Int32).toInt64 &&& 63)) (v3 + 1) (upd a_t_plus v3.toNatClampNeg (((v1 + (i4_t.toInt64 * (((a_t_plus v3.toNatClampNeg).toInt64) - ((a_t_minus v3.toNatClampNeg).toInt64)))) &&& 2147483647).toInt32)) _ hf _ _ (hP.sub [0, 1, 2, 3] rfl) (hD.sub [0, 1, 2, 3] (by decide) rfl) hS _ (lv_sub hl [2, 1, 0] rfl) he
set_option maxHeartbeats 4000000 in
set_option maxRecDepth 100000 in
theorem c_S_settle (l : Launch) (dC : Nat → ClassId) (dI : Nat → Nat → Nat) (cA : ClassId) (sz : Nat) (q_t : Nat) (q_t_plus : Nat) (q_t_minus : Nat) (q_t_divisor : Nat) (k : Nat) (t_room : Int32) (t_sign : Int32) (t_length : Int32) (n_t_plus : Nat) (a_t_plus : Nat → Int32) (n_t_minus : Nat) (a_t_minus : Nat → Int32) (n_t_divisor : Nat) (a_t_divisor : Nat → Int32) (o : Int32 × Int32 × (Nat → Int32)) (hf : f_S_settle k n_t_plus a_t_plus n_t_minus a_t_minus = some o) : Met l yX1_settle wsX1_settle rm_S_settle (c_Pre (dC, dI) vwCl [(cA, .int)] [(q_t, .inr (1, [.int t_room, .ref q_t_plus, .ref q_t_minus, .ref q_t_divisor, .int t_sign, .int t_length])), (q_t_plus, .inl (cA, n_t_plus, .inl a_t_plus)), (q_t_minus, .inl (cA, n_t_minus, .inl a_t_minus)), (q_t_divisor, .inl (cA, n_t_divisor, .inl a_t_divisor))] sz [.ref q_t]) (c_Qv (dC, dI) vwCl [(cA, .int)] [(q_t, .inr (1, [.int t_room, .ref q_t_plus, .ref q_t_minus, .ref q_t_divisor, .int o.1, .int o.2.1])), (q_t_plus, .inl (cA, n_t_plus, .inl o.2.2)), (q_t_minus, .inl (cA, n_t_minus, .inl a_t_minus)), (q_t_divisor, .inl (cA, n_t_divisor, .inl a_t_divisor))] (va_A [(q_t, .inr (1, [.int t_room, .ref q_t_plus, .ref q_t_minus, .ref q_t_divisor, .int t_sign, .int t_length])), (q_t_plus, .inl (cA, n_t_plus, .inl a_t_plus)), (q_t_minus, .inl (cA, n_t_minus, .inl a_t_minus)), (q_t_divisor, .inl (cA, n_t_divisor, .inl a_t_divisor))] sz)) 0 0 (va_A [(q_t, .inr (1, [.int t_room, .ref q_t_plus, .ref q_t_minus, .ref q_t_divisor, .int t_sign, .int t_length])), (q_t_plus, .inl (cA, n_t_plus, .inl a_t_plus)), (q_t_minus, .inl (cA, n_t_minus, .inl a_t_minus)), (q_t_divisor, .inl (cA, n_t_divisor, .inl a_t_divisor))] sz) := by
  unfold f_S_settle at hf
  refine k_ent (Qc := fun A => c_Qv (dC, dI) vwCl [(cA, .int)] [(q_t, .inr (1, [.int t_room, .ref q_t_plus, .ref q_t_minus, .ref q_t_divisor, .int o.1, .int o.2.1])), (q_t_plus, .inl (cA, n_t_plus, .inl o.2.2)), (q_t_minus, .inl (cA, n_t_minus, .inl a_t_minus)), (q_t_divisor, .inl (cA, n_t_divisor, .inl a_t_divisor))] A) (by decide) rfl (Nat.le_of_ble_eq_true rfl) ?_
  intro p e s m below meth c A hx hb hr hown hts hml hlocks hin hsz hA hK H locs hP hD hS ls hl
  have hown : s.vm.findClass RX1 = some m.cls := hown
  have hl : lv_has ls 4 [(0, .ref q_t)] := hl
  refine lv_aload_n hx hb dX1_settle_0 rfl (lv_at hl 0 rfl) ?_
  refine lv_aload_n hx hb dX1_settle_1 rfl (lv_at hl 0 rfl) ?_
  obtain ⟨x1, g2, hf⟩ := og_b hf
  refine kc_i (wr := []) (w1 := [(q_t, .inr (1, [.int t_room, .ref q_t_plus, .ref q_t_minus, .ref q_t_divisor, .int t_sign, .int t_length])), (q_t_plus, .inl (cA, n_t_plus, .inl a_t_plus)), (q_t_minus, .inl (cA, n_t_minus, .inl a_t_minus)), (q_t_divisor, .inl (cA, n_t_divisor, .inl a_t_divisor))]) [0, 1, 2, 3] [] (va_runV (As := []) (rest := [.ref q_t]) ⟨hx, hb, hml, hown, hts⟩ (c_S_compareSides l dC dI cA H.size q_t q_t_plus q_t_minus q_t_divisor k t_room t_sign t_length n_t_plus a_t_plus n_t_minus a_t_minus n_t_divisor a_t_divisor x1 g2) (cwV 0 hts gX1_settle_X1_compareSides rfl rfl rfl (by decide +kernel) ⟨Nat.le_of_ble_eq_true rfl, Nat.le_of_ble_eq_true rfl⟩) (kc_preV hP hD hK [0, 1, 2, 3] rfl rfl (by decide) (ci := 1) (q0 := 0) rfl rfl) rfl rfl hl.1 rfl (lv_room (Nat.le_of_ble_eq_true rfl)) dX1_settle_2 ⟨Nat.le_of_ble_eq_true rfl, Nat.le_of_ble_eq_true rfl⟩) hP hD hS hA rfl rfl (by decide) (by decide) (fun H locs hP hD hS => ?_)
  have hP : va_P (dC, dI) vwCl [(q_t, .inr (1, [.int t_room, .ref q_t_plus, .ref q_t_minus, .ref q_t_divisor, .int t_sign, .int t_length])), (q_t_plus, .inl (cA, n_t_plus, .inl a_t_plus)), (q_t_minus, .inl (cA, n_t_minus, .inl a_t_minus)), (q_t_divisor, .inl (cA, n_t_divisor, .inl a_t_divisor))] H := hP
  have hD : va_D A [(q_t, .inr (1, [.int t_room, .ref q_t_plus, .ref q_t_minus, .ref q_t_divisor, .int t_sign, .int t_length])), (q_t_plus, .inl (cA, n_t_plus, .inl a_t_plus)), (q_t_minus, .inl (cA, n_t_minus, .inl a_t_minus)), (q_t_divisor, .inl (cA, n_t_divisor, .inl a_t_divisor))] := hD
  refine va_put (D := (dC, dI)) (ci := 1) (v := .int x1) (ty := .int) (C := RX1) (T := TX1) (N := 6) hx hb hts ki_S_settle_X1 tyX1 tyX1_ok nmX1 hown hK hP hD hS 0 rfl rfl 4 (by decide) (hts (.fieldLink RX1 31 "MinorSteps$Sum" "sign" "I") kw_S_settle_0) (fun _ h9 => h9) rfl (by decide +kernel) rfl rfl (Nat.le_of_ble_eq_true rfl) dX1_settle_5 (fun H locs hP hD hS => ?_)
  have hP : va_P (dC, dI) vwCl [(q_t, .inr (1, [.int t_room, .ref q_t_plus, .ref q_t_minus, .ref q_t_divisor, .int x1, .int t_length])), (q_t_plus, .inl (cA, n_t_plus, .inl a_t_plus)), (q_t_minus, .inl (cA, n_t_minus, .inl a_t_minus)), (q_t_divisor, .inl (cA, n_t_divisor, .inl a_t_divisor))] H := hP
  have hD : va_D A [(q_t, .inr (1, [.int t_room, .ref q_t_plus, .ref q_t_minus, .ref q_t_divisor, .int x1, .int t_length])), (q_t_plus, .inl (cA, n_t_plus, .inl a_t_plus)), (q_t_minus, .inl (cA, n_t_minus, .inl a_t_minus)), (q_t_divisor, .inl (cA, n_t_divisor, .inl a_t_divisor))] := hD
  refine lv_lconst (v := 0) hx hb dX1_settle_8 (by decide) ?_
  refine lv_lstore_n (lv' := [(1, .long 0), (0, .ref q_t)]) hx hb dX1_settle_9 rfl hl (by decide) rfl (fun ls hl => ?_)
  refine lv_iconst (v := 0) hx hb dX1_settle_10 (by decide) ?_
  refine lv_istore_n (lv' := [(3, .int 0), (1, .long 0), (0, .ref q_t)]) hx hb dX1_settle_11 rfl hl (by decide) rfl (fun ls hl => ?_)
  obtain ⟨x15, g16, hf⟩ := og_b hf
  refine w_S_settle_L12 hx hb hown hts hml hA hK k q_t q_t_plus q_t_minus q_t_divisor t_room x1 t_length n_t_plus n_t_minus a_t_minus n_t_divisor a_t_divisor k (0 : Int64) (0 : Int32) a_t_plus _ g16 _ _ (hP.sub [0, 1, 2, 3] rfl) (hD.sub [0, 1, 2, 3] (by decide) rfl) hS _ (lv_sub hl [2, 1, 0] rfl) ?_
  intro H locs hP hD hS ls hl
  refine lv_aload_n hx hb dX1_settle_68 rfl (lv_at hl 0 rfl) ?_
  refine lv_aload_n hx hb dX1_settle_69 rfl (lv_at hl 0 rfl) ?_
  refine va_get (D := (dC, dI)) (ci := 1) (v := .ref q_t_plus) (C := RX1) (T := TX1) (N := 6) hx hb hts ki_S_settle_X1 hown hK hP 0 rfl rfl 1 (by decide) (hts (.fieldLink RX1 15 "MinorSteps$Sum" "plus" "[I") kw_S_settle_1) (fun _ h9 => h9) rfl dX1_settle_70 ?_
  refine lv_aload_n hx hb dX1_settle_73 rfl (lv_at hl 0 rfl) ?_
  refine va_get (D := (dC, dI)) (ci := 1) (v := .ref q_t_plus) (C := RX1) (T := TX1) (N := 6) hx hb hts ki_S_settle_X1 hown hK hP 0 rfl rfl 1 (by decide) (hts (.fieldLink RX1 15 "MinorSteps$Sum" "plus" "[I") kw_S_settle_1) (fun _ h9 => h9) rfl dX1_settle_74 ?_
  refine va_alen hx hb hK hP 1 0 rfl rfl (v := nI n_t_plus) rfl dX1_settle_77 ?_
  obtain ⟨x17, g18, hf⟩ := og_b hf
  refine kc_i (wr := [(q_t, .inr (1, [.int t_room, .ref q_t_plus, .ref q_t_minus, .ref q_t_divisor, .int x1, .int t_length])), (q_t_minus, .inl (cA, n_t_minus, .inl a_t_minus)), (q_t_divisor, .inl (cA, n_t_divisor, .inl a_t_divisor))]) (w1 := [(q_t_plus, .inl (cA, n_t_plus, .inl x15.2.2))]) [1] [0, 2, 3] (va_runS (As := [.ref q_t_plus, .int (nI n_t_plus)]) (rest := [.ref q_t]) ⟨hx, hb, hml, hown, hts⟩ (c_S_trimmed l dC dI cA H.size q_t_plus k n_t_plus x15.2.2 (nI n_t_plus) x17 g18) (va_cwS 2 hts gX1_settle_X1_trimmed rfl rfl rfl (by decide +kernel) ⟨Nat.le_of_ble_eq_true rfl, Nat.le_of_ble_eq_true rfl⟩) (kc_preS hP hD hK [1] rfl rfl (by decide)) rfl rfl hl.1 rfl (lv_room (Nat.le_of_ble_eq_true rfl)) dX1_settle_78 ⟨Nat.le_of_ble_eq_true rfl, Nat.le_of_ble_eq_true rfl⟩) hP hD hS hA rfl rfl (by decide) (by decide) (fun H locs hP hD hS => ?_)
  have hP : va_P (dC, dI) vwCl [(q_t, .inr (1, [.int t_room, .ref q_t_plus, .ref q_t_minus, .ref q_t_divisor, .int x1, .int t_length])), (q_t_minus, .inl (cA, n_t_minus, .inl a_t_minus)), (q_t_divisor, .inl (cA, n_t_divisor, .inl a_t_divisor)), (q_t_plus, .inl (cA, n_t_plus, .inl x15.2.2))] H := hP
  have hD : va_D A [(q_t, .inr (1, [.int t_room, .ref q_t_plus, .ref q_t_minus, .ref q_t_divisor, .int x1, .int t_length])), (q_t_minus, .inl (cA, n_t_minus, .inl a_t_minus)), (q_t_divisor, .inl (cA, n_t_divisor, .inl a_t_divisor)), (q_t_plus, .inl (cA, n_t_plus, .inl x15.2.2))] := hD
  refine va_put (D := (dC, dI)) (ci := 1) (v := .int x17) (ty := .int) (C := RX1) (T := TX1) (N := 6) hx hb hts ki_S_settle_X1 tyX1 tyX1_ok nmX1 hown hK hP hD hS 0 rfl rfl 5 (by decide) (hts (.fieldLink RX1 34 "MinorSteps$Sum" "length" "I") kw_S_settle_4) (fun _ h9 => h9) rfl (by decide +kernel) rfl rfl (Nat.le_of_ble_eq_true rfl) dX1_settle_81 (fun H locs hP hD hS => ?_)
  have hP : va_P (dC, dI) vwCl [(q_t, .inr (1, [.int t_room, .ref q_t_plus, .ref q_t_minus, .ref q_t_divisor, .int x1, .int x17])), (q_t_minus, .inl (cA, n_t_minus, .inl a_t_minus)), (q_t_divisor, .inl (cA, n_t_divisor, .inl a_t_divisor)), (q_t_plus, .inl (cA, n_t_plus, .inl x15.2.2))] H := hP
  have hD : va_D A [(q_t, .inr (1, [.int t_room, .ref q_t_plus, .ref q_t_minus, .ref q_t_divisor, .int x1, .int x17])), (q_t_minus, .inl (cA, n_t_minus, .inl a_t_minus)), (q_t_divisor, .inl (cA, n_t_divisor, .inl a_t_divisor)), (q_t_plus, .inl (cA, n_t_plus, .inl x15.2.2))] := hD
  have e9 := Option.some.inj hf
  subst e9
  exact kr_v hx hb hr hlocks hK hS (hP.sub [0, 3, 1, 2] rfl) (hD.sub [0, 3, 1, 2] (by decide) rfl) dX1_settle_84
def rm_S_countZeroLimbs : Room := { frames := 0, cells := 0, slots := 0, locals := 0 }
theorem kw_S_countZeroLimbs_0 : (.fieldLink RX1 22 "MinorSteps$Sum" "divisor" "[I" : Cond) ∈ wsX1_countZeroLimbs := by decide +kernel
theorem ki_S_countZeroLimbs_X1 : ∀ w ∈ u_ws RX1 TX1 6, w ∈ wsX1_countZeroLimbs := by decide +kernel
set_option maxHeartbeats 4000000 in
set_option maxRecDepth 100000 in
theorem w_S_countZeroLimbs_L2 {p : Program} {l : Launch} {e : Env} {s : State} {m : MethodId} {args : Array Value} {below : List Frame} {meth : Method} {c : Code} {Q : State → Prop} {A : Nat → Prop} {H0 : Heap} {dC : Nat → ClassId} {dI : Nat → Nat → Nat} {cA : ClassId} (hx : p.tables.exec = Jvm.exec) (hb : c.code = cX1_countZeroLimbs) (hown : s.vm.findClass RX1 = some m.cls) (hts : ∀ w ∈ wsX1_countZeroLimbs, w.before args s = true) (hml : c.maxLocals = 3) (hA : ∀ q, H0.size ≤ q → A q) (hK : va_K (dC, dI) vwCl [(cA, .int)] s) (k : Nat) (q_t : Nat) (q_t_plus : Nat) (q_t_minus : Nat) (q_t_divisor : Nat) (v1 : Int32) (i0_t : Int32) (i4_t : Int32) (i5_t : Int32) (n_t_plus : Nat) (a_t_plus : Nat → Int32) (n_t_minus : Nat) (a_t_minus : Nat → Int32) (n_t_divisor : Nat) (a_t_divisor : Nat → Int32) : ∀ (j : Nat) (v2 : Int32) (o : Int32), f_S_countZeroLimbs_L2 k v1 n_t_divisor a_t_divisor j v2 = some o → ∀ (H : Heap) (locs : List Loc), va_P (dC, dI) vwCl [(q_t, .inr (1, [.int i0_t, .ref q_t_plus, .ref q_t_minus, .ref q_t_divisor, .int i4_t, .int i5_t])), (q_t_plus, .inl (cA, n_t_plus, .inl a_t_plus)), (q_t_minus, .inl (cA, n_t_minus, .inl a_t_minus)), (q_t_divisor, .inl (cA, n_t_divisor, .inl a_t_divisor))] H → va_D A [(q_t, .inr (1, [.int i0_t, .ref q_t_plus, .ref q_t_minus, .ref q_t_divisor, .int i4_t, .int i5_t])), (q_t_plus, .inl (cA, n_t_plus, .inl a_t_plus)), (q_t_minus, .inl (cA, n_t_minus, .inl a_t_minus)), (q_t_divisor, .inl (cA, n_t_divisor, .inl a_t_divisor))] → va_S A H0 H locs → ∀ ls : Array Slot, lv_has ls 3 [(0, .ref q_t), (1, .int v1), (2, .int v2)] → ∀ (he : ∀ (H : Heap) (locs : List Loc), va_P (dC, dI) vwCl [(q_t, .inr (1, [.int i0_t, .ref q_t_plus, .ref q_t_minus, .ref q_t_divisor, .int i4_t, .int i5_t])), (q_t_plus, .inl (cA, n_t_plus, .inl a_t_plus)), (q_t_minus, .inl (cA, n_t_minus, .inl a_t_minus)), (q_t_divisor, .inl (cA, n_t_divisor, .inl a_t_divisor))] H → va_D A [(q_t, .inr (1, [.int i0_t, .ref q_t_plus, .ref q_t_minus, .ref q_t_divisor, .int i4_t, .int i5_t])), (q_t_plus, .inl (cA, n_t_plus, .inl a_t_plus)), (q_t_minus, .inl (cA, n_t_minus, .inl a_t_minus)), (q_t_divisor, .inl (cA, n_t_divisor, .inl a_t_divisor))] → va_S A H0 H locs → ∀ ls : Array Slot, lv_has ls 3 [(2, .int o)] → W p l e rm_S_countZeroLimbs s m args below meth c H locs 0 0 Q (F0 m 24 ls [])), W p l e rm_S_countZeroLimbs s m args below meth c H locs 0 0 Q (F0 m 2 ls []) := by
  intro j
  induction j with
  | zero =>
    intro v2 o hf
    rw [f_S_countZeroLimbs_L2] at hf
    cases hf
  | succ j ih =>
    intro v2 o hf H locs hP hD hS ls hl he
    rw [f_S_countZeroLimbs_L2] at hf
    refine lv_iload_n hx hb dX1_countZeroLimbs_2 rfl (lv_at hl 2 rfl) ?_
    refine lv_iload_n hx hb dX1_countZeroLimbs_3 rfl (lv_at hl 1 rfl) ?_
    refine lv_iconst (v := 1) hx hb dX1_countZeroLimbs_4 (by decide) ?_
    refine lv_isub hx hb dX1_countZeroLimbs_5 ?_
    refine lv_icmp_ge (tgt := 24) hx hb dX1_countZeroLimbs_6 (by decide) (fun c7 => ?_) (fun c7 => ?_)
    · have hf := og_t c7 hf
      have e9 := Option.some.inj hf
      subst e9
      exact he _ _ (hP.sub [0, 1, 2, 3] rfl) (hD.sub [0, 1, 2, 3] (by decide) rfl) hS _ (lv_sub hl [2] rfl)
    · have hf := og_f c7 hf
      refine lv_aload_n hx hb dX1_countZeroLimbs_9 rfl (lv_at hl 0 rfl) ?_
      refine va_get (D := (dC, dI)) (ci := 1) (v := .ref q_t_divisor) (C := RX1) (T := TX1) (N := 6) hx hb hts ki_S_countZeroLimbs_X1 hown hK hP 0 rfl rfl 3 (by decide) (hts (.fieldLink RX1 22 "MinorSteps$Sum" "divisor" "[I") kw_S_countZeroLimbs_0) (fun _ h9 => h9) rfl dX1_countZeroLimbs_10 ?_
      refine lv_iload_n hx hb dX1_countZeroLimbs_13 rfl (lv_at hl 2 rfl) ?_
      obtain ⟨g8, hf⟩ := og_c hf
      refine va_iald hx hb hK hP 3 0 rfl rfl (og_in g8) dX1_countZeroLimbs_14 ?_
      refine lv_if_ne (tgt := 24) hx hb dX1_countZeroLimbs_15 (by decide) (fun c9 => ?_) (fun c9 => ?_)
      · have hf := og_f c9 hf
        have e9 := Option.some.inj hf
        subst e9
        exact he _ _ (hP.sub [0, 1, 2, 3] rfl) (hD.sub [0, 1, 2, 3] (by decide) rfl) hS _ (lv_sub hl [2] rfl)
      · have hf := og_t c9 hf
        refine lv_iinc (v := v2 + 1) (lv' := [(2, .int (v2 + 1)), (0, .ref q_t), (1, .int v1)]) hx hb dX1_countZeroLimbs_18 hl (k := 2) rfl rfl (by decide) rfl (fun ls hl => ?_)
        refine lv_goto (tgt := 2) hx hb dX1_countZeroLimbs_21 (by decide) ?_
        exact ih (v2 + 1) _ hf _ _ (hP.sub [0, 1, 2, 3] rfl) (hD.sub [0, 1, 2, 3] (by decide) rfl) hS _ (lv_sub hl [1, 2, 0] rfl) he
set_option maxHeartbeats 4000000 in
set_option maxRecDepth 100000 in
theorem c_S_countZeroLimbs (l : Launch) (dC : Nat → ClassId) (dI : Nat → Nat → Nat) (cA : ClassId) (sz : Nat) (q_t : Nat) (q_t_plus : Nat) (q_t_minus : Nat) (q_t_divisor : Nat) (k : Nat) (t_room : Int32) (t_sign : Int32) (t_length : Int32) (n_t_plus : Nat) (a_t_plus : Nat → Int32) (n_t_minus : Nat) (a_t_minus : Nat → Int32) (n_t_divisor : Nat) (a_t_divisor : Nat → Int32) (size : Int32) (o : Int32) (hf : f_S_countZeroLimbs k n_t_divisor a_t_divisor size = some o) : Met l yX1_countZeroLimbs wsX1_countZeroLimbs rm_S_countZeroLimbs (c_Pre (dC, dI) vwCl [(cA, .int)] [(q_t, .inr (1, [.int t_room, .ref q_t_plus, .ref q_t_minus, .ref q_t_divisor, .int t_sign, .int t_length])), (q_t_plus, .inl (cA, n_t_plus, .inl a_t_plus)), (q_t_minus, .inl (cA, n_t_minus, .inl a_t_minus)), (q_t_divisor, .inl (cA, n_t_divisor, .inl a_t_divisor))] sz [.ref q_t, .int size]) (c_Qi (dC, dI) vwCl [(cA, .int)] [(q_t, .inr (1, [.int t_room, .ref q_t_plus, .ref q_t_minus, .ref q_t_divisor, .int t_sign, .int t_length])), (q_t_plus, .inl (cA, n_t_plus, .inl a_t_plus)), (q_t_minus, .inl (cA, n_t_minus, .inl a_t_minus)), (q_t_divisor, .inl (cA, n_t_divisor, .inl a_t_divisor))] (va_A [(q_t, .inr (1, [.int t_room, .ref q_t_plus, .ref q_t_minus, .ref q_t_divisor, .int t_sign, .int t_length])), (q_t_plus, .inl (cA, n_t_plus, .inl a_t_plus)), (q_t_minus, .inl (cA, n_t_minus, .inl a_t_minus)), (q_t_divisor, .inl (cA, n_t_divisor, .inl a_t_divisor))] sz) o) 0 0 (va_A [(q_t, .inr (1, [.int t_room, .ref q_t_plus, .ref q_t_minus, .ref q_t_divisor, .int t_sign, .int t_length])), (q_t_plus, .inl (cA, n_t_plus, .inl a_t_plus)), (q_t_minus, .inl (cA, n_t_minus, .inl a_t_minus)), (q_t_divisor, .inl (cA, n_t_divisor, .inl a_t_divisor))] sz) := by
  unfold f_S_countZeroLimbs at hf
  refine k_ent (Qc := fun A => c_Qi (dC, dI) vwCl [(cA, .int)] [(q_t, .inr (1, [.int t_room, .ref q_t_plus, .ref q_t_minus, .ref q_t_divisor, .int t_sign, .int t_length])), (q_t_plus, .inl (cA, n_t_plus, .inl a_t_plus)), (q_t_minus, .inl (cA, n_t_minus, .inl a_t_minus)), (q_t_divisor, .inl (cA, n_t_divisor, .inl a_t_divisor))] A o) (by decide) rfl (Nat.le_of_ble_eq_true rfl) ?_
  intro p e s m below meth c A hx hb hr hown hts hml hlocks hin hsz hA hK H locs hP hD hS ls hl
  have hown : s.vm.findClass RX1 = some m.cls := hown
  have hl : lv_has ls 3 [(0, .ref q_t), (1, .int size)] := hl
  refine lv_iconst (v := 0) hx hb dX1_countZeroLimbs_0 (by decide) ?_
  refine lv_istore_n (lv' := [(2, .int 0), (0, .ref q_t), (1, .int size)]) hx hb dX1_countZeroLimbs_1 rfl hl (by decide) rfl (fun ls hl => ?_)
  obtain ⟨x10, g11, hf⟩ := og_b hf
  refine w_S_countZeroLimbs_L2 hx hb hown hts hml hA hK k q_t q_t_plus q_t_minus q_t_divisor size t_room t_sign t_length n_t_plus a_t_plus n_t_minus a_t_minus n_t_divisor a_t_divisor k (0 : Int32) _ g11 _ _ (hP.sub [0, 1, 2, 3] rfl) (hD.sub [0, 1, 2, 3] (by decide) rfl) hS _ (lv_sub hl [1, 2, 0] rfl) ?_
  intro H locs hP hD hS ls hl
  refine lv_iload_n hx hb dX1_countZeroLimbs_24 rfl (lv_at hl 2 rfl) ?_
  have e9 := Option.some.inj hf
  subst e9
  exact kr_i hx hb hr hlocks hK hS (hP.sub [0, 1, 2, 3] rfl) (hD.sub [0, 1, 2, 3] (by decide) rfl) dX1_countZeroLimbs_25
def rm_S_countZeroBits : Room := { frames := 0, cells := 0, slots := 0, locals := 0 }
set_option maxHeartbeats 4000000 in
set_option maxRecDepth 100000 in
theorem w_S_countZeroBits_L2 {p : Program} {l : Launch} {e : Env} {s : State} {m : MethodId} {args : Array Value} {below : List Frame} {meth : Method} {c : Code} {Q : State → Prop} {A : Nat → Prop} {H0 : Heap} {dC : Nat → ClassId} {dI : Nat → Nat → Nat} {cA : ClassId} (hx : p.tables.exec = Jvm.exec) (hb : c.code = cX1_countZeroBits) (hown : s.vm.findClass RX1 = some m.cls) (hts : ∀ w ∈ wsX1_countZeroBits, w.before args s = true) (hml : c.maxLocals = 2) (hA : ∀ q, H0.size ≤ q → A q) (hK : va_K (dC, dI) vwCl [(cA, .int)] s) (k : Nat) (v0 : Int32) : ∀ (j : Nat) (v1 : Int32) (o : Int32), f_S_countZeroBits_L2 k v0 j v1 = some o → ∀ (H : Heap) (locs : List Loc), va_P (dC, dI) vwCl [] H → va_D A [] → va_S A H0 H locs → ∀ ls : Array Slot, lv_has ls 2 [(0, .int v0), (1, .int v1)] → ∀ (he : ∀ (H : Heap) (locs : List Loc), va_P (dC, dI) vwCl [] H → va_D A [] → va_S A H0 H locs → ∀ ls : Array Slot, lv_has ls 2 [(1, .int o)] → W p l e rm_S_countZeroBits s m args below meth c H locs 0 0 Q (F0 m 22 ls [])), W p l e rm_S_countZeroBits s m args below meth c H locs 0 0 Q (F0 m 2 ls []) := by
  intro j
  induction j with
  | zero =>
    intro v1 o hf
    rw [f_S_countZeroBits_L2] at hf
    cases hf
  | succ j ih =>
    intro v1 o hf H locs hP hD hS ls hl he
    rw [f_S_countZeroBits_L2] at hf
    refine lv_iload_n hx hb dX1_countZeroBits_2 rfl (lv_at hl 1 rfl) ?_
    refine lv_bipush (v := 30) hx hb dX1_countZeroBits_3 (by decide) ?_
    refine lv_icmp_ge (tgt := 22) hx hb dX1_countZeroBits_5 (by decide) (fun c5 => ?_) (fun c5 => ?_)
    · have hf := og_t c5 hf
      have e9 := Option.some.inj hf
      subst e9
      exact he _ _ (hP.sub [] rfl) (hD.sub [] (by decide) rfl) hS _ (lv_sub hl [1] rfl)
    · have hf := og_f c5 hf
      refine lv_iload_n hx hb dX1_countZeroBits_8 rfl (lv_at hl 0 rfl) ?_
      refine lv_iload_n hx hb dX1_countZeroBits_9 rfl (lv_at hl 1 rfl) ?_
      refine lv_ishr hx hb dX1_countZeroBits_10 ?_
      refine lv_iconst (v := 1) hx hb dX1_countZeroBits_11 (by decide) ?_
      refine lv_iand hx hb dX1_countZeroBits_12 ?_
      refine lv_if_ne (tgt := 22) hx hb dX1_countZeroBits_13 (by decide) (fun c6 => ?_) (fun c6 => ?_)
      · have hf := og_f c6 hf
        have e9 := Option.some.inj hf
        subst e9
        exact he _ _ (hP.sub [] rfl) (hD.sub [] (by decide) rfl) hS _ (lv_sub hl [1] rfl)
      · have hf := og_t c6 hf
        refine lv_iinc (v := v1 + 1) (lv' := [(1, .int (v1 + 1)), (0, .int v0)]) hx hb dX1_countZeroBits_16 hl (k := 1) rfl rfl (by decide) rfl (fun ls hl => ?_)
        refine lv_goto (tgt := 2) hx hb dX1_countZeroBits_19 (by decide) ?_
        exact ih (v1 + 1) _ hf _ _ (hP.sub [] rfl) (hD.sub [] (by decide) rfl) hS _ (lv_sub hl [1, 0] rfl) he
set_option maxHeartbeats 4000000 in
set_option maxRecDepth 100000 in
theorem c_S_countZeroBits (l : Launch) (dC : Nat → ClassId) (dI : Nat → Nat → Nat) (cA : ClassId) (sz : Nat) (k : Nat) (word : Int32) (o : Int32) (hf : f_S_countZeroBits k word = some o) : Met l yX1_countZeroBits wsX1_countZeroBits rm_S_countZeroBits (c_Pre (dC, dI) vwCl [(cA, .int)] [] sz [.int word]) (c_Qi (dC, dI) vwCl [(cA, .int)] [] (va_A [] sz) o) 0 0 (va_A [] sz) := by
  unfold f_S_countZeroBits at hf
  refine k_ent (Qc := fun A => c_Qi (dC, dI) vwCl [(cA, .int)] [] A o) (by decide) rfl (Nat.le_of_ble_eq_true rfl) ?_
  intro p e s m below meth c A hx hb hr hown hts hml hlocks hin hsz hA hK H locs hP hD hS ls hl
  have hown : s.vm.findClass RX1 = some m.cls := hown
  have hl : lv_has ls 2 [(0, .int word)] := hl
  refine lv_iconst (v := 0) hx hb dX1_countZeroBits_0 (by decide) ?_
  refine lv_istore_n (lv' := [(1, .int 0), (0, .int word)]) hx hb dX1_countZeroBits_1 rfl hl (by decide) rfl (fun ls hl => ?_)
  obtain ⟨x7, g8, hf⟩ := og_b hf
  refine w_S_countZeroBits_L2 hx hb hown hts hml hA hK k word k (0 : Int32) _ g8 _ _ (hP.sub [] rfl) (hD.sub [] (by decide) rfl) hS _ (lv_sub hl [1, 0] rfl) ?_
  intro H locs hP hD hS ls hl
  refine lv_iload_n hx hb dX1_countZeroBits_22 rfl (lv_at hl 1 rfl) ?_
  have e9 := Option.some.inj hf
  subst e9
  exact kr_i hx hb hr hlocks hK hS (hP.sub [] rfl) (hD.sub [] (by decide) rfl) dX1_countZeroBits_23
def rm_S_shiftDown : Room := { frames := 0, cells := 0, slots := 0, locals := 0 }
theorem kw_S_shiftDown_0 : (.constantLong RX1 54 2147483647 : Cond) ∈ wsX1_shiftDown := by decide +kernel
set_option maxHeartbeats 4000000 in
set_option maxRecDepth 100000 in
theorem w_S_shiftDown_L3 {p : Program} {l : Launch} {e : Env} {s : State} {m : MethodId} {args : Array Value} {below : List Frame} {meth : Method} {c : Code} {Q : State → Prop} {A : Nat → Prop} {H0 : Heap} {dC : Nat → ClassId} {dI : Nat → Nat → Nat} {cA : ClassId} (hx : p.tables.exec = Jvm.exec) (hb : c.code = cX1_shiftDown) (hown : s.vm.findClass RX1 = some m.cls) (hts : ∀ w ∈ wsX1_shiftDown, w.before args s = true) (hml : c.maxLocals = 9) (hA : ∀ q, H0.size ≤ q → A q) (hK : va_K (dC, dI) vwCl [(cA, .int)] s) (k : Nat) (q_row : Nat) (v1 : Int32) (v2 : Int32) (v3 : Int32) (n_row : Nat) : ∀ (j : Nat) (v4 : Int32) (a_row : Nat → Int32) (o : Int32 × (Nat → Int32)), f_S_shiftDown_L3 k v1 v2 v3 n_row j v4 a_row = some o → ∀ (H : Heap) (locs : List Loc), va_P (dC, dI) vwCl [(q_row, .inl (cA, n_row, .inl a_row))] H → va_D A [(q_row, .inl (cA, n_row, .inl a_row))] → va_S A H0 H locs → ∀ ls : Array Slot, lv_has ls 9 [(0, .ref q_row), (1, .int v1), (2, .int v2), (3, .int v3), (4, .int v4)] → ∀ (he : ∀ (H : Heap) (locs : List Loc), va_P (dC, dI) vwCl [(q_row, .inl (cA, n_row, .inl o.2))] H → va_D A [(q_row, .inl (cA, n_row, .inl o.2))] → va_S A H0 H locs → ∀ ls : Array Slot, lv_has ls 9 [] → W p l e rm_S_shiftDown s m args below meth c H locs 0 0 Q (F0 m 80 ls [])), W p l e rm_S_shiftDown s m args below meth c H locs 0 0 Q (F0 m 3 ls []) := by
  intro j
  induction j with
  | zero =>
    intro v4 a_row o hf
    rw [f_S_shiftDown_L3] at hf
    cases hf
  | succ j ih =>
    intro v4 a_row o hf H locs hP hD hS ls hl he
    rw [f_S_shiftDown_L3] at hf
    refine lv_iload hx hb dX1_shiftDown_3 (lv_at hl 4 rfl) ?_
    refine lv_iload_n hx hb dX1_shiftDown_5 rfl (lv_at hl 1 rfl) ?_
    refine lv_icmp_ge (tgt := 80) hx hb dX1_shiftDown_6 (by decide) (fun c23 => ?_) (fun c23 => ?_)
    · have hf := og_t c23 hf
      have e9 := Option.some.inj hf
      subst e9
      exact he _ _ (hP.sub [0] rfl) (hD.sub [0] (by decide) rfl) hS _ (lv_sub hl [] rfl)
    · have hf := og_f c23 hf
      refine lv_iload hx hb dX1_shiftDown_9 (lv_at hl 4 rfl) ?_
      refine lv_iload_n hx hb dX1_shiftDown_11 rfl (lv_at hl 2 rfl) ?_
      refine lv_iadd hx hb dX1_shiftDown_12 ?_
      refine lv_iload_n hx hb dX1_shiftDown_13 rfl (lv_at hl 1 rfl) ?_
      refine lv_icmp_ge (tgt := 27) hx hb dX1_shiftDown_14 (by decide) (fun c24 => ?_) (fun c24 => ?_)
      · have hf := og_t c24 hf
        refine lv_lconst (v := 0) hx hb dX1_shiftDown_27 (by decide) ?_
        refine lv_lstore (lv' := [(5, .long 0), (0, .ref q_row), (1, .int v1), (2, .int v2), (3, .int v3), (4, .int v4)]) hx hb dX1_shiftDown_28 hl (by decide) rfl (fun ls hl => ?_)
        refine lv_iload hx hb dX1_shiftDown_30 (lv_at hl 5 rfl) ?_
        refine lv_iload_n hx hb dX1_shiftDown_32 rfl (lv_at hl 3 rfl) ?_
        refine lv_iadd hx hb dX1_shiftDown_33 ?_
        refine lv_iconst (v := 1) hx hb dX1_shiftDown_34 (by decide) ?_
        refine lv_iadd hx hb dX1_shiftDown_35 ?_
        refine lv_iload_n hx hb dX1_shiftDown_36 rfl (lv_at hl 2 rfl) ?_
        refine lv_icmp_ge (tgt := 52) hx hb dX1_shiftDown_37 (by decide) (fun c25 => ?_) (fun c25 => ?_)
        · have hf := og_t c25 hf
          refine lv_lconst (v := 0) hx hb dX1_shiftDown_52 (by decide) ?_
          refine lv_lstore (lv' := [(7, .long 0), (5, .long 0), (0, .ref q_row), (1, .int v1), (2, .int v2), (3, .int v3), (4, .int v4)]) hx hb dX1_shiftDown_53 hl (by decide) rfl (fun ls hl => ?_)
          refine lv_aload_n hx hb dX1_shiftDown_55 rfl (lv_at hl 2 rfl) ?_
          refine lv_iload hx hb dX1_shiftDown_56 (lv_at hl 6 rfl) ?_
          refine lv_lload hx hb dX1_shiftDown_58 (lv_at hl 0 rfl) ?_
          refine lv_bipush (v := 31) hx hb dX1_shiftDown_60 (by decide) ?_
          refine lv_lshl (v := (0 : Int64) <<< ((31 : Int32).toInt64 &&& 63)) hx hb dX1_shiftDown_62 rfl ?_
          refine lv_lload hx hb dX1_shiftDown_63 (lv_at hl 1 rfl) ?_
          refine lv_lor hx hb dX1_shiftDown_65 ?_
          refine lv_iload_n hx hb dX1_shiftDown_66 rfl (lv_at hl 5 rfl) ?_
          refine lv_lshr (v := (((0 : Int64) <<< ((31 : Int32).toInt64 &&& 63)) ||| 0) >>> (v3.toInt64 &&& 63)) hx hb dX1_shiftDown_67 rfl ?_
          refine lv_ldc2 (v := 2147483647) hx hb hown (hts (.constantLong RX1 54 2147483647) kw_S_shiftDown_0) dX1_shiftDown_68 ?_
          refine lv_land hx hb dX1_shiftDown_71 ?_
          refine lv_l2i (v := (((((0 : Int64) <<< ((31 : Int32).toInt64 &&& 63)) ||| 0) >>> (v3.toInt64 &&& 63)) &&& 2147483647).toInt32) hx hb dX1_shiftDown_72 rfl ?_
          obtain ⟨g26, hf⟩ := og_c hf
          refine va_iast hx hb hK hP hD hS 0 0 rfl rfl (og_in g26) dX1_shiftDown_73 (fun H locs hP hD hS => ?_)
          have hP : va_P (dC, dI) vwCl [(q_row, .inl (cA, n_row, .inl (upd a_row v4.toNatClampNeg ((((((0 : Int64) <<< ((31 : Int32).toInt64 &&& 63)) ||| 0) >>> (v3.toInt64 &&& 63)) &&& 2147483647).toInt32))))] H := hP
          have hD : va_D A [(q_row, .inl (cA, n_row, .inl (upd a_row v4.toNatClampNeg ((((((0 : Int64) <<< ((31 : Int32).toInt64 &&& 63)) ||| 0) >>> (v3.toInt64 &&& 63)) &&& 2147483647).toInt32))))] := hD
          refine lv_iinc (v := v4 + 1) (lv' := [(4, .int (v4 + 1)), (7, .long 0), (5, .long 0), (0, .ref q_row), (1, .int v1), (2, .int v2), (3, .int v3)]) hx hb dX1_shiftDown_74 hl (k := 6) rfl rfl (by decide) rfl (fun ls hl => ?_)
          refine lv_goto (tgt := 3) hx hb dX1_shiftDown_77 (by decide) ?_
          exact ih (v4 + 1) (upd a_row v4.toNatClampNeg ((((((0 : Int64) <<< ((31 : Int32).toInt64 &&& 63)) ||| 0) >>> (v3.toInt64 &&& 63)) &&& 2147483647).toInt32)) _ hf _ _ (hP.sub [0] rfl) (hD.sub [0] (by decide) rfl) hS _ (lv_sub hl [3, 4, 5, 6, 0] rfl) he
        · have hf := og_f c25 hf
          refine lv_aload_n hx hb dX1_shiftDown_40 rfl (lv_at hl 1 rfl) ?_
          refine lv_iload hx hb dX1_shiftDown_41 (lv_at hl 5 rfl) ?_
          refine lv_iload_n hx hb dX1_shiftDown_43 rfl (lv_at hl 3 rfl) ?_
          refine lv_iadd hx hb dX1_shiftDown_44 ?_
          refine lv_iconst (v := 1) hx hb dX1_shiftDown_45 (by decide) ?_
          refine lv_iadd hx hb dX1_shiftDown_46 ?_
          obtain ⟨g27, hf⟩ := og_c hf
          refine va_iald hx hb hK hP 0 0 rfl rfl (og_in g27) dX1_shiftDown_47 ?_
          refine lv_i2l (v := (a_row ((v4 + v2) + 1).toNatClampNeg).toInt64) hx hb dX1_shiftDown_48 rfl ?_
          refine lv_goto (tgt := 53) hx hb dX1_shiftDown_49 (by decide) ?_
          refine lv_lstore (lv' := [(7, .long ((a_row ((v4 + v2) + 1).toNatClampNeg).toInt64)), (5, .long 0), (0, .ref q_row), (1, .int v1), (2, .int v2), (3, .int v3), (4, .int v4)]) hx hb dX1_shiftDown_53 hl (by decide) rfl (fun ls hl => ?_)
          refine lv_aload_n hx hb dX1_shiftDown_55 rfl (lv_at hl 2 rfl) ?_
          refine lv_iload hx hb dX1_shiftDown_56 (lv_at hl 6 rfl) ?_
          refine lv_lload hx hb dX1_shiftDown_58 (lv_at hl 0 rfl) ?_
          refine lv_bipush (v := 31) hx hb dX1_shiftDown_60 (by decide) ?_
          refine lv_lshl (v := ((a_row ((v4 + v2) + 1).toNatClampNeg).toInt64) <<< ((31 : Int32).toInt64 &&& 63)) hx hb dX1_shiftDown_62 rfl ?_
          refine lv_lload hx hb dX1_shiftDown_63 (lv_at hl 1 rfl) ?_
          refine lv_lor hx hb dX1_shiftDown_65 ?_
          refine lv_iload_n hx hb dX1_shiftDown_66 rfl (lv_at hl 5 rfl) ?_
          refine lv_lshr (v := ((((a_row ((v4 + v2) + 1).toNatClampNeg).toInt64) <<< ((31 : Int32).toInt64 &&& 63)) ||| 0) >>> (v3.toInt64 &&& 63)) hx hb dX1_shiftDown_67 rfl ?_
          refine lv_ldc2 (v := 2147483647) hx hb hown (hts (.constantLong RX1 54 2147483647) kw_S_shiftDown_0) dX1_shiftDown_68 ?_
          refine lv_land hx hb dX1_shiftDown_71 ?_
          refine lv_l2i (v := ((((((a_row ((v4 + v2) + 1).toNatClampNeg).toInt64) <<< ((31 : Int32).toInt64 &&& 63)) ||| 0) >>> (v3.toInt64 &&& 63)) &&& 2147483647).toInt32) hx hb dX1_shiftDown_72 rfl ?_
          obtain ⟨g28, hf⟩ := og_c hf
          refine va_iast hx hb hK hP hD hS 0 0 rfl rfl (og_in g28) dX1_shiftDown_73 (fun H locs hP hD hS => ?_)
          have hP : va_P (dC, dI) vwCl [(q_row, .inl (cA, n_row, .inl (upd a_row v4.toNatClampNeg (((((((a_row ((v4 + v2) + 1).toNatClampNeg).toInt64) <<< ((31 : Int32).toInt64 &&& 63)) ||| 0) >>> (v3.toInt64 &&& 63)) &&& 2147483647).toInt32))))] H := hP
          have hD : va_D A [(q_row, .inl (cA, n_row, .inl (upd a_row v4.toNatClampNeg (((((((a_row ((v4 + v2) + 1).toNatClampNeg).toInt64) <<< ((31 : Int32).toInt64 &&& 63)) ||| 0) >>> (v3.toInt64 &&& 63)) &&& 2147483647).toInt32))))] := hD
          refine lv_iinc (v := v4 + 1) (lv' := [(4, .int (v4 + 1)), (7, .long ((a_row ((v4 + v2) + 1).toNatClampNeg).toInt64)), (5, .long 0), (0, .ref q_row), (1, .int v1), (2, .int v2), (3, .int v3)]) hx hb dX1_shiftDown_74 hl (k := 6) rfl rfl (by decide) rfl (fun ls hl => ?_)
          refine lv_goto (tgt := 3) hx hb dX1_shiftDown_77 (by decide) ?_
          exact ih (v4 + 1) (upd a_row v4.toNatClampNeg (((((((a_row ((v4 + v2) + 1).toNatClampNeg).toInt64) <<< ((31 : Int32).toInt64 &&& 63)) ||| 0) >>> (v3.toInt64 &&& 63)) &&& 2147483647).toInt32)) _ hf _ _ (hP.sub [0] rfl) (hD.sub [0] (by decide) rfl) hS _ (lv_sub hl [3, 4, 5, 6, 0] rfl) he
      · have hf := og_f c24 hf
        refine lv_aload_n hx hb dX1_shiftDown_17 rfl (lv_at hl 0 rfl) ?_
        refine lv_iload hx hb dX1_shiftDown_18 (lv_at hl 4 rfl) ?_
        refine lv_iload_n hx hb dX1_shiftDown_20 rfl (lv_at hl 2 rfl) ?_
        refine lv_iadd hx hb dX1_shiftDown_21 ?_
        obtain ⟨g29, hf⟩ := og_c hf
        refine va_iald hx hb hK hP 0 0 rfl rfl (og_in g29) dX1_shiftDown_22 ?_
        refine lv_i2l (v := (a_row (v4 + v2).toNatClampNeg).toInt64) hx hb dX1_shiftDown_23 rfl ?_
        refine lv_goto (tgt := 28) hx hb dX1_shiftDown_24 (by decide) ?_
        refine lv_lstore (lv' := [(5, .long ((a_row (v4 + v2).toNatClampNeg).toInt64)), (0, .ref q_row), (1, .int v1), (2, .int v2), (3, .int v3), (4, .int v4)]) hx hb dX1_shiftDown_28 hl (by decide) rfl (fun ls hl => ?_)
        refine lv_iload hx hb dX1_shiftDown_30 (lv_at hl 5 rfl) ?_
        refine lv_iload_n hx hb dX1_shiftDown_32 rfl (lv_at hl 3 rfl) ?_
        refine lv_iadd hx hb dX1_shiftDown_33 ?_
        refine lv_iconst (v := 1) hx hb dX1_shiftDown_34 (by decide) ?_
        refine lv_iadd hx hb dX1_shiftDown_35 ?_
        refine lv_iload_n hx hb dX1_shiftDown_36 rfl (lv_at hl 2 rfl) ?_
        refine lv_icmp_ge (tgt := 52) hx hb dX1_shiftDown_37 (by decide) (fun c30 => ?_) (fun c30 => ?_)
        · have hf := og_t c30 hf
          refine lv_lconst (v := 0) hx hb dX1_shiftDown_52 (by decide) ?_
          refine lv_lstore (lv' := [(7, .long 0), (5, .long ((a_row (v4 + v2).toNatClampNeg).toInt64)), (0, .ref q_row), (1, .int v1), (2, .int v2), (3, .int v3), (4, .int v4)]) hx hb dX1_shiftDown_53 hl (by decide) rfl (fun ls hl => ?_)
          refine lv_aload_n hx hb dX1_shiftDown_55 rfl (lv_at hl 2 rfl) ?_
          refine lv_iload hx hb dX1_shiftDown_56 (lv_at hl 6 rfl) ?_
          refine lv_lload hx hb dX1_shiftDown_58 (lv_at hl 0 rfl) ?_
          refine lv_bipush (v := 31) hx hb dX1_shiftDown_60 (by decide) ?_
          refine lv_lshl (v := (0 : Int64) <<< ((31 : Int32).toInt64 &&& 63)) hx hb dX1_shiftDown_62 rfl ?_
          refine lv_lload hx hb dX1_shiftDown_63 (lv_at hl 1 rfl) ?_
          refine lv_lor hx hb dX1_shiftDown_65 ?_
          refine lv_iload_n hx hb dX1_shiftDown_66 rfl (lv_at hl 5 rfl) ?_
          refine lv_lshr (v := (((0 : Int64) <<< ((31 : Int32).toInt64 &&& 63)) ||| ((a_row (v4 + v2).toNatClampNeg).toInt64)) >>> (v3.toInt64 &&& 63)) hx hb dX1_shiftDown_67 rfl ?_
          refine lv_ldc2 (v := 2147483647) hx hb hown (hts (.constantLong RX1 54 2147483647) kw_S_shiftDown_0) dX1_shiftDown_68 ?_
          refine lv_land hx hb dX1_shiftDown_71 ?_
          refine lv_l2i (v := (((((0 : Int64) <<< ((31 : Int32).toInt64 &&& 63)) ||| ((a_row (v4 + v2).toNatClampNeg).toInt64)) >>> (v3.toInt64 &&& 63)) &&& 2147483647).toInt32) hx hb dX1_shiftDown_72 rfl ?_
          obtain ⟨g31, hf⟩ := og_c hf
          refine va_iast hx hb hK hP hD hS 0 0 rfl rfl (og_in g31) dX1_shiftDown_73 (fun H locs hP hD hS => ?_)
          have hP : va_P (dC, dI) vwCl [(q_row, .inl (cA, n_row, .inl (upd a_row v4.toNatClampNeg ((((((0 : Int64) <<< ((31 : Int32).toInt64 &&& 63)) ||| ((a_row (v4 + v2).toNatClampNeg).toInt64)) >>> (v3.toInt64 &&& 63)) &&& 2147483647).toInt32))))] H := hP
          have hD : va_D A [(q_row, .inl (cA, n_row, .inl (upd a_row v4.toNatClampNeg ((((((0 : Int64) <<< ((31 : Int32).toInt64 &&& 63)) ||| ((a_row (v4 + v2).toNatClampNeg).toInt64)) >>> (v3.toInt64 &&& 63)) &&& 2147483647).toInt32))))] := hD
          refine lv_iinc (v := v4 + 1) (lv' := [(4, .int (v4 + 1)), (7, .long 0), (5, .long ((a_row (v4 + v2).toNatClampNeg).toInt64)), (0, .ref q_row), (1, .int v1), (2, .int v2), (3, .int v3)]) hx hb dX1_shiftDown_74 hl (k := 6) rfl rfl (by decide) rfl (fun ls hl => ?_)
          refine lv_goto (tgt := 3) hx hb dX1_shiftDown_77 (by decide) ?_
          exact ih (v4 + 1) (upd a_row v4.toNatClampNeg ((((((0 : Int64) <<< ((31 : Int32).toInt64 &&& 63)) ||| ((a_row (v4 + v2).toNatClampNeg).toInt64)) >>> (v3.toInt64 &&& 63)) &&& 2147483647).toInt32)) _ hf _ _ (hP.sub [0] rfl) (hD.sub [0] (by decide) rfl) hS _ (lv_sub hl [3, 4, 5, 6, 0] rfl) he
        · have hf := og_f c30 hf
          refine lv_aload_n hx hb dX1_shiftDown_40 rfl (lv_at hl 1 rfl) ?_
          refine lv_iload hx hb dX1_shiftDown_41 (lv_at hl 5 rfl) ?_
          refine lv_iload_n hx hb dX1_shiftDown_43 rfl (lv_at hl 3 rfl) ?_
          refine lv_iadd hx hb dX1_shiftDown_44 ?_
          refine lv_iconst (v := 1) hx hb dX1_shiftDown_45 (by decide) ?_
          refine lv_iadd hx hb dX1_shiftDown_46 ?_
          obtain ⟨g32, hf⟩ := og_c hf
          refine va_iald hx hb hK hP 0 0 rfl rfl (og_in g32) dX1_shiftDown_47 ?_
          refine lv_i2l (v := (a_row ((v4 + v2) + 1).toNatClampNeg).toInt64) hx hb dX1_shiftDown_48 rfl ?_
          refine lv_goto (tgt := 53) hx hb dX1_shiftDown_49 (by decide) ?_
          refine lv_lstore (lv' := [(7, .long ((a_row ((v4 + v2) + 1).toNatClampNeg).toInt64)), (5, .long ((a_row (v4 + v2).toNatClampNeg).toInt64)), (0, .ref q_row), (1, .int v1), (2, .int v2), (3, .int v3), (4, .int v4)]) hx hb dX1_shiftDown_53 hl (by decide) rfl (fun ls hl => ?_)
          refine lv_aload_n hx hb dX1_shiftDown_55 rfl (lv_at hl 2 rfl) ?_
          refine lv_iload hx hb dX1_shiftDown_56 (lv_at hl 6 rfl) ?_
          refine lv_lload hx hb dX1_shiftDown_58 (lv_at hl 0 rfl) ?_
          refine lv_bipush (v := 31) hx hb dX1_shiftDown_60 (by decide) ?_
          refine lv_lshl (v := ((a_row ((v4 + v2) + 1).toNatClampNeg).toInt64) <<< ((31 : Int32).toInt64 &&& 63)) hx hb dX1_shiftDown_62 rfl ?_
          refine lv_lload hx hb dX1_shiftDown_63 (lv_at hl 1 rfl) ?_
          refine lv_lor hx hb dX1_shiftDown_65 ?_
          refine lv_iload_n hx hb dX1_shiftDown_66 rfl (lv_at hl 5 rfl) ?_
          refine lv_lshr (v := ((((a_row ((v4 + v2) + 1).toNatClampNeg).toInt64) <<< ((31 : Int32).toInt64 &&& 63)) ||| ((a_row (v4 + v2).toNatClampNeg).toInt64)) >>> (v3.toInt64 &&& 63)) hx hb dX1_shiftDown_67 rfl ?_
          refine lv_ldc2 (v := 2147483647) hx hb hown (hts (.constantLong RX1 54 2147483647) kw_S_shiftDown_0) dX1_shiftDown_68 ?_
          refine lv_land hx hb dX1_shiftDown_71 ?_
          refine lv_l2i (v := ((((((a_row ((v4 + v2) + 1).toNatClampNeg).toInt64) <<< ((31 : Int32).toInt64 &&& 63)) ||| ((a_row (v4 + v2).toNatClampNeg).toInt64)) >>> (v3.toInt64 &&& 63)) &&& 2147483647).toInt32) hx hb dX1_shiftDown_72 rfl ?_
          obtain ⟨g33, hf⟩ := og_c hf
          refine va_iast hx hb hK hP hD hS 0 0 rfl rfl (og_in g33) dX1_shiftDown_73 (fun H locs hP hD hS => ?_)
          have hP : va_P (dC, dI) vwCl [(q_row, .inl (cA, n_row, .inl (upd a_row v4.toNatClampNeg (((((((a_row ((v4 + v2) + 1).toNatClampNeg).toInt64) <<< ((31 : Int32).toInt64 &&& 63)) ||| ((a_row (v4 + v2).toNatClampNeg).toInt64)) >>> (v3.toInt64 &&& 63)) &&& 2147483647).toInt32))))] H := hP
          have hD : va_D A [(q_row, .inl (cA, n_row, .inl (upd a_row v4.toNatClampNeg (((((((a_row ((v4 + v2) + 1).toNatClampNeg).toInt64) <<< ((31 : Int32).toInt64 &&& 63)) ||| ((a_row (v4 + v2).toNatClampNeg).toInt64)) >>> (v3.toInt64 &&& 63)) &&& 2147483647).toInt32))))] := hD
          refine lv_iinc (v := v4 + 1) (lv' := [(4, .int (v4 + 1)), (7, .long ((a_row ((v4 + v2) + 1).toNatClampNeg).toInt64)), (5, .long ((a_row (v4 + v2).toNatClampNeg).toInt64)), (0, .ref q_row), (1, .int v1), (2, .int v2), (3, .int v3)]) hx hb dX1_shiftDown_74 hl (k := 6) rfl rfl (by decide) rfl (fun ls hl => ?_)
          refine lv_goto (tgt := 3) hx hb dX1_shiftDown_77 (by decide) ?_
          exact ih (v4 + 1) (upd a_row v4.toNatClampNeg (((((((a_row ((v4 + v2) + 1).toNatClampNeg).toInt64) <<< ((31 : Int32).toInt64 &&& 63)) ||| ((a_row (v4 + v2).toNatClampNeg).toInt64)) >>> (v3.toInt64 &&& 63)) &&& 2147483647).toInt32)) _ hf _ _ (hP.sub [0] rfl) (hD.sub [0] (by decide) rfl) hS _ (lv_sub hl [3, 4, 5, 6, 0] rfl) he
set_option maxHeartbeats 4000000 in
set_option maxRecDepth 100000 in
theorem c_S_shiftDown (l : Launch) (dC : Nat → ClassId) (dI : Nat → Nat → Nat) (cA : ClassId) (sz : Nat) (q_row : Nat) (k : Nat) (n_row : Nat) (a_row : Nat → Int32) (size : Int32) (byLimbs : Int32) (byBits : Int32) (o : (Nat → Int32)) (hf : f_S_shiftDown k n_row a_row size byLimbs byBits = some o) : Met l yX1_shiftDown wsX1_shiftDown rm_S_shiftDown (c_Pre (dC, dI) vwCl [(cA, .int)] [(q_row, .inl (cA, n_row, .inl a_row))] sz [.ref q_row, .int size, .int byLimbs, .int byBits]) (c_Qv (dC, dI) vwCl [(cA, .int)] [(q_row, .inl (cA, n_row, .inl o))] (va_A [(q_row, .inl (cA, n_row, .inl a_row))] sz)) 0 0 (va_A [(q_row, .inl (cA, n_row, .inl a_row))] sz) := by
  unfold f_S_shiftDown at hf
  refine k_ent (Qc := fun A => c_Qv (dC, dI) vwCl [(cA, .int)] [(q_row, .inl (cA, n_row, .inl o))] A) (by decide) rfl (Nat.le_of_ble_eq_true rfl) ?_
  intro p e s m below meth c A hx hb hr hown hts hml hlocks hin hsz hA hK H locs hP hD hS ls hl
  have hown : s.vm.findClass RX1 = some m.cls := hown
  have hl : lv_has ls 9 [(0, .ref q_row), (1, .int size), (2, .int byLimbs), (3, .int byBits)] := hl
  refine lv_iconst (v := 0) hx hb dX1_shiftDown_0 (by decide) ?_
  refine lv_istore (lv' := [(4, .int 0), (0, .ref q_row), (1, .int size), (2, .int byLimbs), (3, .int byBits)]) hx hb dX1_shiftDown_1 hl (by decide) rfl (fun ls hl => ?_)
  obtain ⟨x34, g35, hf⟩ := og_b hf
  refine w_S_shiftDown_L3 hx hb hown hts hml hA hK k q_row size byLimbs byBits n_row k (0 : Int32) a_row _ g35 _ _ (hP.sub [0] rfl) (hD.sub [0] (by decide) rfl) hS _ (lv_sub hl [1, 2, 3, 4, 0] rfl) ?_
  intro H locs hP hD hS ls hl
  have e9 := Option.some.inj hf
  subst e9
  exact kr_v hx hb hr hlocks hK hS (hP.sub [0] rfl) (hD.sub [0] (by decide) rfl) dX1_shiftDown_80
def rm_S_inverseOf : Room := { frames := 0, cells := 0, slots := 0, locals := 0 }
set_option maxHeartbeats 4000000 in
set_option maxRecDepth 100000 in
theorem w_S_inverseOf_L4 {p : Program} {l : Launch} {e : Env} {s : State} {m : MethodId} {args : Array Value} {below : List Frame} {meth : Method} {c : Code} {Q : State → Prop} {A : Nat → Prop} {H0 : Heap} {dC : Nat → ClassId} {dI : Nat → Nat → Nat} {cA : ClassId} (hx : p.tables.exec = Jvm.exec) (hb : c.code = cX1_inverseOf) (hown : s.vm.findClass RX1 = some m.cls) (hts : ∀ w ∈ wsX1_inverseOf, w.before args s = true) (hml : c.maxLocals = 3) (hA : ∀ q, H0.size ≤ q → A q) (hK : va_K (dC, dI) vwCl [(cA, .int)] s) (k : Nat) (v0 : Int32) : ∀ (j : Nat) (v1 : Int32) (v2 : Int32) (o : Int32 × Int32), f_S_inverseOf_L4 k v0 j v1 v2 = some o → ∀ (H : Heap) (locs : List Loc), va_P (dC, dI) vwCl [] H → va_D A [] → va_S A H0 H locs → ∀ ls : Array Slot, lv_has ls 3 [(0, .int v0), (1, .int v1), (2, .int v2)] → ∀ (he : ∀ (H : Heap) (locs : List Loc), va_P (dC, dI) vwCl [] H → va_D A [] → va_S A H0 H locs → ∀ ls : Array Slot, lv_has ls 3 [(1, .int o.1)] → W p l e rm_S_inverseOf s m args below meth c H locs 0 0 Q (F0 m 23 ls [])), W p l e rm_S_inverseOf s m args below meth c H locs 0 0 Q (F0 m 4 ls []) := by
  intro j
  induction j with
  | zero =>
    intro v1 v2 o hf
    rw [f_S_inverseOf_L4] at hf
    cases hf
  | succ j ih =>
    intro v1 v2 o hf H locs hP hD hS ls hl he
    rw [f_S_inverseOf_L4] at hf
    refine lv_iload_n hx hb dX1_inverseOf_4 rfl (lv_at hl 2 rfl) ?_
    refine lv_iconst (v := 4) hx hb dX1_inverseOf_5 (by decide) ?_
    refine lv_icmp_ge (tgt := 23) hx hb dX1_inverseOf_6 (by decide) (fun c3 => ?_) (fun c3 => ?_)
    · have hf := og_t c3 hf
      have e9 := Option.some.inj hf
      subst e9
      exact he _ _ (hP.sub [] rfl) (hD.sub [] (by decide) rfl) hS _ (lv_sub hl [1] rfl)
    · have hf := og_f c3 hf
      refine lv_iload_n hx hb dX1_inverseOf_9 rfl (lv_at hl 1 rfl) ?_
      refine lv_iconst (v := 2) hx hb dX1_inverseOf_10 (by decide) ?_
      refine lv_iload_n hx hb dX1_inverseOf_11 rfl (lv_at hl 0 rfl) ?_
      refine lv_iload_n hx hb dX1_inverseOf_12 rfl (lv_at hl 1 rfl) ?_
      refine lv_imul hx hb dX1_inverseOf_13 ?_
      refine lv_isub hx hb dX1_inverseOf_14 ?_
      refine lv_imul hx hb dX1_inverseOf_15 ?_
      refine lv_istore_n (lv' := [(1, .int (v1 * (2 - (v0 * v1)))), (0, .int v0), (2, .int v2)]) hx hb dX1_inverseOf_16 rfl hl (by decide) rfl (fun ls hl => ?_)
      refine lv_iinc (v := v2 + 1) (lv' := [(2, .int (v2 + 1)), (1, .int (v1 * (2 - (v0 * v1)))), (0, .int v0)]) hx hb dX1_inverseOf_17 hl (k := 2) rfl rfl (by decide) rfl (fun ls hl => ?_)
      refine lv_goto (tgt := 4) hx hb dX1_inverseOf_20 (by decide) ?_
      exact ih (v1 * (2 - (v0 * v1))) (v2 + 1) _ hf _ _ (hP.sub [] rfl) (hD.sub [] (by decide) rfl) hS _ (lv_sub hl [2, 1, 0] rfl) he
set_option maxHeartbeats 4000000 in
set_option maxRecDepth 100000 in
theorem c_S_inverseOf (l : Launch) (dC : Nat → ClassId) (dI : Nat → Nat → Nat) (cA : ClassId) (sz : Nat) (k : Nat) (word : Int32) (o : Int32) (hf : f_S_inverseOf k word = some o) : Met l yX1_inverseOf wsX1_inverseOf rm_S_inverseOf (c_Pre (dC, dI) vwCl [(cA, .int)] [] sz [.int word]) (c_Qi (dC, dI) vwCl [(cA, .int)] [] (va_A [] sz) o) 0 0 (va_A [] sz) := by
  unfold f_S_inverseOf at hf
  refine k_ent (Qc := fun A => c_Qi (dC, dI) vwCl [(cA, .int)] [] A o) (by decide) rfl (Nat.le_of_ble_eq_true rfl) ?_
  intro p e s m below meth c A hx hb hr hown hts hml hlocks hin hsz hA hK H locs hP hD hS ls hl
  have hown : s.vm.findClass RX1 = some m.cls := hown
  have hl : lv_has ls 3 [(0, .int word)] := hl
  refine lv_iload_n hx hb dX1_inverseOf_0 rfl (lv_at hl 0 rfl) ?_
  refine lv_istore_n (lv' := [(1, .int word), (0, .int word)]) hx hb dX1_inverseOf_1 rfl hl (by decide) rfl (fun ls hl => ?_)
  refine lv_iconst (v := 0) hx hb dX1_inverseOf_2 (by decide) ?_
  refine lv_istore_n (lv' := [(2, .int 0), (1, .int word), (0, .int word)]) hx hb dX1_inverseOf_3 rfl hl (by decide) rfl (fun ls hl => ?_)
  obtain ⟨x4, g5, hf⟩ := og_b hf
  refine w_S_inverseOf_L4 hx hb hown hts hml hA hK k word k word (0 : Int32) _ g5 _ _ (hP.sub [] rfl) (hD.sub [] (by decide) rfl) hS _ (lv_sub hl [2, 1, 0] rfl) ?_
  intro H locs hP hD hS ls hl
  refine lv_iload_n hx hb dX1_inverseOf_23 rfl (lv_at hl 1 rfl) ?_
  have e9 := Option.some.inj hf
  subst e9
  exact kr_i hx hb hr hlocks hK hS (hP.sub [] rfl) (hD.sub [] (by decide) rfl) dX1_inverseOf_24
def rm_S_takeMultiple : Room := { frames := 0, cells := 0, slots := 0, locals := 0 }
theorem kw_S_takeMultiple_0 : (.fieldLink RX1 15 "MinorSteps$Sum" "plus" "[I" : Cond) ∈ wsX1_takeMultiple := by decide +kernel
theorem kw_S_takeMultiple_1 : (.constantLong RX1 54 2147483647 : Cond) ∈ wsX1_takeMultiple := by decide +kernel
theorem kw_S_takeMultiple_2 : (.fieldLink RX1 22 "MinorSteps$Sum" "divisor" "[I" : Cond) ∈ wsX1_takeMultiple := by decide +kernel
theorem ki_S_takeMultiple_X1 : ∀ w ∈ u_ws RX1 TX1 6, w ∈ wsX1_takeMultiple := by decide +kernel
set_option maxHeartbeats 4000000 in
set_option maxRecDepth 100000 in
theorem w_S_takeMultiple_L6 {p : Program} {l : Launch} {e : Env} {s : State} {m : MethodId} {args : Array Value} {below : List Frame} {meth : Method} {c : Code} {Q : State → Prop} {A : Nat → Prop} {H0 : Heap} {dC : Nat → ClassId} {dI : Nat → Nat → Nat} {cA : ClassId} (hx : p.tables.exec = Jvm.exec) (hb : c.code = cX1_takeMultiple) (hown : s.vm.findClass RX1 = some m.cls) (hts : ∀ w ∈ wsX1_takeMultiple, w.before args s = true) (hml : c.maxLocals = 9) (hA : ∀ q, H0.size ≤ q → A q) (hK : va_K (dC, dI) vwCl [(cA, .int)] s) (k : Nat) (q_t : Nat) (q_t_plus : Nat) (q_t_minus : Nat) (q_t_divisor : Nat) (v1 : Int32) (v2 : Int32) (v3 : Int32) (v4 : Int64) (i0_t : Int32) (i4_t : Int32) (i5_t : Int32) (n_t_plus : Nat) (n_t_minus : Nat) (a_t_minus : Nat → Int32) (n_t_divisor : Nat) (a_t_divisor : Nat → Int32) : ∀ (j : Nat) (v6 : Int64) (v8 : Int32) (a_t_plus : Nat → Int32) (o : Int64 × Int32 × (Nat → Int32)), f_S_takeMultiple_L6 k v1 v2 v3 v4 n_t_plus n_t_divisor a_t_divisor j v6 v8 a_t_plus = some o → ∀ (H : Heap) (locs : List Loc), va_P (dC, dI) vwCl [(q_t, .inr (1, [.int i0_t, .ref q_t_plus, .ref q_t_minus, .ref q_t_divisor, .int i4_t, .int i5_t])), (q_t_plus, .inl (cA, n_t_plus, .inl a_t_plus)), (q_t_minus, .inl (cA, n_t_minus, .inl a_t_minus)), (q_t_divisor, .inl (cA, n_t_divisor, .inl a_t_divisor))] H → va_D A [(q_t, .inr (1, [.int i0_t, .ref q_t_plus, .ref q_t_minus, .ref q_t_divisor, .int i4_t, .int i5_t])), (q_t_plus, .inl (cA, n_t_plus, .inl a_t_plus)), (q_t_minus, .inl (cA, n_t_minus, .inl a_t_minus)), (q_t_divisor, .inl (cA, n_t_divisor, .inl a_t_divisor))] → va_S A H0 H locs → ∀ ls : Array Slot, lv_has ls 9 [(0, .ref q_t), (1, .int v1), (2, .int v2), (3, .int v3), (4, .long v4), (6, .long v6), (8, .int v8)] → ∀ (he : ∀ (H : Heap) (locs : List Loc), va_P (dC, dI) vwCl [(q_t, .inr (1, [.int i0_t, .ref q_t_plus, .ref q_t_minus, .ref q_t_divisor, .int i4_t, .int i5_t])), (q_t_plus, .inl (cA, n_t_plus, .inl o.2.2)), (q_t_minus, .inl (cA, n_t_minus, .inl a_t_minus)), (q_t_divisor, .inl (cA, n_t_divisor, .inl a_t_divisor))] H → va_D A [(q_t, .inr (1, [.int i0_t, .ref q_t_plus, .ref q_t_minus, .ref q_t_divisor, .int i4_t, .int i5_t])), (q_t_plus, .inl (cA, n_t_plus, .inl o.2.2)), (q_t_minus, .inl (cA, n_t_minus, .inl a_t_minus)), (q_t_divisor, .inl (cA, n_t_divisor, .inl a_t_divisor))] → va_S A H0 H locs → ∀ ls : Array Slot, lv_has ls 9 [] → W p l e rm_S_takeMultiple s m args below meth c H locs 0 0 Q (F0 m 93 ls [])), W p l e rm_S_takeMultiple s m args below meth c H locs 0 0 Q (F0 m 6 ls []) := by
  intro j
  induction j with
  | zero =>
    intro v6 v8 a_t_plus o hf
    rw [f_S_takeMultiple_L6] at hf
    cases hf
  | succ j ih =>
    intro v6 v8 a_t_plus o hf H locs hP hD hS ls hl he
    rw [f_S_takeMultiple_L6] at hf
    refine lv_iload hx hb dX1_takeMultiple_6 (lv_at hl 6 rfl) ?_
    refine lv_iload_n hx hb dX1_takeMultiple_8 rfl (lv_at hl 2 rfl) ?_
    refine lv_icmp_ge (tgt := 93) hx hb dX1_takeMultiple_9 (by decide) (fun c27 => ?_) (fun c27 => ?_)
    · have hf := og_t c27 hf
      have e9 := Option.some.inj hf
      subst e9
      exact he _ _ (hP.sub [0, 1, 2, 3] rfl) (hD.sub [0, 1, 2, 3] (by decide) rfl) hS _ (lv_sub hl [] rfl)
    · have hf := og_f c27 hf
      refine lv_iload hx hb dX1_takeMultiple_12 (lv_at hl 6 rfl) ?_
      refine lv_iload_n hx hb dX1_takeMultiple_14 rfl (lv_at hl 1 rfl) ?_
      refine lv_isub hx hb dX1_takeMultiple_15 ?_
      refine lv_iload_n hx hb dX1_takeMultiple_16 rfl (lv_at hl 3 rfl) ?_
      refine lv_icmp_lt (tgt := 27) hx hb dX1_takeMultiple_17 (by decide) (fun c28 => ?_) (fun c28 => ?_)
      · have hf := og_t c28 hf
        refine lv_lload hx hb dX1_takeMultiple_27 (lv_at hl 5 rfl) ?_
        refine lv_aload_n hx hb dX1_takeMultiple_29 rfl (lv_at hl 0 rfl) ?_
        refine va_get (D := (dC, dI)) (ci := 1) (v := .ref q_t_plus) (C := RX1) (T := TX1) (N := 6) hx hb hts ki_S_takeMultiple_X1 hown hK hP 0 rfl rfl 1 (by decide) (hts (.fieldLink RX1 15 "MinorSteps$Sum" "plus" "[I") kw_S_takeMultiple_0) (fun _ h9 => h9) rfl dX1_takeMultiple_30 ?_
        refine lv_iload hx hb dX1_takeMultiple_33 (lv_at hl 6 rfl) ?_
        obtain ⟨g29, hf⟩ := og_c hf
        refine va_iald hx hb hK hP 1 0 rfl rfl (og_in g29) dX1_takeMultiple_35 ?_
        refine lv_i2l (v := (a_t_plus v8.toNatClampNeg).toInt64) hx hb dX1_takeMultiple_36 rfl ?_
        refine lv_ladd hx hb dX1_takeMultiple_37 ?_
        refine lv_lstore (lv' := [(6, .long (v6 + ((a_t_plus v8.toNatClampNeg).toInt64))), (0, .ref q_t), (1, .int v1), (2, .int v2), (3, .int v3), (4, .long v4), (8, .int v8)]) hx hb dX1_takeMultiple_38 hl (by decide) rfl (fun ls hl => ?_)
        refine lv_iload hx hb dX1_takeMultiple_40 (lv_at hl 6 rfl) ?_
        refine lv_iload_n hx hb dX1_takeMultiple_42 rfl (lv_at hl 2 rfl) ?_
        refine lv_isub hx hb dX1_takeMultiple_43 ?_
        refine lv_iload_n hx hb dX1_takeMultiple_44 rfl (lv_at hl 4 rfl) ?_
        refine lv_icmp_ge (tgt := 66) hx hb dX1_takeMultiple_45 (by decide) (fun c30 => ?_) (fun c30 => ?_)
        · have hf := og_t c30 hf
          refine lv_aload_n hx hb dX1_takeMultiple_66 rfl (lv_at hl 1 rfl) ?_
          refine va_get (D := (dC, dI)) (ci := 1) (v := .ref q_t_plus) (C := RX1) (T := TX1) (N := 6) hx hb hts ki_S_takeMultiple_X1 hown hK hP 0 rfl rfl 1 (by decide) (hts (.fieldLink RX1 15 "MinorSteps$Sum" "plus" "[I") kw_S_takeMultiple_0) (fun _ h9 => h9) rfl dX1_takeMultiple_67 ?_
          refine lv_iload hx hb dX1_takeMultiple_70 (lv_at hl 6 rfl) ?_
          refine lv_lload hx hb dX1_takeMultiple_72 (lv_at hl 0 rfl) ?_
          refine lv_ldc2 (v := 2147483647) hx hb hown (hts (.constantLong RX1 54 2147483647) kw_S_takeMultiple_1) dX1_takeMultiple_74 ?_
          refine lv_land hx hb dX1_takeMultiple_77 ?_
          refine lv_l2i (v := ((v6 + ((a_t_plus v8.toNatClampNeg).toInt64)) &&& 2147483647).toInt32) hx hb dX1_takeMultiple_78 rfl ?_
          obtain ⟨g31, hf⟩ := og_c hf
          refine va_iast hx hb hK hP hD hS 1 0 rfl rfl (og_in g31) dX1_takeMultiple_79 (fun H locs hP hD hS => ?_)
          have hP : va_P (dC, dI) vwCl [(q_t, .inr (1, [.int i0_t, .ref q_t_plus, .ref q_t_minus, .ref q_t_divisor, .int i4_t, .int i5_t])), (q_t_plus, .inl (cA, n_t_plus, .inl (upd a_t_plus v8.toNatClampNeg (((v6 + ((a_t_plus v8.toNatClampNeg).toInt64)) &&& 2147483647).toInt32)))), (q_t_minus, .inl (cA, n_t_minus, .inl a_t_minus)), (q_t_divisor, .inl (cA, n_t_divisor, .inl a_t_divisor))] H := hP
          have hD : va_D A [(q_t, .inr (1, [.int i0_t, .ref q_t_plus, .ref q_t_minus, .ref q_t_divisor, .int i4_t, .int i5_t])), (q_t_plus, .inl (cA, n_t_plus, .inl (upd a_t_plus v8.toNatClampNeg (((v6 + ((a_t_plus v8.toNatClampNeg).toInt64)) &&& 2147483647).toInt32)))), (q_t_minus, .inl (cA, n_t_minus, .inl a_t_minus)), (q_t_divisor, .inl (cA, n_t_divisor, .inl a_t_divisor))] := hD
          refine lv_lload hx hb dX1_takeMultiple_80 (lv_at hl 0 rfl) ?_
          refine lv_bipush (v := 31) hx hb dX1_takeMultiple_82 (by decide) ?_
          refine lv_lshr (v := (v6 + ((a_t_plus v8.toNatClampNeg).toInt64)) >>> ((31 : Int32).toInt64 &&& 63)) hx hb dX1_takeMultiple_84 rfl ?_
          refine lv_lstore (lv' := [(6, .long ((v6 + ((a_t_plus v8.toNatClampNeg).toInt64)) >>> ((31 : Int32).toInt64 &&& 63))), (0, .ref q_t), (1, .int v1), (2, .int v2), (3, .int v3), (4, .long v4), (8, .int v8)]) hx hb dX1_takeMultiple_85 hl (by decide) rfl (fun ls hl => ?_)
          refine lv_iinc (v := v8 + 1) (lv' := [(8, .int (v8 + 1)), (6, .long ((v6 + ((a_t_plus v8.toNatClampNeg).toInt64)) >>> ((31 : Int32).toInt64 &&& 63))), (0, .ref q_t), (1, .int v1), (2, .int v2), (3, .int v3), (4, .long v4)]) hx hb dX1_takeMultiple_87 hl (k := 6) rfl rfl (by decide) rfl (fun ls hl => ?_)
          refine lv_goto (tgt := 6) hx hb dX1_takeMultiple_90 (by decide) ?_
          exact ih ((v6 + ((a_t_plus v8.toNatClampNeg).toInt64)) >>> ((31 : Int32).toInt64 &&& 63)) (v8 + 1) (upd a_t_plus v8.toNatClampNeg (((v6 + ((a_t_plus v8.toNatClampNeg).toInt64)) &&& 2147483647).toInt32)) _ hf _ _ (hP.sub [0, 1, 2, 3] rfl) (hD.sub [0, 1, 2, 3] (by decide) rfl) hS _ (lv_sub hl [2, 3, 4, 5, 6, 1, 0] rfl) he
        · have hf := og_f c30 hf
          refine lv_lload hx hb dX1_takeMultiple_48 (lv_at hl 0 rfl) ?_
          refine lv_lload hx hb dX1_takeMultiple_50 (lv_at hl 5 rfl) ?_
          refine lv_aload_n hx hb dX1_takeMultiple_52 rfl (lv_at hl 1 rfl) ?_
          refine va_get (D := (dC, dI)) (ci := 1) (v := .ref q_t_divisor) (C := RX1) (T := TX1) (N := 6) hx hb hts ki_S_takeMultiple_X1 hown hK hP 0 rfl rfl 3 (by decide) (hts (.fieldLink RX1 22 "MinorSteps$Sum" "divisor" "[I") kw_S_takeMultiple_2) (fun _ h9 => h9) rfl dX1_takeMultiple_53 ?_
          refine lv_iload hx hb dX1_takeMultiple_56 (lv_at hl 6 rfl) ?_
          refine lv_iload_n hx hb dX1_takeMultiple_58 rfl (lv_at hl 2 rfl) ?_
          refine lv_isub hx hb dX1_takeMultiple_59 ?_
          obtain ⟨g32, hf⟩ := og_c hf
          refine va_iald hx hb hK hP 3 0 rfl rfl (og_in g32) dX1_takeMultiple_60 ?_
          refine lv_i2l (v := (a_t_divisor (v8 - v1).toNatClampNeg).toInt64) hx hb dX1_takeMultiple_61 rfl ?_
          refine lv_lmul hx hb dX1_takeMultiple_62 ?_
          refine lv_lsub hx hb dX1_takeMultiple_63 ?_
          refine lv_lstore (lv' := [(6, .long ((v6 + ((a_t_plus v8.toNatClampNeg).toInt64)) - (v4 * ((a_t_divisor (v8 - v1).toNatClampNeg).toInt64)))), (0, .ref q_t), (1, .int v1), (2, .int v2), (3, .int v3), (4, .long v4), (8, .int v8)]) hx hb dX1_takeMultiple_64 hl (by decide) rfl (fun ls hl => ?_)
          refine lv_aload_n hx hb dX1_takeMultiple_66 rfl (lv_at hl 1 rfl) ?_
          refine va_get (D := (dC, dI)) (ci := 1) (v := .ref q_t_plus) (C := RX1) (T := TX1) (N := 6) hx hb hts ki_S_takeMultiple_X1 hown hK hP 0 rfl rfl 1 (by decide) (hts (.fieldLink RX1 15 "MinorSteps$Sum" "plus" "[I") kw_S_takeMultiple_0) (fun _ h9 => h9) rfl dX1_takeMultiple_67 ?_
          refine lv_iload hx hb dX1_takeMultiple_70 (lv_at hl 6 rfl) ?_
          refine lv_lload hx hb dX1_takeMultiple_72 (lv_at hl 0 rfl) ?_
          refine lv_ldc2 (v := 2147483647) hx hb hown (hts (.constantLong RX1 54 2147483647) kw_S_takeMultiple_1) dX1_takeMultiple_74 ?_
          refine lv_land hx hb dX1_takeMultiple_77 ?_
          refine lv_l2i (v := (((v6 + ((a_t_plus v8.toNatClampNeg).toInt64)) - (v4 * ((a_t_divisor (v8 - v1).toNatClampNeg).toInt64))) &&& 2147483647).toInt32) hx hb dX1_takeMultiple_78 rfl ?_
          obtain ⟨g33, hf⟩ := og_c hf
          refine va_iast hx hb hK hP hD hS 1 0 rfl rfl (og_in g33) dX1_takeMultiple_79 (fun H locs hP hD hS => ?_)
          have hP : va_P (dC, dI) vwCl [(q_t, .inr (1, [.int i0_t, .ref q_t_plus, .ref q_t_minus, .ref q_t_divisor, .int i4_t, .int i5_t])), (q_t_plus, .inl (cA, n_t_plus, .inl (upd a_t_plus v8.toNatClampNeg ((((v6 + ((a_t_plus v8.toNatClampNeg).toInt64)) - (v4 * ((a_t_divisor (v8 - v1).toNatClampNeg).toInt64))) &&& 2147483647).toInt32)))), (q_t_minus, .inl (cA, n_t_minus, .inl a_t_minus)), (q_t_divisor, .inl (cA, n_t_divisor, .inl a_t_divisor))] H := hP
          have hD : va_D A [(q_t, .inr (1, [.int i0_t, .ref q_t_plus, .ref q_t_minus, .ref q_t_divisor, .int i4_t, .int i5_t])), (q_t_plus, .inl (cA, n_t_plus, .inl (upd a_t_plus v8.toNatClampNeg ((((v6 + ((a_t_plus v8.toNatClampNeg).toInt64)) - (v4 * ((a_t_divisor (v8 - v1).toNatClampNeg).toInt64))) &&& 2147483647).toInt32)))), (q_t_minus, .inl (cA, n_t_minus, .inl a_t_minus)), (q_t_divisor, .inl (cA, n_t_divisor, .inl a_t_divisor))] := hD
          refine lv_lload hx hb dX1_takeMultiple_80 (lv_at hl 0 rfl) ?_
          refine lv_bipush (v := 31) hx hb dX1_takeMultiple_82 (by decide) ?_
          refine lv_lshr (v := ((v6 + ((a_t_plus v8.toNatClampNeg).toInt64)) - (v4 * ((a_t_divisor (v8 - v1).toNatClampNeg).toInt64))) >>> ((31 : Int32).toInt64 &&& 63)) hx hb dX1_takeMultiple_84 rfl ?_
          refine lv_lstore (lv' := [(6, .long (((v6 + ((a_t_plus v8.toNatClampNeg).toInt64)) - (v4 * ((a_t_divisor (v8 - v1).toNatClampNeg).toInt64))) >>> ((31 : Int32).toInt64 &&& 63))), (0, .ref q_t), (1, .int v1), (2, .int v2), (3, .int v3), (4, .long v4), (8, .int v8)]) hx hb dX1_takeMultiple_85 hl (by decide) rfl (fun ls hl => ?_)
          refine lv_iinc (v := v8 + 1) (lv' := [(8, .int (v8 + 1)), (6, .long (((v6 + ((a_t_plus v8.toNatClampNeg).toInt64)) - (v4 * ((a_t_divisor (v8 - v1).toNatClampNeg).toInt64))) >>> ((31 : Int32).toInt64 &&& 63))), (0, .ref q_t), (1, .int v1), (2, .int v2), (3, .int v3), (4, .long v4)]) hx hb dX1_takeMultiple_87 hl (k := 6) rfl rfl (by decide) rfl (fun ls hl => ?_)
          refine lv_goto (tgt := 6) hx hb dX1_takeMultiple_90 (by decide) ?_
          exact ih (((v6 + ((a_t_plus v8.toNatClampNeg).toInt64)) - (v4 * ((a_t_divisor (v8 - v1).toNatClampNeg).toInt64))) >>> ((31 : Int32).toInt64 &&& 63)) (v8 + 1) (upd a_t_plus v8.toNatClampNeg ((((v6 + ((a_t_plus v8.toNatClampNeg).toInt64)) - (v4 * ((a_t_divisor (v8 - v1).toNatClampNeg).toInt64))) &&& 2147483647).toInt32)) _ hf _ _ (hP.sub [0, 1, 2, 3] rfl) (hD.sub [0, 1, 2, 3] (by decide) rfl) hS _ (lv_sub hl [2, 3, 4, 5, 6, 1, 0] rfl) he
      · have hf := og_f c28 hf
        refine lv_lload hx hb dX1_takeMultiple_20 (lv_at hl 5 rfl) ?_
        refine lv_lconst (v := 0) hx hb dX1_takeMultiple_22 (by decide) ?_
        refine W.lcmp hx hb dX1_takeMultiple_23 ?_
        refine lv_if_eq (tgt := 93) hx hb dX1_takeMultiple_24 (by decide) (fun c34 => ?_) (fun c34 => ?_)
        · have hf := og_t c34 hf
          have e9 := Option.some.inj hf
          subst e9
          exact he _ _ (hP.sub [0, 1, 2, 3] rfl) (hD.sub [0, 1, 2, 3] (by decide) rfl) hS _ (lv_sub hl [] rfl)
        · have hf := og_f c34 hf
          refine lv_lload hx hb dX1_takeMultiple_27 (lv_at hl 5 rfl) ?_
          refine lv_aload_n hx hb dX1_takeMultiple_29 rfl (lv_at hl 0 rfl) ?_
          refine va_get (D := (dC, dI)) (ci := 1) (v := .ref q_t_plus) (C := RX1) (T := TX1) (N := 6) hx hb hts ki_S_takeMultiple_X1 hown hK hP 0 rfl rfl 1 (by decide) (hts (.fieldLink RX1 15 "MinorSteps$Sum" "plus" "[I") kw_S_takeMultiple_0) (fun _ h9 => h9) rfl dX1_takeMultiple_30 ?_
          refine lv_iload hx hb dX1_takeMultiple_33 (lv_at hl 6 rfl) ?_
          obtain ⟨g35, hf⟩ := og_c hf
          refine va_iald hx hb hK hP 1 0 rfl rfl (og_in g35) dX1_takeMultiple_35 ?_
          refine lv_i2l (v := (a_t_plus v8.toNatClampNeg).toInt64) hx hb dX1_takeMultiple_36 rfl ?_
          refine lv_ladd hx hb dX1_takeMultiple_37 ?_
          refine lv_lstore (lv' := [(6, .long (v6 + ((a_t_plus v8.toNatClampNeg).toInt64))), (0, .ref q_t), (1, .int v1), (2, .int v2), (3, .int v3), (4, .long v4), (8, .int v8)]) hx hb dX1_takeMultiple_38 hl (by decide) rfl (fun ls hl => ?_)
          refine lv_iload hx hb dX1_takeMultiple_40 (lv_at hl 6 rfl) ?_
          refine lv_iload_n hx hb dX1_takeMultiple_42 rfl (lv_at hl 2 rfl) ?_
          refine lv_isub hx hb dX1_takeMultiple_43 ?_
          refine lv_iload_n hx hb dX1_takeMultiple_44 rfl (lv_at hl 4 rfl) ?_
          refine lv_icmp_ge (tgt := 66) hx hb dX1_takeMultiple_45 (by decide) (fun c36 => ?_) (fun c36 => ?_)
          · have hf := og_t c36 hf
            refine lv_aload_n hx hb dX1_takeMultiple_66 rfl (lv_at hl 1 rfl) ?_
            refine va_get (D := (dC, dI)) (ci := 1) (v := .ref q_t_plus) (C := RX1) (T := TX1) (N := 6) hx hb hts ki_S_takeMultiple_X1 hown hK hP 0 rfl rfl 1 (by decide) (hts (.fieldLink RX1 15 "MinorSteps$Sum" "plus" "[I") kw_S_takeMultiple_0) (fun _ h9 => h9) rfl dX1_takeMultiple_67 ?_
            refine lv_iload hx hb dX1_takeMultiple_70 (lv_at hl 6 rfl) ?_
            refine lv_lload hx hb dX1_takeMultiple_72 (lv_at hl 0 rfl) ?_
            refine lv_ldc2 (v := 2147483647) hx hb hown (hts (.constantLong RX1 54 2147483647) kw_S_takeMultiple_1) dX1_takeMultiple_74 ?_
            refine lv_land hx hb dX1_takeMultiple_77 ?_
            refine lv_l2i (v := ((v6 + ((a_t_plus v8.toNatClampNeg).toInt64)) &&& 2147483647).toInt32) hx hb dX1_takeMultiple_78 rfl ?_
            obtain ⟨g37, hf⟩ := og_c hf
            refine va_iast hx hb hK hP hD hS 1 0 rfl rfl (og_in g37) dX1_takeMultiple_79 (fun H locs hP hD hS => ?_)
            have hP : va_P (dC, dI) vwCl [(q_t, .inr (1, [.int i0_t, .ref q_t_plus, .ref q_t_minus, .ref q_t_divisor, .int i4_t, .int i5_t])), (q_t_plus, .inl (cA, n_t_plus, .inl (upd a_t_plus v8.toNatClampNeg (((v6 + ((a_t_plus v8.toNatClampNeg).toInt64)) &&& 2147483647).toInt32)))), (q_t_minus, .inl (cA, n_t_minus, .inl a_t_minus)), (q_t_divisor, .inl (cA, n_t_divisor, .inl a_t_divisor))] H := hP
            have hD : va_D A [(q_t, .inr (1, [.int i0_t, .ref q_t_plus, .ref q_t_minus, .ref q_t_divisor, .int i4_t, .int i5_t])), (q_t_plus, .inl (cA, n_t_plus, .inl (upd a_t_plus v8.toNatClampNeg (((v6 + ((a_t_plus v8.toNatClampNeg).toInt64)) &&& 2147483647).toInt32)))), (q_t_minus, .inl (cA, n_t_minus, .inl a_t_minus)), (q_t_divisor, .inl (cA, n_t_divisor, .inl a_t_divisor))] := hD
            refine lv_lload hx hb dX1_takeMultiple_80 (lv_at hl 0 rfl) ?_
            refine lv_bipush (v := 31) hx hb dX1_takeMultiple_82 (by decide) ?_
            refine lv_lshr (v := (v6 + ((a_t_plus v8.toNatClampNeg).toInt64)) >>> ((31 : Int32).toInt64 &&& 63)) hx hb dX1_takeMultiple_84 rfl ?_
            refine lv_lstore (lv' := [(6, .long ((v6 + ((a_t_plus v8.toNatClampNeg).toInt64)) >>> ((31 : Int32).toInt64 &&& 63))), (0, .ref q_t), (1, .int v1), (2, .int v2), (3, .int v3), (4, .long v4), (8, .int v8)]) hx hb dX1_takeMultiple_85 hl (by decide) rfl (fun ls hl => ?_)
            refine lv_iinc (v := v8 + 1) (lv' := [(8, .int (v8 + 1)), (6, .long ((v6 + ((a_t_plus v8.toNatClampNeg).toInt64)) >>> ((31 : Int32).toInt64 &&& 63))), (0, .ref q_t), (1, .int v1), (2, .int v2), (3, .int v3), (4, .long v4)]) hx hb dX1_takeMultiple_87 hl (k := 6) rfl rfl (by decide) rfl (fun ls hl => ?_)
            refine lv_goto (tgt := 6) hx hb dX1_takeMultiple_90 (by decide) ?_
            exact ih ((v6 + ((a_t_plus v8.toNatClampNeg).toInt64)) >>> ((31 : Int32).toInt64 &&& 63)) (v8 + 1) (upd a_t_plus v8.toNatClampNeg (((v6 + ((a_t_plus v8.toNatClampNeg).toInt64)) &&& 2147483647).toInt32)) _ hf _ _ (hP.sub [0, 1, 2, 3] rfl) (hD.sub [0, 1, 2, 3] (by decide) rfl) hS _ (lv_sub hl [2, 3, 4, 5, 6, 1, 0] rfl) he
          · have hf := og_f c36 hf
            refine lv_lload hx hb dX1_takeMultiple_48 (lv_at hl 0 rfl) ?_
            refine lv_lload hx hb dX1_takeMultiple_50 (lv_at hl 5 rfl) ?_
            refine lv_aload_n hx hb dX1_takeMultiple_52 rfl (lv_at hl 1 rfl) ?_
            refine va_get (D := (dC, dI)) (ci := 1) (v := .ref q_t_divisor) (C := RX1) (T := TX1) (N := 6) hx hb hts ki_S_takeMultiple_X1 hown hK hP 0 rfl rfl 3 (by decide) (hts (.fieldLink RX1 22 "MinorSteps$Sum" "divisor" "[I") kw_S_takeMultiple_2) (fun _ h9 => h9) rfl dX1_takeMultiple_53 ?_
            refine lv_iload hx hb dX1_takeMultiple_56 (lv_at hl 6 rfl) ?_
            refine lv_iload_n hx hb dX1_takeMultiple_58 rfl (lv_at hl 2 rfl) ?_
            refine lv_isub hx hb dX1_takeMultiple_59 ?_
            obtain ⟨g38, hf⟩ := og_c hf
            refine va_iald hx hb hK hP 3 0 rfl rfl (og_in g38) dX1_takeMultiple_60 ?_
            refine lv_i2l (v := (a_t_divisor (v8 - v1).toNatClampNeg).toInt64) hx hb dX1_takeMultiple_61 rfl ?_
            refine lv_lmul hx hb dX1_takeMultiple_62 ?_
            refine lv_lsub hx hb dX1_takeMultiple_63 ?_
            refine lv_lstore (lv' := [(6, .long ((v6 + ((a_t_plus v8.toNatClampNeg).toInt64)) - (v4 * ((a_t_divisor (v8 - v1).toNatClampNeg).toInt64)))), (0, .ref q_t), (1, .int v1), (2, .int v2), (3, .int v3), (4, .long v4), (8, .int v8)]) hx hb dX1_takeMultiple_64 hl (by decide) rfl (fun ls hl => ?_)
            refine lv_aload_n hx hb dX1_takeMultiple_66 rfl (lv_at hl 1 rfl) ?_
            refine va_get (D := (dC, dI)) (ci := 1) (v := .ref q_t_plus) (C := RX1) (T := TX1) (N := 6) hx hb hts ki_S_takeMultiple_X1 hown hK hP 0 rfl rfl 1 (by decide) (hts (.fieldLink RX1 15 "MinorSteps$Sum" "plus" "[I") kw_S_takeMultiple_0) (fun _ h9 => h9) rfl dX1_takeMultiple_67 ?_
            refine lv_iload hx hb dX1_takeMultiple_70 (lv_at hl 6 rfl) ?_
            refine lv_lload hx hb dX1_takeMultiple_72 (lv_at hl 0 rfl) ?_
            refine lv_ldc2 (v := 2147483647) hx hb hown (hts (.constantLong RX1 54 2147483647) kw_S_takeMultiple_1) dX1_takeMultiple_74 ?_
            refine lv_land hx hb dX1_takeMultiple_77 ?_
            refine lv_l2i (v := (((v6 + ((a_t_plus v8.toNatClampNeg).toInt64)) - (v4 * ((a_t_divisor (v8 - v1).toNatClampNeg).toInt64))) &&& 2147483647).toInt32) hx hb dX1_takeMultiple_78 rfl ?_
            obtain ⟨g39, hf⟩ := og_c hf
            refine va_iast hx hb hK hP hD hS 1 0 rfl rfl (og_in g39) dX1_takeMultiple_79 (fun H locs hP hD hS => ?_)
            have hP : va_P (dC, dI) vwCl [(q_t, .inr (1, [.int i0_t, .ref q_t_plus, .ref q_t_minus, .ref q_t_divisor, .int i4_t, .int i5_t])), (q_t_plus, .inl (cA, n_t_plus, .inl (upd a_t_plus v8.toNatClampNeg ((((v6 + ((a_t_plus v8.toNatClampNeg).toInt64)) - (v4 * ((a_t_divisor (v8 - v1).toNatClampNeg).toInt64))) &&& 2147483647).toInt32)))), (q_t_minus, .inl (cA, n_t_minus, .inl a_t_minus)), (q_t_divisor, .inl (cA, n_t_divisor, .inl a_t_divisor))] H := hP
            have hD : va_D A [(q_t, .inr (1, [.int i0_t, .ref q_t_plus, .ref q_t_minus, .ref q_t_divisor, .int i4_t, .int i5_t])), (q_t_plus, .inl (cA, n_t_plus, .inl (upd a_t_plus v8.toNatClampNeg ((((v6 + ((a_t_plus v8.toNatClampNeg).toInt64)) - (v4 * ((a_t_divisor (v8 - v1).toNatClampNeg).toInt64))) &&& 2147483647).toInt32)))), (q_t_minus, .inl (cA, n_t_minus, .inl a_t_minus)), (q_t_divisor, .inl (cA, n_t_divisor, .inl a_t_divisor))] := hD
            refine lv_lload hx hb dX1_takeMultiple_80 (lv_at hl 0 rfl) ?_
            refine lv_bipush (v := 31) hx hb dX1_takeMultiple_82 (by decide) ?_
            refine lv_lshr (v := ((v6 + ((a_t_plus v8.toNatClampNeg).toInt64)) - (v4 * ((a_t_divisor (v8 - v1).toNatClampNeg).toInt64))) >>> ((31 : Int32).toInt64 &&& 63)) hx hb dX1_takeMultiple_84 rfl ?_
            refine lv_lstore (lv' := [(6, .long (((v6 + ((a_t_plus v8.toNatClampNeg).toInt64)) - (v4 * ((a_t_divisor (v8 - v1).toNatClampNeg).toInt64))) >>> ((31 : Int32).toInt64 &&& 63))), (0, .ref q_t), (1, .int v1), (2, .int v2), (3, .int v3), (4, .long v4), (8, .int v8)]) hx hb dX1_takeMultiple_85 hl (by decide) rfl (fun ls hl => ?_)
            refine lv_iinc (v := v8 + 1) (lv' := [(8, .int (v8 + 1)), (6, .long (((v6 + ((a_t_plus v8.toNatClampNeg).toInt64)) - (v4 * ((a_t_divisor (v8 - v1).toNatClampNeg).toInt64))) >>> ((31 : Int32).toInt64 &&& 63))), (0, .ref q_t), (1, .int v1), (2, .int v2), (3, .int v3), (4, .long v4)]) hx hb dX1_takeMultiple_87 hl (k := 6) rfl rfl (by decide) rfl (fun ls hl => ?_)
            refine lv_goto (tgt := 6) hx hb dX1_takeMultiple_90 (by decide) ?_
            exact ih (((v6 + ((a_t_plus v8.toNatClampNeg).toInt64)) - (v4 * ((a_t_divisor (v8 - v1).toNatClampNeg).toInt64))) >>> ((31 : Int32).toInt64 &&& 63)) (v8 + 1) (upd a_t_plus v8.toNatClampNeg ((((v6 + ((a_t_plus v8.toNatClampNeg).toInt64)) - (v4 * ((a_t_divisor (v8 - v1).toNatClampNeg).toInt64))) &&& 2147483647).toInt32)) _ hf _ _ (hP.sub [0, 1, 2, 3] rfl) (hD.sub [0, 1, 2, 3] (by decide) rfl) hS _ (lv_sub hl [2, 3, 4, 5, 6, 1, 0] rfl) he
set_option maxHeartbeats 4000000 in
set_option maxRecDepth 100000 in
theorem c_S_takeMultiple (l : Launch) (dC : Nat → ClassId) (dI : Nat → Nat → Nat) (cA : ClassId) (sz : Nat) (q_t : Nat) (q_t_plus : Nat) (q_t_minus : Nat) (q_t_divisor : Nat) (k : Nat) (t_room : Int32) (t_sign : Int32) (t_length : Int32) (n_t_plus : Nat) (a_t_plus : Nat → Int32) (n_t_minus : Nat) (a_t_minus : Nat → Int32) (n_t_divisor : Nat) (a_t_divisor : Nat → Int32) (fro : Int32) (fin : Int32) (size : Int32) (word : Int64) (o : (Nat → Int32)) (hf : f_S_takeMultiple k n_t_plus a_t_plus n_t_divisor a_t_divisor fro fin size word = some o) : Met l yX1_takeMultiple wsX1_takeMultiple rm_S_takeMultiple (c_Pre (dC, dI) vwCl [(cA, .int)] [(q_t, .inr (1, [.int t_room, .ref q_t_plus, .ref q_t_minus, .ref q_t_divisor, .int t_sign, .int t_length])), (q_t_plus, .inl (cA, n_t_plus, .inl a_t_plus)), (q_t_minus, .inl (cA, n_t_minus, .inl a_t_minus)), (q_t_divisor, .inl (cA, n_t_divisor, .inl a_t_divisor))] sz [.ref q_t, .int fro, .int fin, .int size, .long word]) (c_Qv (dC, dI) vwCl [(cA, .int)] [(q_t, .inr (1, [.int t_room, .ref q_t_plus, .ref q_t_minus, .ref q_t_divisor, .int t_sign, .int t_length])), (q_t_plus, .inl (cA, n_t_plus, .inl o)), (q_t_minus, .inl (cA, n_t_minus, .inl a_t_minus)), (q_t_divisor, .inl (cA, n_t_divisor, .inl a_t_divisor))] (va_A [(q_t, .inr (1, [.int t_room, .ref q_t_plus, .ref q_t_minus, .ref q_t_divisor, .int t_sign, .int t_length])), (q_t_plus, .inl (cA, n_t_plus, .inl a_t_plus)), (q_t_minus, .inl (cA, n_t_minus, .inl a_t_minus)), (q_t_divisor, .inl (cA, n_t_divisor, .inl a_t_divisor))] sz)) 0 0 (va_A [(q_t, .inr (1, [.int t_room, .ref q_t_plus, .ref q_t_minus, .ref q_t_divisor, .int t_sign, .int t_length])), (q_t_plus, .inl (cA, n_t_plus, .inl a_t_plus)), (q_t_minus, .inl (cA, n_t_minus, .inl a_t_minus)), (q_t_divisor, .inl (cA, n_t_divisor, .inl a_t_divisor))] sz) := by
  unfold f_S_takeMultiple at hf
  refine k_ent (Qc := fun A => c_Qv (dC, dI) vwCl [(cA, .int)] [(q_t, .inr (1, [.int t_room, .ref q_t_plus, .ref q_t_minus, .ref q_t_divisor, .int t_sign, .int t_length])), (q_t_plus, .inl (cA, n_t_plus, .inl o)), (q_t_minus, .inl (cA, n_t_minus, .inl a_t_minus)), (q_t_divisor, .inl (cA, n_t_divisor, .inl a_t_divisor))] A) (by decide) rfl (Nat.le_of_ble_eq_true rfl) ?_
  intro p e s m below meth c A hx hb hr hown hts hml hlocks hin hsz hA hK H locs hP hD hS ls hl
  have hown : s.vm.findClass RX1 = some m.cls := hown
  have hl : lv_has ls 9 [(0, .ref q_t), (1, .int fro), (2, .int fin), (3, .int size), (4, .long word)] := hl
  refine lv_lconst (v := 0) hx hb dX1_takeMultiple_0 (by decide) ?_
  refine lv_lstore (lv' := [(6, .long 0), (0, .ref q_t), (1, .int fro), (2, .int fin), (3, .int size), (4, .long word)]) hx hb dX1_takeMultiple_1 hl (by decide) rfl (fun ls hl => ?_)
  refine lv_iload_n hx hb dX1_takeMultiple_3 rfl (lv_at hl 2 rfl) ?_
  refine lv_istore (lv' := [(8, .int fro), (6, .long 0), (0, .ref q_t), (1, .int fro), (2, .int fin), (3, .int size), (4, .long word)]) hx hb dX1_takeMultiple_4 hl (by decide) rfl (fun ls hl => ?_)
  obtain ⟨x40, g41, hf⟩ := og_b hf
  refine w_S_takeMultiple_L6 hx hb hown hts hml hA hK k q_t q_t_plus q_t_minus q_t_divisor fro fin size word t_room t_sign t_length n_t_plus n_t_minus a_t_minus n_t_divisor a_t_divisor k (0 : Int64) fro a_t_plus _ g41 _ _ (hP.sub [0, 1, 2, 3] rfl) (hD.sub [0, 1, 2, 3] (by decide) rfl) hS _ (lv_sub hl [2, 3, 4, 5, 6, 1, 0] rfl) ?_
  intro H locs hP hD hS ls hl
  have e9 := Option.some.inj hf
  subst e9
  exact kr_v hx hb hr hlocks hK hS (hP.sub [0, 1, 2, 3] rfl) (hD.sub [0, 1, 2, 3] (by decide) rfl) dX1_takeMultiple_93
def rm_S_divideByOdd : Room := { frames := 1, cells := 0, slots := 0, locals := 28 }
theorem kw_S_divideByOdd_0 : (.methodLink RX1 78 Lib.Math.max.name : Cond) ∈ wsX1_divideByOdd := by decide +kernel
theorem kw_S_divideByOdd_1 : (.static Lib.Math.max.name : Cond) ∈ wsX1_divideByOdd := by decide +kernel
theorem kw_S_divideByOdd_2 : (.initialized "java/lang/Math" : Cond) ∈ wsX1_divideByOdd := by decide +kernel
theorem kw_S_divideByOdd_3 : (.code Lib.Math.max.name Lib.Math.max.code 2 (some .int) : Cond) ∈ wsX1_divideByOdd := by decide +kernel
theorem kw_S_divideByOdd_4 : (.fieldLink RX1 22 "MinorSteps$Sum" "divisor" "[I" : Cond) ∈ wsX1_divideByOdd := by decide +kernel
theorem kw_S_divideByOdd_5 : (.fieldLink RX1 15 "MinorSteps$Sum" "plus" "[I" : Cond) ∈ wsX1_divideByOdd := by decide +kernel
theorem kw_S_divideByOdd_6 : (.constant RX1 86 2147483647 : Cond) ∈ wsX1_divideByOdd := by decide +kernel
theorem kw_S_divideByOdd_7 : (.fieldLink RX1 34 "MinorSteps$Sum" "length" "I" : Cond) ∈ wsX1_divideByOdd := by decide +kernel
theorem ki_S_divideByOdd_X1 : ∀ w ∈ u_ws RX1 TX1 6, w ∈ wsX1_divideByOdd := by decide +kernel
set_option maxHeartbeats 4000000 in
set_option maxRecDepth 100000 in
theorem w_S_divideByOdd_L24 {p : Program} {l : Launch} {e : Env} {s : State} {m : MethodId} {args : Array Value} {below : List Frame} {meth : Method} {c : Code} {Q : State → Prop} {A : Nat → Prop} {H0 : Heap} {dC : Nat → ClassId} {dI : Nat → Nat → Nat} {cA : ClassId} (hx : p.tables.exec = Jvm.exec) (hb : c.code = cX1_divideByOdd) (hown : s.vm.findClass RX1 = some m.cls) (hts : ∀ w ∈ wsX1_divideByOdd, w.before args s = true) (hml : c.maxLocals = 7) (hA : ∀ q, H0.size ≤ q → A q) (hK : va_K (dC, dI) vwCl [(cA, .int)] s) (k : Nat) (q_t : Nat) (q_t_plus : Nat) (q_t_minus : Nat) (q_t_divisor : Nat) (v1 : Int32) (v3 : Int32) (v4 : Int32) (i0_t : Int32) (i4_t : Int32) (i5_t : Int32) (n_t_plus : Nat) (n_t_minus : Nat) (a_t_minus : Nat → Int32) (n_t_divisor : Nat) (a_t_divisor : Nat → Int32) : ∀ (j : Nat) (v5 : Int32) (a_t_plus : Nat → Int32) (o : Int32 × (Nat → Int32)), f_S_divideByOdd_L24 k v1 v3 v4 n_t_plus n_t_divisor a_t_divisor j v5 a_t_plus = some o → ∀ (H : Heap) (locs : List Loc), va_P (dC, dI) vwCl [(q_t, .inr (1, [.int i0_t, .ref q_t_plus, .ref q_t_minus, .ref q_t_divisor, .int i4_t, .int i5_t])), (q_t_plus, .inl (cA, n_t_plus, .inl a_t_plus)), (q_t_minus, .inl (cA, n_t_minus, .inl a_t_minus)), (q_t_divisor, .inl (cA, n_t_divisor, .inl a_t_divisor))] H → va_D A [(q_t, .inr (1, [.int i0_t, .ref q_t_plus, .ref q_t_minus, .ref q_t_divisor, .int i4_t, .int i5_t])), (q_t_plus, .inl (cA, n_t_plus, .inl a_t_plus)), (q_t_minus, .inl (cA, n_t_minus, .inl a_t_minus)), (q_t_divisor, .inl (cA, n_t_divisor, .inl a_t_divisor))] → va_S A H0 H locs → ∀ ls : Array Slot, lv_has ls 7 [(0, .ref q_t), (1, .int v1), (3, .int v3), (4, .int v4), (5, .int v5)] → ∀ (he : ∀ (H : Heap) (locs : List Loc), va_P (dC, dI) vwCl [(q_t, .inr (1, [.int i0_t, .ref q_t_plus, .ref q_t_minus, .ref q_t_divisor, .int i4_t, .int i5_t])), (q_t_plus, .inl (cA, n_t_plus, .inl o.2)), (q_t_minus, .inl (cA, n_t_minus, .inl a_t_minus)), (q_t_divisor, .inl (cA, n_t_divisor, .inl a_t_divisor))] H → va_D A [(q_t, .inr (1, [.int i0_t, .ref q_t_plus, .ref q_t_minus, .ref q_t_divisor, .int i4_t, .int i5_t])), (q_t_plus, .inl (cA, n_t_plus, .inl o.2)), (q_t_minus, .inl (cA, n_t_minus, .inl a_t_minus)), (q_t_divisor, .inl (cA, n_t_divisor, .inl a_t_divisor))] → va_S A H0 H locs → ∀ ls : Array Slot, lv_has ls 7 [(0, .ref q_t), (3, .int v3)] → W p l e rm_S_divideByOdd s m args below meth c H locs 0 0 Q (F0 m 71 ls [])), W p l e rm_S_divideByOdd s m args below meth c H locs 0 0 Q (F0 m 24 ls []) := by
  intro j
  induction j with
  | zero =>
    intro v5 a_t_plus o hf
    rw [f_S_divideByOdd_L24] at hf
    cases hf
  | succ j ih =>
    intro v5 a_t_plus o hf H locs hP hD hS ls hl he
    rw [f_S_divideByOdd_L24] at hf
    refine lv_iload hx hb dX1_divideByOdd_24 (lv_at hl 4 rfl) ?_
    refine lv_iload_n hx hb dX1_divideByOdd_26 rfl (lv_at hl 2 rfl) ?_
    refine lv_icmp_ge (tgt := 71) hx hb dX1_divideByOdd_27 (by decide) (fun c14 => ?_) (fun c14 => ?_)
    · have hf := og_t c14 hf
      have e9 := Option.some.inj hf
      subst e9
      exact he _ _ (hP.sub [0, 1, 2, 3] rfl) (hD.sub [0, 1, 2, 3] (by decide) rfl) hS _ (lv_sub hl [0, 2] rfl)
    · have hf := og_f c14 hf
      refine lv_aload_n hx hb dX1_divideByOdd_30 rfl (lv_at hl 0 rfl) ?_
      refine va_get (D := (dC, dI)) (ci := 1) (v := .ref q_t_plus) (C := RX1) (T := TX1) (N := 6) hx hb hts ki_S_divideByOdd_X1 hown hK hP 0 rfl rfl 1 (by decide) (hts (.fieldLink RX1 15 "MinorSteps$Sum" "plus" "[I") kw_S_divideByOdd_5) (fun _ h9 => h9) rfl dX1_divideByOdd_31 ?_
      refine lv_iload hx hb dX1_divideByOdd_34 (lv_at hl 4 rfl) ?_
      obtain ⟨g15, hf⟩ := og_c hf
      refine va_iald hx hb hK hP 1 0 rfl rfl (og_in g15) dX1_divideByOdd_36 ?_
      refine lv_iload hx hb dX1_divideByOdd_37 (lv_at hl 3 rfl) ?_
      refine lv_imul hx hb dX1_divideByOdd_39 ?_
      refine lv_ldc (v := 2147483647) hx hb hown (hts (.constant RX1 86 2147483647) kw_S_divideByOdd_6) dX1_divideByOdd_40 ?_
      refine lv_iand hx hb dX1_divideByOdd_42 ?_
      refine lv_istore (lv' := [(6, .int (((a_t_plus v5.toNatClampNeg) * v4) &&& 2147483647)), (0, .ref q_t), (1, .int v1), (3, .int v3), (4, .int v4), (5, .int v5)]) hx hb dX1_divideByOdd_43 hl (by decide) rfl (fun ls hl => ?_)
      refine lv_aload_n hx hb dX1_divideByOdd_45 rfl (lv_at hl 1 rfl) ?_
      refine lv_iload hx hb dX1_divideByOdd_46 (lv_at hl 5 rfl) ?_
      refine lv_iload_n hx hb dX1_divideByOdd_48 rfl (lv_at hl 3 rfl) ?_
      refine lv_iload_n hx hb dX1_divideByOdd_49 rfl (lv_at hl 2 rfl) ?_
      refine lv_iload hx hb dX1_divideByOdd_50 (lv_at hl 0 rfl) ?_
      refine lv_i2l (v := (((a_t_plus v5.toNatClampNeg) * v4) &&& 2147483647).toInt64) hx hb dX1_divideByOdd_52 rfl ?_
      obtain ⟨x16, g17, hf⟩ := og_b hf
      refine kc_v (wr := []) (w1 := [(q_t, .inr (1, [.int i0_t, .ref q_t_plus, .ref q_t_minus, .ref q_t_divisor, .int i4_t, .int i5_t])), (q_t_plus, .inl (cA, n_t_plus, .inl x16)), (q_t_minus, .inl (cA, n_t_minus, .inl a_t_minus)), (q_t_divisor, .inl (cA, n_t_divisor, .inl a_t_divisor))]) [0, 1, 2, 3] [] (va_runV (As := [.int v5, .int v3, .int v1, .long ((((a_t_plus v5.toNatClampNeg) * v4) &&& 2147483647).toInt64)]) (rest := []) ⟨hx, hb, hml, hown, hts⟩ (c_S_takeMultiple l dC dI cA H.size q_t q_t_plus q_t_minus q_t_divisor k i0_t i4_t i5_t n_t_plus a_t_plus n_t_minus a_t_minus n_t_divisor a_t_divisor v5 v3 v1 ((((a_t_plus v5.toNatClampNeg) * v4) &&& 2147483647).toInt64) x16 g17) (cwV 4 hts gX1_divideByOdd_X1_takeMultiple rfl rfl rfl (by decide +kernel) ⟨Nat.le_of_ble_eq_true rfl, Nat.le_of_ble_eq_true rfl⟩) (kc_preV hP hD hK [0, 1, 2, 3] rfl rfl (by decide) (ci := 1) (q0 := 0) rfl rfl) rfl rfl hl.1 rfl (lv_room (Nat.le_of_ble_eq_true rfl)) dX1_divideByOdd_53 ⟨Nat.le_of_ble_eq_true rfl, Nat.le_of_ble_eq_true rfl⟩) hP hD hS hA rfl rfl (by decide) (by decide) (fun H locs hP hD hS => ?_)
      have hP : va_P (dC, dI) vwCl [(q_t, .inr (1, [.int i0_t, .ref q_t_plus, .ref q_t_minus, .ref q_t_divisor, .int i4_t, .int i5_t])), (q_t_plus, .inl (cA, n_t_plus, .inl x16)), (q_t_minus, .inl (cA, n_t_minus, .inl a_t_minus)), (q_t_divisor, .inl (cA, n_t_divisor, .inl a_t_divisor))] H := hP
      have hD : va_D A [(q_t, .inr (1, [.int i0_t, .ref q_t_plus, .ref q_t_minus, .ref q_t_divisor, .int i4_t, .int i5_t])), (q_t_plus, .inl (cA, n_t_plus, .inl x16)), (q_t_minus, .inl (cA, n_t_minus, .inl a_t_minus)), (q_t_divisor, .inl (cA, n_t_divisor, .inl a_t_divisor))] := hD
      refine lv_aload_n hx hb dX1_divideByOdd_56 rfl (lv_at hl 1 rfl) ?_
      refine va_get (D := (dC, dI)) (ci := 1) (v := .ref q_t_plus) (C := RX1) (T := TX1) (N := 6) hx hb hts ki_S_divideByOdd_X1 hown hK hP 0 rfl rfl 1 (by decide) (hts (.fieldLink RX1 15 "MinorSteps$Sum" "plus" "[I") kw_S_divideByOdd_5) (fun _ h9 => h9) rfl dX1_divideByOdd_57 ?_
      refine lv_iload hx hb dX1_divideByOdd_60 (lv_at hl 5 rfl) ?_
      refine lv_iload hx hb dX1_divideByOdd_62 (lv_at hl 0 rfl) ?_
      obtain ⟨g18, hf⟩ := og_c hf
      refine va_iast hx hb hK hP hD hS 1 0 rfl rfl (og_in g18) dX1_divideByOdd_64 (fun H locs hP hD hS => ?_)
      have hP : va_P (dC, dI) vwCl [(q_t, .inr (1, [.int i0_t, .ref q_t_plus, .ref q_t_minus, .ref q_t_divisor, .int i4_t, .int i5_t])), (q_t_plus, .inl (cA, n_t_plus, .inl (upd x16 v5.toNatClampNeg (((a_t_plus v5.toNatClampNeg) * v4) &&& 2147483647)))), (q_t_minus, .inl (cA, n_t_minus, .inl a_t_minus)), (q_t_divisor, .inl (cA, n_t_divisor, .inl a_t_divisor))] H := hP
      have hD : va_D A [(q_t, .inr (1, [.int i0_t, .ref q_t_plus, .ref q_t_minus, .ref q_t_divisor, .int i4_t, .int i5_t])), (q_t_plus, .inl (cA, n_t_plus, .inl (upd x16 v5.toNatClampNeg (((a_t_plus v5.toNatClampNeg) * v4) &&& 2147483647)))), (q_t_minus, .inl (cA, n_t_minus, .inl a_t_minus)), (q_t_divisor, .inl (cA, n_t_divisor, .inl a_t_divisor))] := hD
      refine lv_iinc (v := v5 + 1) (lv' := [(5, .int (v5 + 1)), (6, .int (((a_t_plus v5.toNatClampNeg) * v4) &&& 2147483647)), (0, .ref q_t), (1, .int v1), (3, .int v3), (4, .int v4)]) hx hb dX1_divideByOdd_65 hl (k := 5) rfl rfl (by decide) rfl (fun ls hl => ?_)
      refine lv_goto (tgt := 24) hx hb dX1_divideByOdd_68 (by decide) ?_
      exact ih (v5 + 1) (upd x16 v5.toNatClampNeg (((a_t_plus v5.toNatClampNeg) * v4) &&& 2147483647)) _ hf _ _ (hP.sub [0, 1, 2, 3] rfl) (hD.sub [0, 1, 2, 3] (by decide) rfl) hS _ (lv_sub hl [2, 3, 4, 5, 0] rfl) he
set_option maxHeartbeats 4000000 in
set_option maxRecDepth 100000 in
theorem c_S_divideByOdd (l : Launch) (dC : Nat → ClassId) (dI : Nat → Nat → Nat) (cA : ClassId) (sz : Nat) (q_t : Nat) (q_t_plus : Nat) (q_t_minus : Nat) (q_t_divisor : Nat) (k : Nat) (t_room : Int32) (t_sign : Int32) (t_length : Int32) (n_t_plus : Nat) (a_t_plus : Nat → Int32) (n_t_minus : Nat) (a_t_minus : Nat → Int32) (n_t_divisor : Nat) (a_t_divisor : Nat → Int32) (size : Int32) (lengthLeft : Int32) (o : Int32 × (Nat → Int32)) (hf : f_S_divideByOdd k n_t_plus a_t_plus n_t_divisor a_t_divisor size lengthLeft = some o) : Met l yX1_divideByOdd wsX1_divideByOdd rm_S_divideByOdd (c_Pre (dC, dI) vwCl [(cA, .int)] [(q_t, .inr (1, [.int t_room, .ref q_t_plus, .ref q_t_minus, .ref q_t_divisor, .int t_sign, .int t_length])), (q_t_plus, .inl (cA, n_t_plus, .inl a_t_plus)), (q_t_minus, .inl (cA, n_t_minus, .inl a_t_minus)), (q_t_divisor, .inl (cA, n_t_divisor, .inl a_t_divisor))] sz [.ref q_t, .int size, .int lengthLeft]) (c_Qv (dC, dI) vwCl [(cA, .int)] [(q_t, .inr (1, [.int t_room, .ref q_t_plus, .ref q_t_minus, .ref q_t_divisor, .int t_sign, .int o.1])), (q_t_plus, .inl (cA, n_t_plus, .inl o.2)), (q_t_minus, .inl (cA, n_t_minus, .inl a_t_minus)), (q_t_divisor, .inl (cA, n_t_divisor, .inl a_t_divisor))] (va_A [(q_t, .inr (1, [.int t_room, .ref q_t_plus, .ref q_t_minus, .ref q_t_divisor, .int t_sign, .int t_length])), (q_t_plus, .inl (cA, n_t_plus, .inl a_t_plus)), (q_t_minus, .inl (cA, n_t_minus, .inl a_t_minus)), (q_t_divisor, .inl (cA, n_t_divisor, .inl a_t_divisor))] sz)) 0 0 (va_A [(q_t, .inr (1, [.int t_room, .ref q_t_plus, .ref q_t_minus, .ref q_t_divisor, .int t_sign, .int t_length])), (q_t_plus, .inl (cA, n_t_plus, .inl a_t_plus)), (q_t_minus, .inl (cA, n_t_minus, .inl a_t_minus)), (q_t_divisor, .inl (cA, n_t_divisor, .inl a_t_divisor))] sz) := by
  unfold f_S_divideByOdd at hf
  refine k_ent (Qc := fun A => c_Qv (dC, dI) vwCl [(cA, .int)] [(q_t, .inr (1, [.int t_room, .ref q_t_plus, .ref q_t_minus, .ref q_t_divisor, .int t_sign, .int o.1])), (q_t_plus, .inl (cA, n_t_plus, .inl o.2)), (q_t_minus, .inl (cA, n_t_minus, .inl a_t_minus)), (q_t_divisor, .inl (cA, n_t_divisor, .inl a_t_divisor))] A) (by decide) rfl (Nat.le_of_ble_eq_true rfl) ?_
  intro p e s m below meth c A hx hb hr hown hts hml hlocks hin hsz hA hK H locs hP hD hS ls hl
  have hown : s.vm.findClass RX1 = some m.cls := hown
  have hl : lv_has ls 7 [(0, .ref q_t), (1, .int size), (2, .int lengthLeft)] := hl
  refine lv_iconst (v := 0) hx hb dX1_divideByOdd_0 (by decide) ?_
  refine lv_iload_n hx hb dX1_divideByOdd_1 rfl (lv_at hl 2 rfl) ?_
  refine lv_iload_n hx hb dX1_divideByOdd_2 rfl (lv_at hl 1 rfl) ?_
  refine lv_isub hx hb dX1_divideByOdd_3 ?_
  refine lv_iconst (v := 1) hx hb dX1_divideByOdd_4 (by decide) ?_
  refine lv_iadd hx hb dX1_divideByOdd_5 ?_
  refine va_mmax hx hb (hml.trans hl.1.symm) hown (hts (.methodLink RX1 78 Lib.Math.max.name) kw_S_divideByOdd_0) (hts (.static Lib.Math.max.name) kw_S_divideByOdd_1) (hts (.initialized "java/lang/Math") kw_S_divideByOdd_2) (hts (.code Lib.Math.max.name Lib.Math.max.code 2 (some .int)) kw_S_divideByOdd_3) (Nat.le_of_ble_eq_true rfl) (Nat.le_of_ble_eq_true rfl) (Nat.zero_le _) (Nat.zero_le _) dX1_divideByOdd_6 ?_
  refine lv_istore_n (lv' := [(3, .int (if (0 : Int32) < (lengthLeft - size) + 1 then (lengthLeft - size) + 1 else (0 : Int32))), (0, .ref q_t), (1, .int size), (2, .int lengthLeft)]) hx hb dX1_divideByOdd_9 rfl hl (by decide) rfl (fun ls hl => ?_)
  refine lv_aload_n hx hb dX1_divideByOdd_10 rfl (lv_at hl 1 rfl) ?_
  refine va_get (D := (dC, dI)) (ci := 1) (v := .ref q_t_divisor) (C := RX1) (T := TX1) (N := 6) hx hb hts ki_S_divideByOdd_X1 hown hK hP 0 rfl rfl 3 (by decide) (hts (.fieldLink RX1 22 "MinorSteps$Sum" "divisor" "[I") kw_S_divideByOdd_4) (fun _ h9 => h9) rfl dX1_divideByOdd_11 ?_
  refine lv_iconst (v := 0) hx hb dX1_divideByOdd_14 (by decide) ?_
  obtain ⟨g1, hf⟩ := og_c hf
  refine va_iald hx hb hK hP 3 0 rfl rfl (og_in g1) dX1_divideByOdd_15 ?_
  obtain ⟨x2, g3, hf⟩ := og_b hf
  refine kc_i (wr := [(q_t, .inr (1, [.int t_room, .ref q_t_plus, .ref q_t_minus, .ref q_t_divisor, .int t_sign, .int t_length])), (q_t_plus, .inl (cA, n_t_plus, .inl a_t_plus)), (q_t_minus, .inl (cA, n_t_minus, .inl a_t_minus)), (q_t_divisor, .inl (cA, n_t_divisor, .inl a_t_divisor))]) (w1 := []) [] [0, 1, 2, 3] (va_runS (As := [.int (a_t_divisor (0 : Int32).toNatClampNeg)]) (rest := []) ⟨hx, hb, hml, hown, hts⟩ (c_S_inverseOf l dC dI cA H.size  k (a_t_divisor (0 : Int32).toNatClampNeg) x2 g3) (va_cwS 1 hts gX1_divideByOdd_X1_inverseOf rfl rfl rfl (by decide +kernel) ⟨Nat.le_of_ble_eq_true rfl, Nat.le_of_ble_eq_true rfl⟩) (kc_preS hP hD hK [] rfl rfl (by decide)) rfl rfl hl.1 rfl (lv_room (Nat.le_of_ble_eq_true rfl)) dX1_divideByOdd_16 ⟨Nat.le_of_ble_eq_true rfl, Nat.le_of_ble_eq_true rfl⟩) hP hD hS hA rfl rfl (by decide) (by decide) (fun H locs hP hD hS => ?_)
  have hP : va_P (dC, dI) vwCl [(q_t, .inr (1, [.int t_room, .ref q_t_plus, .ref q_t_minus, .ref q_t_divisor, .int t_sign, .int t_length])), (q_t_plus, .inl (cA, n_t_plus, .inl a_t_plus)), (q_t_minus, .inl (cA, n_t_minus, .inl a_t_minus)), (q_t_divisor, .inl (cA, n_t_divisor, .inl a_t_divisor))] H := hP
  have hD : va_D A [(q_t, .inr (1, [.int t_room, .ref q_t_plus, .ref q_t_minus, .ref q_t_divisor, .int t_sign, .int t_length])), (q_t_plus, .inl (cA, n_t_plus, .inl a_t_plus)), (q_t_minus, .inl (cA, n_t_minus, .inl a_t_minus)), (q_t_divisor, .inl (cA, n_t_divisor, .inl a_t_divisor))] := hD
  refine lv_istore (lv' := [(4, .int x2), (3, .int (if (0 : Int32) < (lengthLeft - size) + 1 then (lengthLeft - size) + 1 else (0 : Int32))), (0, .ref q_t), (1, .int size), (2, .int lengthLeft)]) hx hb dX1_divideByOdd_19 hl (by decide) rfl (fun ls hl => ?_)
  refine lv_iconst (v := 0) hx hb dX1_divideByOdd_21 (by decide) ?_
  refine lv_istore (lv' := [(5, .int 0), (4, .int x2), (3, .int (if (0 : Int32) < (lengthLeft - size) + 1 then (lengthLeft - size) + 1 else (0 : Int32))), (0, .ref q_t), (1, .int size), (2, .int lengthLeft)]) hx hb dX1_divideByOdd_22 hl (by decide) rfl (fun ls hl => ?_)
  obtain ⟨x19, g20, hf⟩ := og_b hf
  refine w_S_divideByOdd_L24 hx hb hown hts hml hA hK k q_t q_t_plus q_t_minus q_t_divisor size (if (0 : Int32) < (lengthLeft - size) + 1 then (lengthLeft - size) + 1 else (0 : Int32)) x2 t_room t_sign t_length n_t_plus n_t_minus a_t_minus n_t_divisor a_t_divisor k (0 : Int32) a_t_plus _ g20 _ _ (hP.sub [0, 1, 2, 3] rfl) (hD.sub [0, 1, 2, 3] (by decide) rfl) hS _ (lv_sub hl [3, 4, 2, 1, 0] rfl) ?_
  intro H locs hP hD hS ls hl
  refine lv_aload_n hx hb dX1_divideByOdd_71 rfl (lv_at hl 0 rfl) ?_
  refine lv_aload_n hx hb dX1_divideByOdd_72 rfl (lv_at hl 0 rfl) ?_
  refine va_get (D := (dC, dI)) (ci := 1) (v := .ref q_t_plus) (C := RX1) (T := TX1) (N := 6) hx hb hts ki_S_divideByOdd_X1 hown hK hP 0 rfl rfl 1 (by decide) (hts (.fieldLink RX1 15 "MinorSteps$Sum" "plus" "[I") kw_S_divideByOdd_5) (fun _ h9 => h9) rfl dX1_divideByOdd_73 ?_
  refine lv_iload_n hx hb dX1_divideByOdd_76 rfl (lv_at hl 2 rfl) ?_
  obtain ⟨x21, g22, hf⟩ := og_b hf
  refine kc_i (wr := [(q_t, .inr (1, [.int t_room, .ref q_t_plus, .ref q_t_minus, .ref q_t_divisor, .int t_sign, .int t_length])), (q_t_minus, .inl (cA, n_t_minus, .inl a_t_minus)), (q_t_divisor, .inl (cA, n_t_divisor, .inl a_t_divisor))]) (w1 := [(q_t_plus, .inl (cA, n_t_plus, .inl x19.2))]) [1] [0, 2, 3] (va_runS (As := [.ref q_t_plus, .int (if (0 : Int32) < (lengthLeft - size) + 1 then (lengthLeft - size) + 1 else (0 : Int32))]) (rest := [.ref q_t]) ⟨hx, hb, hml, hown, hts⟩ (c_S_trimmed l dC dI cA H.size q_t_plus k n_t_plus x19.2 (if (0 : Int32) < (lengthLeft - size) + 1 then (lengthLeft - size) + 1 else (0 : Int32)) x21 g22) (va_cwS 2 hts gX1_divideByOdd_X1_trimmed rfl rfl rfl (by decide +kernel) ⟨Nat.le_of_ble_eq_true rfl, Nat.le_of_ble_eq_true rfl⟩) (kc_preS hP hD hK [1] rfl rfl (by decide)) rfl rfl hl.1 rfl (lv_room (Nat.le_of_ble_eq_true rfl)) dX1_divideByOdd_77 ⟨Nat.le_of_ble_eq_true rfl, Nat.le_of_ble_eq_true rfl⟩) hP hD hS hA rfl rfl (by decide) (by decide) (fun H locs hP hD hS => ?_)
  have hP : va_P (dC, dI) vwCl [(q_t, .inr (1, [.int t_room, .ref q_t_plus, .ref q_t_minus, .ref q_t_divisor, .int t_sign, .int t_length])), (q_t_minus, .inl (cA, n_t_minus, .inl a_t_minus)), (q_t_divisor, .inl (cA, n_t_divisor, .inl a_t_divisor)), (q_t_plus, .inl (cA, n_t_plus, .inl x19.2))] H := hP
  have hD : va_D A [(q_t, .inr (1, [.int t_room, .ref q_t_plus, .ref q_t_minus, .ref q_t_divisor, .int t_sign, .int t_length])), (q_t_minus, .inl (cA, n_t_minus, .inl a_t_minus)), (q_t_divisor, .inl (cA, n_t_divisor, .inl a_t_divisor)), (q_t_plus, .inl (cA, n_t_plus, .inl x19.2))] := hD
  refine va_put (D := (dC, dI)) (ci := 1) (v := .int x21) (ty := .int) (C := RX1) (T := TX1) (N := 6) hx hb hts ki_S_divideByOdd_X1 tyX1 tyX1_ok nmX1 hown hK hP hD hS 0 rfl rfl 5 (by decide) (hts (.fieldLink RX1 34 "MinorSteps$Sum" "length" "I") kw_S_divideByOdd_7) (fun _ h9 => h9) rfl (by decide +kernel) rfl rfl (Nat.le_of_ble_eq_true rfl) dX1_divideByOdd_80 (fun H locs hP hD hS => ?_)
  have hP : va_P (dC, dI) vwCl [(q_t, .inr (1, [.int t_room, .ref q_t_plus, .ref q_t_minus, .ref q_t_divisor, .int t_sign, .int x21])), (q_t_minus, .inl (cA, n_t_minus, .inl a_t_minus)), (q_t_divisor, .inl (cA, n_t_divisor, .inl a_t_divisor)), (q_t_plus, .inl (cA, n_t_plus, .inl x19.2))] H := hP
  have hD : va_D A [(q_t, .inr (1, [.int t_room, .ref q_t_plus, .ref q_t_minus, .ref q_t_divisor, .int t_sign, .int x21])), (q_t_minus, .inl (cA, n_t_minus, .inl a_t_minus)), (q_t_divisor, .inl (cA, n_t_divisor, .inl a_t_divisor)), (q_t_plus, .inl (cA, n_t_plus, .inl x19.2))] := hD
  have e9 := Option.some.inj hf
  subst e9
  exact kr_v hx hb hr hlocks hK hS (hP.sub [0, 3, 1, 2] rfl) (hD.sub [0, 3, 1, 2] (by decide) rfl) dX1_divideByOdd_83
def rm_S_divideBy : Room := { frames := 2, cells := 0, slots := 0, locals := 54 }
theorem kw_S_divideBy_0 : (.fieldLink RX1 34 "MinorSteps$Sum" "length" "I" : Cond) ∈ wsX1_divideBy := by decide +kernel
theorem kw_S_divideBy_1 : (.fieldLink RX1 22 "MinorSteps$Sum" "divisor" "[I" : Cond) ∈ wsX1_divideBy := by decide +kernel
theorem kw_S_divideBy_2 : (.fieldLink RX1 15 "MinorSteps$Sum" "plus" "[I" : Cond) ∈ wsX1_divideBy := by decide +kernel
theorem kw_S_divideBy_3 : (.fieldLink RX1 31 "MinorSteps$Sum" "sign" "I" : Cond) ∈ wsX1_divideBy := by decide +kernel
theorem ki_S_divideBy_X1 : ∀ w ∈ u_ws RX1 TX1 6, w ∈ wsX1_divideBy := by decide +kernel
set_option maxHeartbeats 4000000 in
set_option maxRecDepth 100000 in
theorem w_S_divideBy_L22 {p : Program} {l : Launch} {e : Env} {s : State} {m : MethodId} {args : Array Value} {below : List Frame} {meth : Method} {c : Code} {Q : State → Prop} {A : Nat → Prop} {H0 : Heap} {dC : Nat → ClassId} {dI : Nat → Nat → Nat} {cA : ClassId} (hx : p.tables.exec = Jvm.exec) (hb : c.code = cX1_divideBy) (hown : s.vm.findClass RX1 = some m.cls) (hts : ∀ w ∈ wsX1_divideBy, w.before args s = true) (hml : c.maxLocals = 6) (hA : ∀ q, H0.size ≤ q → A q) (hK : va_K (dC, dI) vwCl [(cA, .int)] s) (k : Nat) (q_t : Nat) (q_t_plus : Nat) (q_t_minus : Nat) (q_t_divisor : Nat) (q_u : Nat) (q_u_signs : Nat) (q_u_lengths : Nat) (q_u_limbs : Nat) (v2 : Int32) (v3 : Int32) (i0_t : Int32) (i4_t : Int32) (i5_t : Int32) (n_t_plus : Nat) (a_t_plus : Nat → Int32) (n_t_minus : Nat) (a_t_minus : Nat → Int32) (n_t_divisor : Nat) (i0_u : Int32) (n_u_signs : Nat) (a_u_signs : Nat → Int32) (n_u_lengths : Nat) (a_u_lengths : Nat → Int32) (n_u_limbs : Nat) (a_u_limbs : Nat → Int32) : ∀ (j : Nat) (v4 : Int32) (a_t_divisor : Nat → Int32) (o : Int32 × (Nat → Int32)), f_S_divideBy_L22 k v2 v3 n_t_divisor i0_u n_u_limbs a_u_limbs j v4 a_t_divisor = some o → ∀ (H : Heap) (locs : List Loc), va_P (dC, dI) vwCl [(q_t, .inr (1, [.int i0_t, .ref q_t_plus, .ref q_t_minus, .ref q_t_divisor, .int i4_t, .int i5_t])), (q_t_plus, .inl (cA, n_t_plus, .inl a_t_plus)), (q_t_minus, .inl (cA, n_t_minus, .inl a_t_minus)), (q_t_divisor, .inl (cA, n_t_divisor, .inl a_t_divisor)), (q_u, .inr (0, [.int i0_u, .ref q_u_signs, .ref q_u_lengths, .ref q_u_limbs])), (q_u_signs, .inl (cA, n_u_signs, .inl a_u_signs)), (q_u_lengths, .inl (cA, n_u_lengths, .inl a_u_lengths)), (q_u_limbs, .inl (cA, n_u_limbs, .inl a_u_limbs))] H → va_D A [(q_t, .inr (1, [.int i0_t, .ref q_t_plus, .ref q_t_minus, .ref q_t_divisor, .int i4_t, .int i5_t])), (q_t_plus, .inl (cA, n_t_plus, .inl a_t_plus)), (q_t_minus, .inl (cA, n_t_minus, .inl a_t_minus)), (q_t_divisor, .inl (cA, n_t_divisor, .inl a_t_divisor)), (q_u, .inr (0, [.int i0_u, .ref q_u_signs, .ref q_u_lengths, .ref q_u_limbs])), (q_u_signs, .inl (cA, n_u_signs, .inl a_u_signs)), (q_u_lengths, .inl (cA, n_u_lengths, .inl a_u_lengths)), (q_u_limbs, .inl (cA, n_u_limbs, .inl a_u_limbs))] → va_S A H0 H locs → ∀ ls : Array Slot, lv_has ls 6 [(0, .ref q_t), (1, .ref q_u), (2, .int v2), (3, .int v3), (4, .int v4)] → ∀ (he : ∀ (H : Heap) (locs : List Loc), va_P (dC, dI) vwCl [(q_t, .inr (1, [.int i0_t, .ref q_t_plus, .ref q_t_minus, .ref q_t_divisor, .int i4_t, .int i5_t])), (q_t_plus, .inl (cA, n_t_plus, .inl a_t_plus)), (q_t_minus, .inl (cA, n_t_minus, .inl a_t_minus)), (q_t_divisor, .inl (cA, n_t_divisor, .inl o.2)), (q_u, .inr (0, [.int i0_u, .ref q_u_signs, .ref q_u_lengths, .ref q_u_limbs])), (q_u_signs, .inl (cA, n_u_signs, .inl a_u_signs)), (q_u_lengths, .inl (cA, n_u_lengths, .inl a_u_lengths)), (q_u_limbs, .inl (cA, n_u_limbs, .inl a_u_limbs))] H → va_D A [(q_t, .inr (1, [.int i0_t, .ref q_t_plus, .ref q_t_minus, .ref q_t_divisor, .int i4_t, .int i5_t])), (q_t_plus, .inl (cA, n_t_plus, .inl a_t_plus)), (q_t_minus, .inl (cA, n_t_minus, .inl a_t_minus)), (q_t_divisor, .inl (cA, n_t_divisor, .inl o.2)), (q_u, .inr (0, [.int i0_u, .ref q_u_signs, .ref q_u_lengths, .ref q_u_limbs])), (q_u_signs, .inl (cA, n_u_signs, .inl a_u_signs)), (q_u_lengths, .inl (cA, n_u_lengths, .inl a_u_lengths)), (q_u_limbs, .inl (cA, n_u_limbs, .inl a_u_limbs))] → va_S A H0 H locs → ∀ ls : Array Slot, lv_has ls 6 [(0, .ref q_t), (1, .ref q_u), (2, .int v2), (3, .int v3)] → W p l e rm_S_divideBy s m args below meth c H locs 0 0 Q (F0 m 48 ls [])), W p l e rm_S_divideBy s m args below meth c H locs 0 0 Q (F0 m 22 ls []) := by
  intro j
  induction j with
  | zero =>
    intro v4 a_t_divisor o hf
    rw [f_S_divideBy_L22] at hf
    cases hf
  | succ j ih =>
    intro v4 a_t_divisor o hf H locs hP hD hS ls hl he
    rw [f_S_divideBy_L22] at hf
    refine lv_iload hx hb dX1_divideBy_22 (lv_at hl 4 rfl) ?_
    refine lv_iload_n hx hb dX1_divideBy_24 rfl (lv_at hl 3 rfl) ?_
    refine lv_icmp_ge (tgt := 48) hx hb dX1_divideBy_25 (by decide) (fun c13 => ?_) (fun c13 => ?_)
    · have hf := og_t c13 hf
      have e9 := Option.some.inj hf
      subst e9
      exact he _ _ (hP.sub [0, 1, 2, 3, 4, 5, 6, 7] rfl) (hD.sub [0, 1, 2, 3, 4, 5, 6, 7] (by decide) rfl) hS _ (lv_sub hl [0, 1, 2, 3] rfl)
    · have hf := og_f c13 hf
      refine lv_aload_n hx hb dX1_divideBy_28 rfl (lv_at hl 0 rfl) ?_
      refine va_get (D := (dC, dI)) (ci := 1) (v := .ref q_t_divisor) (C := RX1) (T := TX1) (N := 6) hx hb hts ki_S_divideBy_X1 hown hK hP 0 rfl rfl 3 (by decide) (hts (.fieldLink RX1 22 "MinorSteps$Sum" "divisor" "[I") kw_S_divideBy_1) (fun _ h9 => h9) rfl dX1_divideBy_29 ?_
      refine lv_iload hx hb dX1_divideBy_32 (lv_at hl 4 rfl) ?_
      refine lv_aload_n hx hb dX1_divideBy_34 rfl (lv_at hl 1 rfl) ?_
      refine lv_iload_n hx hb dX1_divideBy_35 rfl (lv_at hl 2 rfl) ?_
      refine lv_iload hx hb dX1_divideBy_36 (lv_at hl 4 rfl) ?_
      obtain ⟨x14, g15, hf⟩ := og_b hf
      refine kc_i (wr := [(q_t, .inr (1, [.int i0_t, .ref q_t_plus, .ref q_t_minus, .ref q_t_divisor, .int i4_t, .int i5_t])), (q_t_plus, .inl (cA, n_t_plus, .inl a_t_plus)), (q_t_minus, .inl (cA, n_t_minus, .inl a_t_minus)), (q_t_divisor, .inl (cA, n_t_divisor, .inl a_t_divisor))]) (w1 := [(q_u, .inr (0, [.int i0_u, .ref q_u_signs, .ref q_u_lengths, .ref q_u_limbs])), (q_u_signs, .inl (cA, n_u_signs, .inl a_u_signs)), (q_u_lengths, .inl (cA, n_u_lengths, .inl a_u_lengths)), (q_u_limbs, .inl (cA, n_u_limbs, .inl a_u_limbs))]) [4, 5, 6, 7] [0, 1, 2, 3] (va_runV (As := [.int v2, .int v4]) (rest := [.int v4, .ref q_t_divisor]) ⟨hx, hb, hml, hown, hts⟩ (c_N_limbOf l dC dI cA H.size q_u q_u_signs q_u_lengths q_u_limbs i0_u n_u_signs a_u_signs n_u_lengths a_u_lengths n_u_limbs a_u_limbs v2 v4 x14 g15) (cwV 2 hts gX1_divideBy_X0_limbOf rfl rfl rfl (by decide +kernel) ⟨Nat.le_of_ble_eq_true rfl, Nat.le_of_ble_eq_true rfl⟩) (kc_preV hP hD hK [4, 5, 6, 7] rfl rfl (by decide) (ci := 0) (q0 := 4) rfl rfl) rfl rfl hl.1 rfl (lv_room (Nat.le_of_ble_eq_true rfl)) dX1_divideBy_38 ⟨Nat.le_of_ble_eq_true rfl, Nat.le_of_ble_eq_true rfl⟩) hP hD hS hA rfl rfl (by decide) (by decide) (fun H locs hP hD hS => ?_)
      have hP : va_P (dC, dI) vwCl [(q_t, .inr (1, [.int i0_t, .ref q_t_plus, .ref q_t_minus, .ref q_t_divisor, .int i4_t, .int i5_t])), (q_t_plus, .inl (cA, n_t_plus, .inl a_t_plus)), (q_t_minus, .inl (cA, n_t_minus, .inl a_t_minus)), (q_t_divisor, .inl (cA, n_t_divisor, .inl a_t_divisor)), (q_u, .inr (0, [.int i0_u, .ref q_u_signs, .ref q_u_lengths, .ref q_u_limbs])), (q_u_signs, .inl (cA, n_u_signs, .inl a_u_signs)), (q_u_lengths, .inl (cA, n_u_lengths, .inl a_u_lengths)), (q_u_limbs, .inl (cA, n_u_limbs, .inl a_u_limbs))] H := hP
      have hD : va_D A [(q_t, .inr (1, [.int i0_t, .ref q_t_plus, .ref q_t_minus, .ref q_t_divisor, .int i4_t, .int i5_t])), (q_t_plus, .inl (cA, n_t_plus, .inl a_t_plus)), (q_t_minus, .inl (cA, n_t_minus, .inl a_t_minus)), (q_t_divisor, .inl (cA, n_t_divisor, .inl a_t_divisor)), (q_u, .inr (0, [.int i0_u, .ref q_u_signs, .ref q_u_lengths, .ref q_u_limbs])), (q_u_signs, .inl (cA, n_u_signs, .inl a_u_signs)), (q_u_lengths, .inl (cA, n_u_lengths, .inl a_u_lengths)), (q_u_limbs, .inl (cA, n_u_limbs, .inl a_u_limbs))] := hD
      obtain ⟨g16, hf⟩ := og_c hf
      refine va_iast hx hb hK hP hD hS 3 0 rfl rfl (og_in g16) dX1_divideBy_41 (fun H locs hP hD hS => ?_)
      have hP : va_P (dC, dI) vwCl [(q_t, .inr (1, [.int i0_t, .ref q_t_plus, .ref q_t_minus, .ref q_t_divisor, .int i4_t, .int i5_t])), (q_t_plus, .inl (cA, n_t_plus, .inl a_t_plus)), (q_t_minus, .inl (cA, n_t_minus, .inl a_t_minus)), (q_t_divisor, .inl (cA, n_t_divisor, .inl (upd a_t_divisor v4.toNatClampNeg x14))), (q_u, .inr (0, [.int i0_u, .ref q_u_signs, .ref q_u_lengths, .ref q_u_limbs])), (q_u_signs, .inl (cA, n_u_signs, .inl a_u_signs)), (q_u_lengths, .inl (cA, n_u_lengths, .inl a_u_lengths)), (q_u_limbs, .inl (cA, n_u_limbs, .inl a_u_limbs))] H := hP
      have hD : va_D A [(q_t, .inr (1, [.int i0_t, .ref q_t_plus, .ref q_t_minus, .ref q_t_divisor, .int i4_t, .int i5_t])), (q_t_plus, .inl (cA, n_t_plus, .inl a_t_plus)), (q_t_minus, .inl (cA, n_t_minus, .inl a_t_minus)), (q_t_divisor, .inl (cA, n_t_divisor, .inl (upd a_t_divisor v4.toNatClampNeg x14))), (q_u, .inr (0, [.int i0_u, .ref q_u_signs, .ref q_u_lengths, .ref q_u_limbs])), (q_u_signs, .inl (cA, n_u_signs, .inl a_u_signs)), (q_u_lengths, .inl (cA, n_u_lengths, .inl a_u_lengths)), (q_u_limbs, .inl (cA, n_u_limbs, .inl a_u_limbs))] := hD
      refine lv_iinc (v := v4 + 1) (lv' := [(4, .int (v4 + 1)), (0, .ref q_t), (1, .ref q_u), (2, .int v2), (3, .int v3)]) hx hb dX1_divideBy_42 hl (k := 4) rfl rfl (by decide) rfl (fun ls hl => ?_)
      refine lv_goto (tgt := 22) hx hb dX1_divideBy_45 (by decide) ?_
      exact ih (v4 + 1) (upd a_t_divisor v4.toNatClampNeg x14) _ hf _ _ (hP.sub [0, 1, 2, 3, 4, 5, 6, 7] rfl) (hD.sub [0, 1, 2, 3, 4, 5, 6, 7] (by decide) rfl) hS _ (lv_sub hl [1, 2, 3, 4, 0] rfl) he
set_option maxHeartbeats 4000000 in
set_option maxRecDepth 100000 in
theorem c_S_divideBy (l : Launch) (dC : Nat → ClassId) (dI : Nat → Nat → Nat) (cA : ClassId) (sz : Nat) (q_t : Nat) (q_t_plus : Nat) (q_t_minus : Nat) (q_t_divisor : Nat) (q_u : Nat) (q_u_signs : Nat) (q_u_lengths : Nat) (q_u_limbs : Nat) (k : Nat) (t_room : Int32) (t_sign : Int32) (t_length : Int32) (n_t_plus : Nat) (a_t_plus : Nat → Int32) (n_t_minus : Nat) (a_t_minus : Nat → Int32) (n_t_divisor : Nat) (a_t_divisor : Nat → Int32) (u_room : Int32) (n_u_signs : Nat) (a_u_signs : Nat → Int32) (n_u_lengths : Nat) (a_u_lengths : Nat → Int32) (n_u_limbs : Nat) (a_u_limbs : Nat → Int32) (slot : Int32) (o : Int32 × Int32 × (Nat → Int32) × (Nat → Int32)) (hf : f_S_divideBy k t_sign t_length n_t_plus a_t_plus n_t_divisor a_t_divisor u_room n_u_signs a_u_signs n_u_lengths a_u_lengths n_u_limbs a_u_limbs slot = some o) : Met l yX1_divideBy wsX1_divideBy rm_S_divideBy (c_Pre (dC, dI) vwCl [(cA, .int)] [(q_t, .inr (1, [.int t_room, .ref q_t_plus, .ref q_t_minus, .ref q_t_divisor, .int t_sign, .int t_length])), (q_t_plus, .inl (cA, n_t_plus, .inl a_t_plus)), (q_t_minus, .inl (cA, n_t_minus, .inl a_t_minus)), (q_t_divisor, .inl (cA, n_t_divisor, .inl a_t_divisor)), (q_u, .inr (0, [.int u_room, .ref q_u_signs, .ref q_u_lengths, .ref q_u_limbs])), (q_u_signs, .inl (cA, n_u_signs, .inl a_u_signs)), (q_u_lengths, .inl (cA, n_u_lengths, .inl a_u_lengths)), (q_u_limbs, .inl (cA, n_u_limbs, .inl a_u_limbs))] sz [.ref q_t, .ref q_u, .int slot]) (c_Qv (dC, dI) vwCl [(cA, .int)] [(q_t, .inr (1, [.int t_room, .ref q_t_plus, .ref q_t_minus, .ref q_t_divisor, .int o.1, .int o.2.1])), (q_t_plus, .inl (cA, n_t_plus, .inl o.2.2.1)), (q_t_minus, .inl (cA, n_t_minus, .inl a_t_minus)), (q_t_divisor, .inl (cA, n_t_divisor, .inl o.2.2.2)), (q_u, .inr (0, [.int u_room, .ref q_u_signs, .ref q_u_lengths, .ref q_u_limbs])), (q_u_signs, .inl (cA, n_u_signs, .inl a_u_signs)), (q_u_lengths, .inl (cA, n_u_lengths, .inl a_u_lengths)), (q_u_limbs, .inl (cA, n_u_limbs, .inl a_u_limbs))] (va_A [(q_t, .inr (1, [.int t_room, .ref q_t_plus, .ref q_t_minus, .ref q_t_divisor, .int t_sign, .int t_length])), (q_t_plus, .inl (cA, n_t_plus, .inl a_t_plus)), (q_t_minus, .inl (cA, n_t_minus, .inl a_t_minus)), (q_t_divisor, .inl (cA, n_t_divisor, .inl a_t_divisor)), (q_u, .inr (0, [.int u_room, .ref q_u_signs, .ref q_u_lengths, .ref q_u_limbs])), (q_u_signs, .inl (cA, n_u_signs, .inl a_u_signs)), (q_u_lengths, .inl (cA, n_u_lengths, .inl a_u_lengths)), (q_u_limbs, .inl (cA, n_u_limbs, .inl a_u_limbs))] sz)) 0 0 (va_A [(q_t, .inr (1, [.int t_room, .ref q_t_plus, .ref q_t_minus, .ref q_t_divisor, .int t_sign, .int t_length])), (q_t_plus, .inl (cA, n_t_plus, .inl a_t_plus)), (q_t_minus, .inl (cA, n_t_minus, .inl a_t_minus)), (q_t_divisor, .inl (cA, n_t_divisor, .inl a_t_divisor)), (q_u, .inr (0, [.int u_room, .ref q_u_signs, .ref q_u_lengths, .ref q_u_limbs])), (q_u_signs, .inl (cA, n_u_signs, .inl a_u_signs)), (q_u_lengths, .inl (cA, n_u_lengths, .inl a_u_lengths)), (q_u_limbs, .inl (cA, n_u_limbs, .inl a_u_limbs))] sz) := by
  unfold f_S_divideBy at hf
  refine k_ent (Qc := fun A => c_Qv (dC, dI) vwCl [(cA, .int)] [(q_t, .inr (1, [.int t_room, .ref q_t_plus, .ref q_t_minus, .ref q_t_divisor, .int o.1, .int o.2.1])), (q_t_plus, .inl (cA, n_t_plus, .inl o.2.2.1)), (q_t_minus, .inl (cA, n_t_minus, .inl a_t_minus)), (q_t_divisor, .inl (cA, n_t_divisor, .inl o.2.2.2)), (q_u, .inr (0, [.int u_room, .ref q_u_signs, .ref q_u_lengths, .ref q_u_limbs])), (q_u_signs, .inl (cA, n_u_signs, .inl a_u_signs)), (q_u_lengths, .inl (cA, n_u_lengths, .inl a_u_lengths)), (q_u_limbs, .inl (cA, n_u_limbs, .inl a_u_limbs))] A) (by decide) rfl (Nat.le_of_ble_eq_true rfl) ?_
  intro p e s m below meth c A hx hb hr hown hts hml hlocks hin hsz hA hK H locs hP hD hS ls hl
  have hown : s.vm.findClass RX1 = some m.cls := hown
  have hl : lv_has ls 6 [(0, .ref q_t), (1, .ref q_u), (2, .int slot)] := hl
  refine lv_aload_n hx hb dX1_divideBy_0 rfl (lv_at hl 1 rfl) ?_
  refine lv_iload_n hx hb dX1_divideBy_1 rfl (lv_at hl 2 rfl) ?_
  obtain ⟨x1, g2, hf⟩ := og_b hf
  refine kc_i (wr := [(q_t, .inr (1, [.int t_room, .ref q_t_plus, .ref q_t_minus, .ref q_t_divisor, .int t_sign, .int t_length])), (q_t_plus, .inl (cA, n_t_plus, .inl a_t_plus)), (q_t_minus, .inl (cA, n_t_minus, .inl a_t_minus)), (q_t_divisor, .inl (cA, n_t_divisor, .inl a_t_divisor))]) (w1 := [(q_u, .inr (0, [.int u_room, .ref q_u_signs, .ref q_u_lengths, .ref q_u_limbs])), (q_u_signs, .inl (cA, n_u_signs, .inl a_u_signs)), (q_u_lengths, .inl (cA, n_u_lengths, .inl a_u_lengths)), (q_u_limbs, .inl (cA, n_u_limbs, .inl a_u_limbs))]) [4, 5, 6, 7] [0, 1, 2, 3] (va_runV (As := [.int slot]) (rest := []) ⟨hx, hb, hml, hown, hts⟩ (c_N_lengthOf l dC dI cA H.size q_u q_u_signs q_u_lengths q_u_limbs u_room n_u_signs a_u_signs n_u_lengths a_u_lengths n_u_limbs a_u_limbs slot x1 g2) (cwV 1 hts gX1_divideBy_X0_lengthOf rfl rfl rfl (by decide +kernel) ⟨Nat.le_of_ble_eq_true rfl, Nat.le_of_ble_eq_true rfl⟩) (kc_preV hP hD hK [4, 5, 6, 7] rfl rfl (by decide) (ci := 0) (q0 := 4) rfl rfl) rfl rfl hl.1 rfl (lv_room (Nat.le_of_ble_eq_true rfl)) dX1_divideBy_2 ⟨Nat.le_of_ble_eq_true rfl, Nat.le_of_ble_eq_true rfl⟩) hP hD hS hA rfl rfl (by decide) (by decide) (fun H locs hP hD hS => ?_)
  have hP : va_P (dC, dI) vwCl [(q_t, .inr (1, [.int t_room, .ref q_t_plus, .ref q_t_minus, .ref q_t_divisor, .int t_sign, .int t_length])), (q_t_plus, .inl (cA, n_t_plus, .inl a_t_plus)), (q_t_minus, .inl (cA, n_t_minus, .inl a_t_minus)), (q_t_divisor, .inl (cA, n_t_divisor, .inl a_t_divisor)), (q_u, .inr (0, [.int u_room, .ref q_u_signs, .ref q_u_lengths, .ref q_u_limbs])), (q_u_signs, .inl (cA, n_u_signs, .inl a_u_signs)), (q_u_lengths, .inl (cA, n_u_lengths, .inl a_u_lengths)), (q_u_limbs, .inl (cA, n_u_limbs, .inl a_u_limbs))] H := hP
  have hD : va_D A [(q_t, .inr (1, [.int t_room, .ref q_t_plus, .ref q_t_minus, .ref q_t_divisor, .int t_sign, .int t_length])), (q_t_plus, .inl (cA, n_t_plus, .inl a_t_plus)), (q_t_minus, .inl (cA, n_t_minus, .inl a_t_minus)), (q_t_divisor, .inl (cA, n_t_divisor, .inl a_t_divisor)), (q_u, .inr (0, [.int u_room, .ref q_u_signs, .ref q_u_lengths, .ref q_u_limbs])), (q_u_signs, .inl (cA, n_u_signs, .inl a_u_signs)), (q_u_lengths, .inl (cA, n_u_lengths, .inl a_u_lengths)), (q_u_limbs, .inl (cA, n_u_limbs, .inl a_u_limbs))] := hD
  refine lv_istore_n (lv' := [(3, .int x1), (0, .ref q_t), (1, .ref q_u), (2, .int slot)]) hx hb dX1_divideBy_5 rfl hl (by decide) rfl (fun ls hl => ?_)
  refine lv_iload_n hx hb dX1_divideBy_6 rfl (lv_at hl 0 rfl) ?_
  refine lv_if_eq (tgt := 18) hx hb dX1_divideBy_7 (by decide) (fun c3 => ?_) (fun c3 => ?_)
  · have hf := og_t c3 hf
    have e9 := Option.some.inj hf
    subst e9
    exact kr_v hx hb hr hlocks hK hS (hP.sub [0, 1, 2, 3, 4, 5, 6, 7] rfl) (hD.sub [0, 1, 2, 3, 4, 5, 6, 7] (by decide) rfl) dX1_divideBy_18
  · have hf := og_f c3 hf
    refine lv_aload_n hx hb dX1_divideBy_10 rfl (lv_at hl 1 rfl) ?_
    refine va_get (D := (dC, dI)) (ci := 1) (v := .int t_length) (C := RX1) (T := TX1) (N := 6) hx hb hts ki_S_divideBy_X1 hown hK hP 0 rfl rfl 5 (by decide) (hts (.fieldLink RX1 34 "MinorSteps$Sum" "length" "I") kw_S_divideBy_0) (fun _ h9 => h9) rfl dX1_divideBy_11 ?_
    refine lv_iload_n hx hb dX1_divideBy_14 rfl (lv_at hl 0 rfl) ?_
    refine lv_icmp_ge (tgt := 19) hx hb dX1_divideBy_15 (by decide) (fun c4 => ?_) (fun c4 => ?_)
    · have hf := og_t c4 hf
      refine lv_iconst (v := 0) hx hb dX1_divideBy_19 (by decide) ?_
      refine lv_istore (lv' := [(4, .int 0), (3, .int x1), (0, .ref q_t), (1, .ref q_u), (2, .int slot)]) hx hb dX1_divideBy_20 hl (by decide) rfl (fun ls hl => ?_)
      obtain ⟨x17, g18, hf⟩ := og_b hf
      refine w_S_divideBy_L22 hx hb hown hts hml hA hK k q_t q_t_plus q_t_minus q_t_divisor q_u q_u_signs q_u_lengths q_u_limbs slot x1 t_room t_sign t_length n_t_plus a_t_plus n_t_minus a_t_minus n_t_divisor u_room n_u_signs a_u_signs n_u_lengths a_u_lengths n_u_limbs a_u_limbs k (0 : Int32) a_t_divisor _ g18 _ _ (hP.sub [0, 1, 2, 3, 4, 5, 6, 7] rfl) (hD.sub [0, 1, 2, 3, 4, 5, 6, 7] (by decide) rfl) hS _ (lv_sub hl [2, 3, 4, 1, 0] rfl) ?_
      intro H locs hP hD hS ls hl
      refine lv_aload_n hx hb dX1_divideBy_48 rfl (lv_at hl 0 rfl) ?_
      refine lv_iload_n hx hb dX1_divideBy_49 rfl (lv_at hl 3 rfl) ?_
      obtain ⟨x19, g20, hf⟩ := og_b hf
      refine kc_i (wr := [(q_u, .inr (0, [.int u_room, .ref q_u_signs, .ref q_u_lengths, .ref q_u_limbs])), (q_u_signs, .inl (cA, n_u_signs, .inl a_u_signs)), (q_u_lengths, .inl (cA, n_u_lengths, .inl a_u_lengths)), (q_u_limbs, .inl (cA, n_u_limbs, .inl a_u_limbs))]) (w1 := [(q_t, .inr (1, [.int t_room, .ref q_t_plus, .ref q_t_minus, .ref q_t_divisor, .int t_sign, .int t_length])), (q_t_plus, .inl (cA, n_t_plus, .inl a_t_plus)), (q_t_minus, .inl (cA, n_t_minus, .inl a_t_minus)), (q_t_divisor, .inl (cA, n_t_divisor, .inl x17.2))]) [0, 1, 2, 3] [4, 5, 6, 7] (va_runV (As := [.int x1]) (rest := []) ⟨hx, hb, hml, hown, hts⟩ (c_S_countZeroLimbs l dC dI cA H.size q_t q_t_plus q_t_minus q_t_divisor k t_room t_sign t_length n_t_plus a_t_plus n_t_minus a_t_minus n_t_divisor x17.2 x1 x19 g20) (cwV 1 hts gX1_divideBy_X1_countZeroLimbs rfl rfl rfl (by decide +kernel) ⟨Nat.le_of_ble_eq_true rfl, Nat.le_of_ble_eq_true rfl⟩) (kc_preV hP hD hK [0, 1, 2, 3] rfl rfl (by decide) (ci := 1) (q0 := 0) rfl rfl) rfl rfl hl.1 rfl (lv_room (Nat.le_of_ble_eq_true rfl)) dX1_divideBy_50 ⟨Nat.le_of_ble_eq_true rfl, Nat.le_of_ble_eq_true rfl⟩) hP hD hS hA rfl rfl (by decide) (by decide) (fun H locs hP hD hS => ?_)
      have hP : va_P (dC, dI) vwCl [(q_u, .inr (0, [.int u_room, .ref q_u_signs, .ref q_u_lengths, .ref q_u_limbs])), (q_u_signs, .inl (cA, n_u_signs, .inl a_u_signs)), (q_u_lengths, .inl (cA, n_u_lengths, .inl a_u_lengths)), (q_u_limbs, .inl (cA, n_u_limbs, .inl a_u_limbs)), (q_t, .inr (1, [.int t_room, .ref q_t_plus, .ref q_t_minus, .ref q_t_divisor, .int t_sign, .int t_length])), (q_t_plus, .inl (cA, n_t_plus, .inl a_t_plus)), (q_t_minus, .inl (cA, n_t_minus, .inl a_t_minus)), (q_t_divisor, .inl (cA, n_t_divisor, .inl x17.2))] H := hP
      have hD : va_D A [(q_u, .inr (0, [.int u_room, .ref q_u_signs, .ref q_u_lengths, .ref q_u_limbs])), (q_u_signs, .inl (cA, n_u_signs, .inl a_u_signs)), (q_u_lengths, .inl (cA, n_u_lengths, .inl a_u_lengths)), (q_u_limbs, .inl (cA, n_u_limbs, .inl a_u_limbs)), (q_t, .inr (1, [.int t_room, .ref q_t_plus, .ref q_t_minus, .ref q_t_divisor, .int t_sign, .int t_length])), (q_t_plus, .inl (cA, n_t_plus, .inl a_t_plus)), (q_t_minus, .inl (cA, n_t_minus, .inl a_t_minus)), (q_t_divisor, .inl (cA, n_t_divisor, .inl x17.2))] := hD
      refine lv_istore (lv' := [(4, .int x19), (0, .ref q_t), (1, .ref q_u), (2, .int slot), (3, .int x1)]) hx hb dX1_divideBy_53 hl (by decide) rfl (fun ls hl => ?_)
      refine lv_aload_n hx hb dX1_divideBy_55 rfl (lv_at hl 1 rfl) ?_
      refine va_get (D := (dC, dI)) (ci := 1) (v := .ref q_t_divisor) (C := RX1) (T := TX1) (N := 6) hx hb hts ki_S_divideBy_X1 hown hK hP 4 rfl rfl 3 (by decide) (hts (.fieldLink RX1 22 "MinorSteps$Sum" "divisor" "[I") kw_S_divideBy_1) (fun _ h9 => h9) rfl dX1_divideBy_56 ?_
      refine lv_iload hx hb dX1_divideBy_59 (lv_at hl 0 rfl) ?_
      obtain ⟨g21, hf⟩ := og_c hf
      refine va_iald hx hb hK hP 7 0 rfl rfl (og_in g21) dX1_divideBy_61 ?_
      obtain ⟨x22, g23, hf⟩ := og_b hf
      refine kc_i (wr := [(q_u, .inr (0, [.int u_room, .ref q_u_signs, .ref q_u_lengths, .ref q_u_limbs])), (q_u_signs, .inl (cA, n_u_signs, .inl a_u_signs)), (q_u_lengths, .inl (cA, n_u_lengths, .inl a_u_lengths)), (q_u_limbs, .inl (cA, n_u_limbs, .inl a_u_limbs)), (q_t, .inr (1, [.int t_room, .ref q_t_plus, .ref q_t_minus, .ref q_t_divisor, .int t_sign, .int t_length])), (q_t_plus, .inl (cA, n_t_plus, .inl a_t_plus)), (q_t_minus, .inl (cA, n_t_minus, .inl a_t_minus)), (q_t_divisor, .inl (cA, n_t_divisor, .inl x17.2))]) (w1 := []) [] [0, 1, 2, 3, 4, 5, 6, 7] (va_runS (As := [.int (x17.2 x19.toNatClampNeg)]) (rest := []) ⟨hx, hb, hml, hown, hts⟩ (c_S_countZeroBits l dC dI cA H.size  k (x17.2 x19.toNatClampNeg) x22 g23) (va_cwS 1 hts gX1_divideBy_X1_countZeroBits rfl rfl rfl (by decide +kernel) ⟨Nat.le_of_ble_eq_true rfl, Nat.le_of_ble_eq_true rfl⟩) (kc_preS hP hD hK [] rfl rfl (by decide)) rfl rfl hl.1 rfl (lv_room (Nat.le_of_ble_eq_true rfl)) dX1_divideBy_62 ⟨Nat.le_of_ble_eq_true rfl, Nat.le_of_ble_eq_true rfl⟩) hP hD hS hA rfl rfl (by decide) (by decide) (fun H locs hP hD hS => ?_)
      have hP : va_P (dC, dI) vwCl [(q_u, .inr (0, [.int u_room, .ref q_u_signs, .ref q_u_lengths, .ref q_u_limbs])), (q_u_signs, .inl (cA, n_u_signs, .inl a_u_signs)), (q_u_lengths, .inl (cA, n_u_lengths, .inl a_u_lengths)), (q_u_limbs, .inl (cA, n_u_limbs, .inl a_u_limbs)), (q_t, .inr (1, [.int t_room, .ref q_t_plus, .ref q_t_minus, .ref q_t_divisor, .int t_sign, .int t_length])), (q_t_plus, .inl (cA, n_t_plus, .inl a_t_plus)), (q_t_minus, .inl (cA, n_t_minus, .inl a_t_minus)), (q_t_divisor, .inl (cA, n_t_divisor, .inl x17.2))] H := hP
      have hD : va_D A [(q_u, .inr (0, [.int u_room, .ref q_u_signs, .ref q_u_lengths, .ref q_u_limbs])), (q_u_signs, .inl (cA, n_u_signs, .inl a_u_signs)), (q_u_lengths, .inl (cA, n_u_lengths, .inl a_u_lengths)), (q_u_limbs, .inl (cA, n_u_limbs, .inl a_u_limbs)), (q_t, .inr (1, [.int t_room, .ref q_t_plus, .ref q_t_minus, .ref q_t_divisor, .int t_sign, .int t_length])), (q_t_plus, .inl (cA, n_t_plus, .inl a_t_plus)), (q_t_minus, .inl (cA, n_t_minus, .inl a_t_minus)), (q_t_divisor, .inl (cA, n_t_divisor, .inl x17.2))] := hD
      refine lv_istore (lv' := [(5, .int x22), (4, .int x19), (0, .ref q_t), (1, .ref q_u), (2, .int slot), (3, .int x1)]) hx hb dX1_divideBy_65 hl (by decide) rfl (fun ls hl => ?_)
      refine lv_aload_n hx hb dX1_divideBy_67 rfl (lv_at hl 2 rfl) ?_
      refine va_get (D := (dC, dI)) (ci := 1) (v := .ref q_t_divisor) (C := RX1) (T := TX1) (N := 6) hx hb hts ki_S_divideBy_X1 hown hK hP 4 rfl rfl 3 (by decide) (hts (.fieldLink RX1 22 "MinorSteps$Sum" "divisor" "[I") kw_S_divideBy_1) (fun _ h9 => h9) rfl dX1_divideBy_68 ?_
      refine lv_iload_n hx hb dX1_divideBy_71 rfl (lv_at hl 5 rfl) ?_
      refine lv_iload hx hb dX1_divideBy_72 (lv_at hl 1 rfl) ?_
      refine lv_iload hx hb dX1_divideBy_74 (lv_at hl 0 rfl) ?_
      obtain ⟨x24, g25, hf⟩ := og_b hf
      refine kc_v (wr := [(q_u, .inr (0, [.int u_room, .ref q_u_signs, .ref q_u_lengths, .ref q_u_limbs])), (q_u_signs, .inl (cA, n_u_signs, .inl a_u_signs)), (q_u_lengths, .inl (cA, n_u_lengths, .inl a_u_lengths)), (q_u_limbs, .inl (cA, n_u_limbs, .inl a_u_limbs)), (q_t, .inr (1, [.int t_room, .ref q_t_plus, .ref q_t_minus, .ref q_t_divisor, .int t_sign, .int t_length])), (q_t_plus, .inl (cA, n_t_plus, .inl a_t_plus)), (q_t_minus, .inl (cA, n_t_minus, .inl a_t_minus))]) (w1 := [(q_t_divisor, .inl (cA, n_t_divisor, .inl x24))]) [7] [0, 1, 2, 3, 4, 5, 6] (va_runS (As := [.ref q_t_divisor, .int x1, .int x19, .int x22]) (rest := []) ⟨hx, hb, hml, hown, hts⟩ (c_S_shiftDown l dC dI cA H.size q_t_divisor k n_t_divisor x17.2 x1 x19 x22 x24 g25) (va_cwS 4 hts gX1_divideBy_X1_shiftDown rfl rfl rfl (by decide +kernel) ⟨Nat.le_of_ble_eq_true rfl, Nat.le_of_ble_eq_true rfl⟩) (kc_preS hP hD hK [7] rfl rfl (by decide)) rfl rfl hl.1 rfl (lv_room (Nat.le_of_ble_eq_true rfl)) dX1_divideBy_76 ⟨Nat.le_of_ble_eq_true rfl, Nat.le_of_ble_eq_true rfl⟩) hP hD hS hA rfl rfl (by decide) (by decide) (fun H locs hP hD hS => ?_)
      have hP : va_P (dC, dI) vwCl [(q_u, .inr (0, [.int u_room, .ref q_u_signs, .ref q_u_lengths, .ref q_u_limbs])), (q_u_signs, .inl (cA, n_u_signs, .inl a_u_signs)), (q_u_lengths, .inl (cA, n_u_lengths, .inl a_u_lengths)), (q_u_limbs, .inl (cA, n_u_limbs, .inl a_u_limbs)), (q_t, .inr (1, [.int t_room, .ref q_t_plus, .ref q_t_minus, .ref q_t_divisor, .int t_sign, .int t_length])), (q_t_plus, .inl (cA, n_t_plus, .inl a_t_plus)), (q_t_minus, .inl (cA, n_t_minus, .inl a_t_minus)), (q_t_divisor, .inl (cA, n_t_divisor, .inl x24))] H := hP
      have hD : va_D A [(q_u, .inr (0, [.int u_room, .ref q_u_signs, .ref q_u_lengths, .ref q_u_limbs])), (q_u_signs, .inl (cA, n_u_signs, .inl a_u_signs)), (q_u_lengths, .inl (cA, n_u_lengths, .inl a_u_lengths)), (q_u_limbs, .inl (cA, n_u_limbs, .inl a_u_limbs)), (q_t, .inr (1, [.int t_room, .ref q_t_plus, .ref q_t_minus, .ref q_t_divisor, .int t_sign, .int t_length])), (q_t_plus, .inl (cA, n_t_plus, .inl a_t_plus)), (q_t_minus, .inl (cA, n_t_minus, .inl a_t_minus)), (q_t_divisor, .inl (cA, n_t_divisor, .inl x24))] := hD
      refine lv_aload_n hx hb dX1_divideBy_79 rfl (lv_at hl 2 rfl) ?_
      refine va_get (D := (dC, dI)) (ci := 1) (v := .ref q_t_plus) (C := RX1) (T := TX1) (N := 6) hx hb hts ki_S_divideBy_X1 hown hK hP 4 rfl rfl 1 (by decide) (hts (.fieldLink RX1 15 "MinorSteps$Sum" "plus" "[I") kw_S_divideBy_2) (fun _ h9 => h9) rfl dX1_divideBy_80 ?_
      refine lv_aload_n hx hb dX1_divideBy_83 rfl (lv_at hl 2 rfl) ?_
      refine va_get (D := (dC, dI)) (ci := 1) (v := .int t_length) (C := RX1) (T := TX1) (N := 6) hx hb hts ki_S_divideBy_X1 hown hK hP 4 rfl rfl 5 (by decide) (hts (.fieldLink RX1 34 "MinorSteps$Sum" "length" "I") kw_S_divideBy_0) (fun _ h9 => h9) rfl dX1_divideBy_84 ?_
      refine lv_iload hx hb dX1_divideBy_87 (lv_at hl 1 rfl) ?_
      refine lv_iload hx hb dX1_divideBy_89 (lv_at hl 0 rfl) ?_
      obtain ⟨x26, g27, hf⟩ := og_b hf
      refine kc_v (wr := [(q_u, .inr (0, [.int u_room, .ref q_u_signs, .ref q_u_lengths, .ref q_u_limbs])), (q_u_signs, .inl (cA, n_u_signs, .inl a_u_signs)), (q_u_lengths, .inl (cA, n_u_lengths, .inl a_u_lengths)), (q_u_limbs, .inl (cA, n_u_limbs, .inl a_u_limbs)), (q_t, .inr (1, [.int t_room, .ref q_t_plus, .ref q_t_minus, .ref q_t_divisor, .int t_sign, .int t_length])), (q_t_minus, .inl (cA, n_t_minus, .inl a_t_minus)), (q_t_divisor, .inl (cA, n_t_divisor, .inl x24))]) (w1 := [(q_t_plus, .inl (cA, n_t_plus, .inl x26))]) [5] [0, 1, 2, 3, 4, 6, 7] (va_runS (As := [.ref q_t_plus, .int t_length, .int x19, .int x22]) (rest := []) ⟨hx, hb, hml, hown, hts⟩ (c_S_shiftDown l dC dI cA H.size q_t_plus k n_t_plus a_t_plus t_length x19 x22 x26 g27) (va_cwS 4 hts gX1_divideBy_X1_shiftDown rfl rfl rfl (by decide +kernel) ⟨Nat.le_of_ble_eq_true rfl, Nat.le_of_ble_eq_true rfl⟩) (kc_preS hP hD hK [5] rfl rfl (by decide)) rfl rfl hl.1 rfl (lv_room (Nat.le_of_ble_eq_true rfl)) dX1_divideBy_91 ⟨Nat.le_of_ble_eq_true rfl, Nat.le_of_ble_eq_true rfl⟩) hP hD hS hA rfl rfl (by decide) (by decide) (fun H locs hP hD hS => ?_)
      have hP : va_P (dC, dI) vwCl [(q_u, .inr (0, [.int u_room, .ref q_u_signs, .ref q_u_lengths, .ref q_u_limbs])), (q_u_signs, .inl (cA, n_u_signs, .inl a_u_signs)), (q_u_lengths, .inl (cA, n_u_lengths, .inl a_u_lengths)), (q_u_limbs, .inl (cA, n_u_limbs, .inl a_u_limbs)), (q_t, .inr (1, [.int t_room, .ref q_t_plus, .ref q_t_minus, .ref q_t_divisor, .int t_sign, .int t_length])), (q_t_minus, .inl (cA, n_t_minus, .inl a_t_minus)), (q_t_divisor, .inl (cA, n_t_divisor, .inl x24)), (q_t_plus, .inl (cA, n_t_plus, .inl x26))] H := hP
      have hD : va_D A [(q_u, .inr (0, [.int u_room, .ref q_u_signs, .ref q_u_lengths, .ref q_u_limbs])), (q_u_signs, .inl (cA, n_u_signs, .inl a_u_signs)), (q_u_lengths, .inl (cA, n_u_lengths, .inl a_u_lengths)), (q_u_limbs, .inl (cA, n_u_limbs, .inl a_u_limbs)), (q_t, .inr (1, [.int t_room, .ref q_t_plus, .ref q_t_minus, .ref q_t_divisor, .int t_sign, .int t_length])), (q_t_minus, .inl (cA, n_t_minus, .inl a_t_minus)), (q_t_divisor, .inl (cA, n_t_divisor, .inl x24)), (q_t_plus, .inl (cA, n_t_plus, .inl x26))] := hD
      refine lv_aload_n hx hb dX1_divideBy_94 rfl (lv_at hl 2 rfl) ?_
      refine lv_aload_n hx hb dX1_divideBy_95 rfl (lv_at hl 2 rfl) ?_
      refine va_get (D := (dC, dI)) (ci := 1) (v := .ref q_t_divisor) (C := RX1) (T := TX1) (N := 6) hx hb hts ki_S_divideBy_X1 hown hK hP 4 rfl rfl 3 (by decide) (hts (.fieldLink RX1 22 "MinorSteps$Sum" "divisor" "[I") kw_S_divideBy_1) (fun _ h9 => h9) rfl dX1_divideBy_96 ?_
      refine lv_iload_n hx hb dX1_divideBy_99 rfl (lv_at hl 5 rfl) ?_
      obtain ⟨x28, g29, hf⟩ := og_b hf
      refine kc_i (wr := [(q_u, .inr (0, [.int u_room, .ref q_u_signs, .ref q_u_lengths, .ref q_u_limbs])), (q_u_signs, .inl (cA, n_u_signs, .inl a_u_signs)), (q_u_lengths, .inl (cA, n_u_lengths, .inl a_u_lengths)), (q_u_limbs, .inl (cA, n_u_limbs, .inl a_u_limbs)), (q_t, .inr (1, [.int t_room, .ref q_t_plus, .ref q_t_minus, .ref q_t_divisor, .int t_sign, .int t_length])), (q_t_minus, .inl (cA, n_t_minus, .inl a_t_minus)), (q_t_plus, .inl (cA, n_t_plus, .inl x26))]) (w1 := [(q_t_divisor, .inl (cA, n_t_divisor, .inl x24))]) [6] [0, 1, 2, 3, 4, 5, 7] (va_runS (As := [.ref q_t_divisor, .int x1]) (rest := [.ref q_t]) ⟨hx, hb, hml, hown, hts⟩ (c_S_trimmed l dC dI cA H.size q_t_divisor k n_t_divisor x24 x1 x28 g29) (va_cwS 2 hts gX1_divideBy_X1_trimmed rfl rfl rfl (by decide +kernel) ⟨Nat.le_of_ble_eq_true rfl, Nat.le_of_ble_eq_true rfl⟩) (kc_preS hP hD hK [6] rfl rfl (by decide)) rfl rfl hl.1 rfl (lv_room (Nat.le_of_ble_eq_true rfl)) dX1_divideBy_100 ⟨Nat.le_of_ble_eq_true rfl, Nat.le_of_ble_eq_true rfl⟩) hP hD hS hA rfl rfl (by decide) (by decide) (fun H locs hP hD hS => ?_)
      have hP : va_P (dC, dI) vwCl [(q_u, .inr (0, [.int u_room, .ref q_u_signs, .ref q_u_lengths, .ref q_u_limbs])), (q_u_signs, .inl (cA, n_u_signs, .inl a_u_signs)), (q_u_lengths, .inl (cA, n_u_lengths, .inl a_u_lengths)), (q_u_limbs, .inl (cA, n_u_limbs, .inl a_u_limbs)), (q_t, .inr (1, [.int t_room, .ref q_t_plus, .ref q_t_minus, .ref q_t_divisor, .int t_sign, .int t_length])), (q_t_minus, .inl (cA, n_t_minus, .inl a_t_minus)), (q_t_plus, .inl (cA, n_t_plus, .inl x26)), (q_t_divisor, .inl (cA, n_t_divisor, .inl x24))] H := hP
      have hD : va_D A [(q_u, .inr (0, [.int u_room, .ref q_u_signs, .ref q_u_lengths, .ref q_u_limbs])), (q_u_signs, .inl (cA, n_u_signs, .inl a_u_signs)), (q_u_lengths, .inl (cA, n_u_lengths, .inl a_u_lengths)), (q_u_limbs, .inl (cA, n_u_limbs, .inl a_u_limbs)), (q_t, .inr (1, [.int t_room, .ref q_t_plus, .ref q_t_minus, .ref q_t_divisor, .int t_sign, .int t_length])), (q_t_minus, .inl (cA, n_t_minus, .inl a_t_minus)), (q_t_plus, .inl (cA, n_t_plus, .inl x26)), (q_t_divisor, .inl (cA, n_t_divisor, .inl x24))] := hD
      refine lv_aload_n hx hb dX1_divideBy_103 rfl (lv_at hl 2 rfl) ?_
      refine va_get (D := (dC, dI)) (ci := 1) (v := .ref q_t_plus) (C := RX1) (T := TX1) (N := 6) hx hb hts ki_S_divideBy_X1 hown hK hP 4 rfl rfl 1 (by decide) (hts (.fieldLink RX1 15 "MinorSteps$Sum" "plus" "[I") kw_S_divideBy_2) (fun _ h9 => h9) rfl dX1_divideBy_104 ?_
      refine lv_aload_n hx hb dX1_divideBy_107 rfl (lv_at hl 2 rfl) ?_
      refine va_get (D := (dC, dI)) (ci := 1) (v := .int t_length) (C := RX1) (T := TX1) (N := 6) hx hb hts ki_S_divideBy_X1 hown hK hP 4 rfl rfl 5 (by decide) (hts (.fieldLink RX1 34 "MinorSteps$Sum" "length" "I") kw_S_divideBy_0) (fun _ h9 => h9) rfl dX1_divideBy_108 ?_
      obtain ⟨x30, g31, hf⟩ := og_b hf
      refine kc_i (wr := [(q_u, .inr (0, [.int u_room, .ref q_u_signs, .ref q_u_lengths, .ref q_u_limbs])), (q_u_signs, .inl (cA, n_u_signs, .inl a_u_signs)), (q_u_lengths, .inl (cA, n_u_lengths, .inl a_u_lengths)), (q_u_limbs, .inl (cA, n_u_limbs, .inl a_u_limbs)), (q_t, .inr (1, [.int t_room, .ref q_t_plus, .ref q_t_minus, .ref q_t_divisor, .int t_sign, .int t_length])), (q_t_minus, .inl (cA, n_t_minus, .inl a_t_minus)), (q_t_divisor, .inl (cA, n_t_divisor, .inl x24))]) (w1 := [(q_t_plus, .inl (cA, n_t_plus, .inl x26))]) [6] [0, 1, 2, 3, 4, 5, 7] (va_runS (As := [.ref q_t_plus, .int t_length]) (rest := [.int x28, .ref q_t]) ⟨hx, hb, hml, hown, hts⟩ (c_S_trimmed l dC dI cA H.size q_t_plus k n_t_plus x26 t_length x30 g31) (va_cwS 2 hts gX1_divideBy_X1_trimmed rfl rfl rfl (by decide +kernel) ⟨Nat.le_of_ble_eq_true rfl, Nat.le_of_ble_eq_true rfl⟩) (kc_preS hP hD hK [6] rfl rfl (by decide)) rfl rfl hl.1 rfl (lv_room (Nat.le_of_ble_eq_true rfl)) dX1_divideBy_111 ⟨Nat.le_of_ble_eq_true rfl, Nat.le_of_ble_eq_true rfl⟩) hP hD hS hA rfl rfl (by decide) (by decide) (fun H locs hP hD hS => ?_)
      have hP : va_P (dC, dI) vwCl [(q_u, .inr (0, [.int u_room, .ref q_u_signs, .ref q_u_lengths, .ref q_u_limbs])), (q_u_signs, .inl (cA, n_u_signs, .inl a_u_signs)), (q_u_lengths, .inl (cA, n_u_lengths, .inl a_u_lengths)), (q_u_limbs, .inl (cA, n_u_limbs, .inl a_u_limbs)), (q_t, .inr (1, [.int t_room, .ref q_t_plus, .ref q_t_minus, .ref q_t_divisor, .int t_sign, .int t_length])), (q_t_minus, .inl (cA, n_t_minus, .inl a_t_minus)), (q_t_divisor, .inl (cA, n_t_divisor, .inl x24)), (q_t_plus, .inl (cA, n_t_plus, .inl x26))] H := hP
      have hD : va_D A [(q_u, .inr (0, [.int u_room, .ref q_u_signs, .ref q_u_lengths, .ref q_u_limbs])), (q_u_signs, .inl (cA, n_u_signs, .inl a_u_signs)), (q_u_lengths, .inl (cA, n_u_lengths, .inl a_u_lengths)), (q_u_limbs, .inl (cA, n_u_limbs, .inl a_u_limbs)), (q_t, .inr (1, [.int t_room, .ref q_t_plus, .ref q_t_minus, .ref q_t_divisor, .int t_sign, .int t_length])), (q_t_minus, .inl (cA, n_t_minus, .inl a_t_minus)), (q_t_divisor, .inl (cA, n_t_divisor, .inl x24)), (q_t_plus, .inl (cA, n_t_plus, .inl x26))] := hD
      obtain ⟨x32, g33, hf⟩ := og_b hf
      refine kc_v (wr := [(q_u, .inr (0, [.int u_room, .ref q_u_signs, .ref q_u_lengths, .ref q_u_limbs])), (q_u_signs, .inl (cA, n_u_signs, .inl a_u_signs)), (q_u_lengths, .inl (cA, n_u_lengths, .inl a_u_lengths)), (q_u_limbs, .inl (cA, n_u_limbs, .inl a_u_limbs))]) (w1 := [(q_t, .inr (1, [.int t_room, .ref q_t_plus, .ref q_t_minus, .ref q_t_divisor, .int t_sign, .int x32.1])), (q_t_plus, .inl (cA, n_t_plus, .inl x32.2)), (q_t_minus, .inl (cA, n_t_minus, .inl a_t_minus)), (q_t_divisor, .inl (cA, n_t_divisor, .inl x24))]) [4, 7, 5, 6] [0, 1, 2, 3] (va_runV (As := [.int x28, .int x30]) (rest := []) ⟨hx, hb, hml, hown, hts⟩ (c_S_divideByOdd l dC dI cA H.size q_t q_t_plus q_t_minus q_t_divisor k t_room t_sign t_length n_t_plus x26 n_t_minus a_t_minus n_t_divisor x24 x28 x30 x32 g33) (cwV 2 hts gX1_divideBy_X1_divideByOdd rfl rfl rfl (by decide +kernel) ⟨Nat.le_of_ble_eq_true rfl, Nat.le_of_ble_eq_true rfl⟩) (kc_preV hP hD hK [4, 7, 5, 6] rfl rfl (by decide) (ci := 1) (q0 := 4) rfl rfl) rfl rfl hl.1 rfl (lv_room (Nat.le_of_ble_eq_true rfl)) dX1_divideBy_114 ⟨Nat.le_of_ble_eq_true rfl, Nat.le_of_ble_eq_true rfl⟩) hP hD hS hA rfl rfl (by decide) (by decide) (fun H locs hP hD hS => ?_)
      have hP : va_P (dC, dI) vwCl [(q_u, .inr (0, [.int u_room, .ref q_u_signs, .ref q_u_lengths, .ref q_u_limbs])), (q_u_signs, .inl (cA, n_u_signs, .inl a_u_signs)), (q_u_lengths, .inl (cA, n_u_lengths, .inl a_u_lengths)), (q_u_limbs, .inl (cA, n_u_limbs, .inl a_u_limbs)), (q_t, .inr (1, [.int t_room, .ref q_t_plus, .ref q_t_minus, .ref q_t_divisor, .int t_sign, .int x32.1])), (q_t_plus, .inl (cA, n_t_plus, .inl x32.2)), (q_t_minus, .inl (cA, n_t_minus, .inl a_t_minus)), (q_t_divisor, .inl (cA, n_t_divisor, .inl x24))] H := hP
      have hD : va_D A [(q_u, .inr (0, [.int u_room, .ref q_u_signs, .ref q_u_lengths, .ref q_u_limbs])), (q_u_signs, .inl (cA, n_u_signs, .inl a_u_signs)), (q_u_lengths, .inl (cA, n_u_lengths, .inl a_u_lengths)), (q_u_limbs, .inl (cA, n_u_limbs, .inl a_u_limbs)), (q_t, .inr (1, [.int t_room, .ref q_t_plus, .ref q_t_minus, .ref q_t_divisor, .int t_sign, .int x32.1])), (q_t_plus, .inl (cA, n_t_plus, .inl x32.2)), (q_t_minus, .inl (cA, n_t_minus, .inl a_t_minus)), (q_t_divisor, .inl (cA, n_t_divisor, .inl x24))] := hD
      refine lv_aload_n hx hb dX1_divideBy_117 rfl (lv_at hl 2 rfl) ?_
      refine lv_dup hx hb dX1_divideBy_118 rfl ?_
      refine va_get (D := (dC, dI)) (ci := 1) (v := .int t_sign) (C := RX1) (T := TX1) (N := 6) hx hb hts ki_S_divideBy_X1 hown hK hP 4 rfl rfl 4 (by decide) (hts (.fieldLink RX1 31 "MinorSteps$Sum" "sign" "I") kw_S_divideBy_3) (fun _ h9 => h9) rfl dX1_divideBy_119 ?_
      refine lv_aload_n hx hb dX1_divideBy_122 rfl (lv_at hl 3 rfl) ?_
      refine lv_iload_n hx hb dX1_divideBy_123 rfl (lv_at hl 4 rfl) ?_
      obtain ⟨x34, g35, hf⟩ := og_b hf
      refine kc_i (wr := [(q_t, .inr (1, [.int t_room, .ref q_t_plus, .ref q_t_minus, .ref q_t_divisor, .int t_sign, .int x32.1])), (q_t_plus, .inl (cA, n_t_plus, .inl x32.2)), (q_t_minus, .inl (cA, n_t_minus, .inl a_t_minus)), (q_t_divisor, .inl (cA, n_t_divisor, .inl x24))]) (w1 := [(q_u, .inr (0, [.int u_room, .ref q_u_signs, .ref q_u_lengths, .ref q_u_limbs])), (q_u_signs, .inl (cA, n_u_signs, .inl a_u_signs)), (q_u_lengths, .inl (cA, n_u_lengths, .inl a_u_lengths)), (q_u_limbs, .inl (cA, n_u_limbs, .inl a_u_limbs))]) [0, 1, 2, 3] [4, 5, 6, 7] (va_runV (As := [.int slot]) (rest := [.int t_sign, .ref q_t]) ⟨hx, hb, hml, hown, hts⟩ (c_N_signOf l dC dI cA H.size q_u q_u_signs q_u_lengths q_u_limbs u_room n_u_signs a_u_signs n_u_lengths a_u_lengths n_u_limbs a_u_limbs slot x34 g35) (cwV 1 hts gX1_divideBy_X0_signOf rfl rfl rfl (by decide +kernel) ⟨Nat.le_of_ble_eq_true rfl, Nat.le_of_ble_eq_true rfl⟩) (kc_preV hP hD hK [0, 1, 2, 3] rfl rfl (by decide) (ci := 0) (q0 := 0) rfl rfl) rfl rfl hl.1 rfl (lv_room (Nat.le_of_ble_eq_true rfl)) dX1_divideBy_124 ⟨Nat.le_of_ble_eq_true rfl, Nat.le_of_ble_eq_true rfl⟩) hP hD hS hA rfl rfl (by decide) (by decide) (fun H locs hP hD hS => ?_)
      have hP : va_P (dC, dI) vwCl [(q_t, .inr (1, [.int t_room, .ref q_t_plus, .ref q_t_minus, .ref q_t_divisor, .int t_sign, .int x32.1])), (q_t_plus, .inl (cA, n_t_plus, .inl x32.2)), (q_t_minus, .inl (cA, n_t_minus, .inl a_t_minus)), (q_t_divisor, .inl (cA, n_t_divisor, .inl x24)), (q_u, .inr (0, [.int u_room, .ref q_u_signs, .ref q_u_lengths, .ref q_u_limbs])), (q_u_signs, .inl (cA, n_u_signs, .inl a_u_signs)), (q_u_lengths, .inl (cA, n_u_lengths, .inl a_u_lengths)), (q_u_limbs, .inl (cA, n_u_limbs, .inl a_u_limbs))] H := hP
      have hD : va_D A [(q_t, .inr (1, [.int t_room, .ref q_t_plus, .ref q_t_minus, .ref q_t_divisor, .int t_sign, .int x32.1])), (q_t_plus, .inl (cA, n_t_plus, .inl x32.2)), (q_t_minus, .inl (cA, n_t_minus, .inl a_t_minus)), (q_t_divisor, .inl (cA, n_t_divisor, .inl x24)), (q_u, .inr (0, [.int u_room, .ref q_u_signs, .ref q_u_lengths, .ref q_u_limbs])), (q_u_signs, .inl (cA, n_u_signs, .inl a_u_signs)), (q_u_lengths, .inl (cA, n_u_lengths, .inl a_u_lengths)), (q_u_limbs, .inl (cA, n_u_limbs, .inl a_u_limbs))] := hD
      refine lv_imul hx hb dX1_divideBy_127 ?_
      refine va_put (D := (dC, dI)) (ci := 1) (v := .int (t_sign * x34)) (ty := .int) (C := RX1) (T := TX1) (N := 6) hx hb hts ki_S_divideBy_X1 tyX1 tyX1_ok nmX1 hown hK hP hD hS 0 rfl rfl 4 (by decide) (hts (.fieldLink RX1 31 "MinorSteps$Sum" "sign" "I") kw_S_divideBy_3) (fun _ h9 => h9) rfl (by decide +kernel) rfl rfl (Nat.le_of_ble_eq_true rfl) dX1_divideBy_128 (fun H locs hP hD hS => ?_)
      have hP : va_P (dC, dI) vwCl [(q_t, .inr (1, [.int t_room, .ref q_t_plus, .ref q_t_minus, .ref q_t_divisor, .int (t_sign * x34), .int x32.1])), (q_t_plus, .inl (cA, n_t_plus, .inl x32.2)), (q_t_minus, .inl (cA, n_t_minus, .inl a_t_minus)), (q_t_divisor, .inl (cA, n_t_divisor, .inl x24)), (q_u, .inr (0, [.int u_room, .ref q_u_signs, .ref q_u_lengths, .ref q_u_limbs])), (q_u_signs, .inl (cA, n_u_signs, .inl a_u_signs)), (q_u_lengths, .inl (cA, n_u_lengths, .inl a_u_lengths)), (q_u_limbs, .inl (cA, n_u_limbs, .inl a_u_limbs))] H := hP
      have hD : va_D A [(q_t, .inr (1, [.int t_room, .ref q_t_plus, .ref q_t_minus, .ref q_t_divisor, .int (t_sign * x34), .int x32.1])), (q_t_plus, .inl (cA, n_t_plus, .inl x32.2)), (q_t_minus, .inl (cA, n_t_minus, .inl a_t_minus)), (q_t_divisor, .inl (cA, n_t_divisor, .inl x24)), (q_u, .inr (0, [.int u_room, .ref q_u_signs, .ref q_u_lengths, .ref q_u_limbs])), (q_u_signs, .inl (cA, n_u_signs, .inl a_u_signs)), (q_u_lengths, .inl (cA, n_u_lengths, .inl a_u_lengths)), (q_u_limbs, .inl (cA, n_u_limbs, .inl a_u_limbs))] := hD
      have e9 := Option.some.inj hf
      subst e9
      exact kr_v hx hb hr hlocks hK hS (hP.sub [0, 1, 2, 3, 4, 5, 6, 7] rfl) (hD.sub [0, 1, 2, 3, 4, 5, 6, 7] (by decide) rfl) dX1_divideBy_131
    · have hf := og_f c4 hf
      have e9 := Option.some.inj hf
      subst e9
      exact kr_v hx hb hr hlocks hK hS (hP.sub [0, 1, 2, 3, 4, 5, 6, 7] rfl) (hD.sub [0, 1, 2, 3, 4, 5, 6, 7] (by decide) rfl) dX1_divideBy_18
def rm_S_storeIn : Room := { frames := 2, cells := 0, slots := 0, locals := 84 }
theorem kw_S_storeIn_0 : (.fieldLink RX1 34 "MinorSteps$Sum" "length" "I" : Cond) ∈ wsX1_storeIn := by decide +kernel
theorem kw_S_storeIn_1 : (.fieldLink RX1 9 "MinorSteps$Sum" "room" "I" : Cond) ∈ wsX1_storeIn := by decide +kernel
theorem kw_S_storeIn_2 : (.fieldLink RX1 15 "MinorSteps$Sum" "plus" "[I" : Cond) ∈ wsX1_storeIn := by decide +kernel
theorem kw_S_storeIn_3 : (.fieldLink RX1 31 "MinorSteps$Sum" "sign" "I" : Cond) ∈ wsX1_storeIn := by decide +kernel
theorem ki_S_storeIn_X1 : ∀ w ∈ u_ws RX1 TX1 6, w ∈ wsX1_storeIn := by decide +kernel
set_option maxHeartbeats 4000000 in
set_option maxRecDepth 100000 in
theorem c_S_storeIn (l : Launch) (dC : Nat → ClassId) (dI : Nat → Nat → Nat) (cA : ClassId) (sz : Nat) (q_t : Nat) (q_t_plus : Nat) (q_t_minus : Nat) (q_t_divisor : Nat) (q_u : Nat) (q_u_signs : Nat) (q_u_lengths : Nat) (q_u_limbs : Nat) (t_room : Int32) (t_sign : Int32) (t_length : Int32) (n_t_plus : Nat) (a_t_plus : Nat → Int32) (n_t_minus : Nat) (a_t_minus : Nat → Int32) (n_t_divisor : Nat) (a_t_divisor : Nat → Int32) (u_room : Int32) (n_u_signs : Nat) (a_u_signs : Nat → Int32) (n_u_lengths : Nat) (a_u_lengths : Nat → Int32) (n_u_limbs : Nat) (a_u_limbs : Nat → Int32) (slot : Int32) (o : Int32 × (Nat → Int32) × (Nat → Int32) × (Nat → Int32)) (hf : f_S_storeIn t_room t_sign t_length n_t_plus a_t_plus u_room n_u_signs a_u_signs n_u_lengths a_u_lengths n_u_limbs a_u_limbs slot = some o) : Met l yX1_storeIn wsX1_storeIn rm_S_storeIn (c_Pre (dC, dI) vwCl [(cA, .int)] [(q_t, .inr (1, [.int t_room, .ref q_t_plus, .ref q_t_minus, .ref q_t_divisor, .int t_sign, .int t_length])), (q_t_plus, .inl (cA, n_t_plus, .inl a_t_plus)), (q_t_minus, .inl (cA, n_t_minus, .inl a_t_minus)), (q_t_divisor, .inl (cA, n_t_divisor, .inl a_t_divisor)), (q_u, .inr (0, [.int u_room, .ref q_u_signs, .ref q_u_lengths, .ref q_u_limbs])), (q_u_signs, .inl (cA, n_u_signs, .inl a_u_signs)), (q_u_lengths, .inl (cA, n_u_lengths, .inl a_u_lengths)), (q_u_limbs, .inl (cA, n_u_limbs, .inl a_u_limbs))] sz [.ref q_t, .ref q_u, .int slot]) (c_Qi (dC, dI) vwCl [(cA, .int)] [(q_t, .inr (1, [.int t_room, .ref q_t_plus, .ref q_t_minus, .ref q_t_divisor, .int t_sign, .int t_length])), (q_t_plus, .inl (cA, n_t_plus, .inl a_t_plus)), (q_t_minus, .inl (cA, n_t_minus, .inl a_t_minus)), (q_t_divisor, .inl (cA, n_t_divisor, .inl a_t_divisor)), (q_u, .inr (0, [.int u_room, .ref q_u_signs, .ref q_u_lengths, .ref q_u_limbs])), (q_u_signs, .inl (cA, n_u_signs, .inl o.2.1)), (q_u_lengths, .inl (cA, n_u_lengths, .inl o.2.2.1)), (q_u_limbs, .inl (cA, n_u_limbs, .inl o.2.2.2))] (va_A [(q_t, .inr (1, [.int t_room, .ref q_t_plus, .ref q_t_minus, .ref q_t_divisor, .int t_sign, .int t_length])), (q_t_plus, .inl (cA, n_t_plus, .inl a_t_plus)), (q_t_minus, .inl (cA, n_t_minus, .inl a_t_minus)), (q_t_divisor, .inl (cA, n_t_divisor, .inl a_t_divisor)), (q_u, .inr (0, [.int u_room, .ref q_u_signs, .ref q_u_lengths, .ref q_u_limbs])), (q_u_signs, .inl (cA, n_u_signs, .inl a_u_signs)), (q_u_lengths, .inl (cA, n_u_lengths, .inl a_u_lengths)), (q_u_limbs, .inl (cA, n_u_limbs, .inl a_u_limbs))] sz) o.1) 0 0 (va_A [(q_t, .inr (1, [.int t_room, .ref q_t_plus, .ref q_t_minus, .ref q_t_divisor, .int t_sign, .int t_length])), (q_t_plus, .inl (cA, n_t_plus, .inl a_t_plus)), (q_t_minus, .inl (cA, n_t_minus, .inl a_t_minus)), (q_t_divisor, .inl (cA, n_t_divisor, .inl a_t_divisor)), (q_u, .inr (0, [.int u_room, .ref q_u_signs, .ref q_u_lengths, .ref q_u_limbs])), (q_u_signs, .inl (cA, n_u_signs, .inl a_u_signs)), (q_u_lengths, .inl (cA, n_u_lengths, .inl a_u_lengths)), (q_u_limbs, .inl (cA, n_u_limbs, .inl a_u_limbs))] sz) := by
  unfold f_S_storeIn at hf
  refine k_ent (Qc := fun A => c_Qi (dC, dI) vwCl [(cA, .int)] [(q_t, .inr (1, [.int t_room, .ref q_t_plus, .ref q_t_minus, .ref q_t_divisor, .int t_sign, .int t_length])), (q_t_plus, .inl (cA, n_t_plus, .inl a_t_plus)), (q_t_minus, .inl (cA, n_t_minus, .inl a_t_minus)), (q_t_divisor, .inl (cA, n_t_divisor, .inl a_t_divisor)), (q_u, .inr (0, [.int u_room, .ref q_u_signs, .ref q_u_lengths, .ref q_u_limbs])), (q_u_signs, .inl (cA, n_u_signs, .inl o.2.1)), (q_u_lengths, .inl (cA, n_u_lengths, .inl o.2.2.1)), (q_u_limbs, .inl (cA, n_u_limbs, .inl o.2.2.2))] A o.1) (by decide) rfl (Nat.le_of_ble_eq_true rfl) ?_
  intro p e s m below meth c A hx hb hr hown hts hml hlocks hin hsz hA hK H locs hP hD hS ls hl
  have hown : s.vm.findClass RX1 = some m.cls := hown
  have hl : lv_has ls 3 [(0, .ref q_t), (1, .ref q_u), (2, .int slot)] := hl
  refine lv_aload_n hx hb dX1_storeIn_0 rfl (lv_at hl 0 rfl) ?_
  refine va_get (D := (dC, dI)) (ci := 1) (v := .int t_length) (C := RX1) (T := TX1) (N := 6) hx hb hts ki_S_storeIn_X1 hown hK hP 0 rfl rfl 5 (by decide) (hts (.fieldLink RX1 34 "MinorSteps$Sum" "length" "I") kw_S_storeIn_0) (fun _ h9 => h9) rfl dX1_storeIn_1 ?_
  refine lv_aload_n hx hb dX1_storeIn_4 rfl (lv_at hl 0 rfl) ?_
  refine va_get (D := (dC, dI)) (ci := 1) (v := .int t_room) (C := RX1) (T := TX1) (N := 6) hx hb hts ki_S_storeIn_X1 hown hK hP 0 rfl rfl 0 (by decide) (hts (.fieldLink RX1 9 "MinorSteps$Sum" "room" "I") kw_S_storeIn_1) (fun _ h9 => h9) rfl dX1_storeIn_5 ?_
  refine lv_icmp_le (tgt := 13) hx hb dX1_storeIn_8 (by decide) (fun c1 => ?_) (fun c1 => ?_)
  · have hf := og_t c1 hf
    refine lv_aload_n hx hb dX1_storeIn_13 rfl (lv_at hl 1 rfl) ?_
    refine lv_iload_n hx hb dX1_storeIn_14 rfl (lv_at hl 2 rfl) ?_
    refine lv_aload_n hx hb dX1_storeIn_15 rfl (lv_at hl 0 rfl) ?_
    refine va_get (D := (dC, dI)) (ci := 1) (v := .ref q_t_plus) (C := RX1) (T := TX1) (N := 6) hx hb hts ki_S_storeIn_X1 hown hK hP 0 rfl rfl 1 (by decide) (hts (.fieldLink RX1 15 "MinorSteps$Sum" "plus" "[I") kw_S_storeIn_2) (fun _ h9 => h9) rfl dX1_storeIn_16 ?_
    refine lv_aload_n hx hb dX1_storeIn_19 rfl (lv_at hl 0 rfl) ?_
    refine va_get (D := (dC, dI)) (ci := 1) (v := .int t_length) (C := RX1) (T := TX1) (N := 6) hx hb hts ki_S_storeIn_X1 hown hK hP 0 rfl rfl 5 (by decide) (hts (.fieldLink RX1 34 "MinorSteps$Sum" "length" "I") kw_S_storeIn_0) (fun _ h9 => h9) rfl dX1_storeIn_20 ?_
    refine lv_aload_n hx hb dX1_storeIn_23 rfl (lv_at hl 0 rfl) ?_
    refine va_get (D := (dC, dI)) (ci := 1) (v := .int t_sign) (C := RX1) (T := TX1) (N := 6) hx hb hts ki_S_storeIn_X1 hown hK hP 0 rfl rfl 4 (by decide) (hts (.fieldLink RX1 31 "MinorSteps$Sum" "sign" "I") kw_S_storeIn_3) (fun _ h9 => h9) rfl dX1_storeIn_24 ?_
    obtain ⟨x2, g3, hf⟩ := og_b hf
    refine kc_v (wr := [(q_t, .inr (1, [.int t_room, .ref q_t_plus, .ref q_t_minus, .ref q_t_divisor, .int t_sign, .int t_length])), (q_t_minus, .inl (cA, n_t_minus, .inl a_t_minus)), (q_t_divisor, .inl (cA, n_t_divisor, .inl a_t_divisor))]) (w1 := [(q_u, .inr (0, [.int u_room, .ref q_u_signs, .ref q_u_lengths, .ref q_u_limbs])), (q_u_signs, .inl (cA, n_u_signs, .inl x2.1)), (q_u_lengths, .inl (cA, n_u_lengths, .inl x2.2.1)), (q_u_limbs, .inl (cA, n_u_limbs, .inl x2.2.2)), (q_t_plus, .inl (cA, n_t_plus, .inl a_t_plus))]) [4, 5, 6, 7, 1] [0, 2, 3] (va_runV (As := [.int slot, .ref q_t_plus, .int t_length, .int t_sign]) (rest := []) ⟨hx, hb, hml, hown, hts⟩ (c_N_put l dC dI cA H.size q_u q_u_signs q_u_lengths q_u_limbs q_t_plus u_room n_u_signs a_u_signs n_u_lengths a_u_lengths n_u_limbs a_u_limbs slot n_t_plus a_t_plus t_length t_sign x2 g3) (cwV 4 hts gX1_storeIn_X0_put rfl rfl rfl (by decide +kernel) ⟨Nat.le_of_ble_eq_true rfl, Nat.le_of_ble_eq_true rfl⟩) (kc_preV hP hD hK [4, 5, 6, 7, 1] rfl rfl (by decide) (ci := 0) (q0 := 4) rfl rfl) rfl rfl hl.1 rfl (lv_room (Nat.le_of_ble_eq_true rfl)) dX1_storeIn_27 ⟨Nat.le_of_ble_eq_true rfl, Nat.le_of_ble_eq_true rfl⟩) hP hD hS hA rfl rfl (by decide) (by decide) (fun H locs hP hD hS => ?_)
    have hP : va_P (dC, dI) vwCl [(q_t, .inr (1, [.int t_room, .ref q_t_plus, .ref q_t_minus, .ref q_t_divisor, .int t_sign, .int t_length])), (q_t_minus, .inl (cA, n_t_minus, .inl a_t_minus)), (q_t_divisor, .inl (cA, n_t_divisor, .inl a_t_divisor)), (q_u, .inr (0, [.int u_room, .ref q_u_signs, .ref q_u_lengths, .ref q_u_limbs])), (q_u_signs, .inl (cA, n_u_signs, .inl x2.1)), (q_u_lengths, .inl (cA, n_u_lengths, .inl x2.2.1)), (q_u_limbs, .inl (cA, n_u_limbs, .inl x2.2.2)), (q_t_plus, .inl (cA, n_t_plus, .inl a_t_plus))] H := hP
    have hD : va_D A [(q_t, .inr (1, [.int t_room, .ref q_t_plus, .ref q_t_minus, .ref q_t_divisor, .int t_sign, .int t_length])), (q_t_minus, .inl (cA, n_t_minus, .inl a_t_minus)), (q_t_divisor, .inl (cA, n_t_divisor, .inl a_t_divisor)), (q_u, .inr (0, [.int u_room, .ref q_u_signs, .ref q_u_lengths, .ref q_u_limbs])), (q_u_signs, .inl (cA, n_u_signs, .inl x2.1)), (q_u_lengths, .inl (cA, n_u_lengths, .inl x2.2.1)), (q_u_limbs, .inl (cA, n_u_limbs, .inl x2.2.2)), (q_t_plus, .inl (cA, n_t_plus, .inl a_t_plus))] := hD
    refine lv_iconst (v := 1) hx hb dX1_storeIn_30 (by decide) ?_
    have e9 := Option.some.inj hf
    subst e9
    exact kr_z hx hb hr hlocks rfl hK hS (hP.sub [0, 7, 1, 2, 3, 4, 5, 6] rfl) (hD.sub [0, 7, 1, 2, 3, 4, 5, 6] (by decide) rfl) dX1_storeIn_31
  · have hf := og_f c1 hf
    refine lv_iconst (v := 0) hx hb dX1_storeIn_11 (by decide) ?_
    have e9 := Option.some.inj hf
    subst e9
    exact kr_z hx hb hr hlocks rfl hK hS (hP.sub [0, 1, 2, 3, 4, 5, 6, 7] rfl) (hD.sub [0, 1, 2, 3, 4, 5, 6, 7] (by decide) rfl) dX1_storeIn_12
end
