/-! THE CLAIM OUT OF ONE WALK OF THE LAW'S BODY. Your part is whole_start (and what it stands on); all else here is the same for every law, but numbers. -/
def R_law : String := "MinorStepsLaw"
def lw_P (b : Addr) (xs : List Int32) (args : Array Value) (s : State) : Prop := args = #[.ref b] ∧ s.IntsAt b xs ∧ xs.length ≤ 2050 ∧ (Jvm.Cond.and given_1 narrow_1).before args s = true
def lw_Q (_ : Array Value) (s : State) (o : Outcome) (t : State) : Prop := o = .returned (some (.int 1)) ∧ Framed s o t [] 600000 7302250
def lw_Z (below : List Frame) (a : Array Value) (s : State) : State → Prop := fun t => ∃ o, t.status = .running ∧ Ended t below o ∧ lw_Q a s o t
/-- the law's own end, with 1 on the stack, nothing written that was there before, its room as the claim has it -/
theorem lw_ret {p : Program} {l : Launch} {e : Env} {s : State} {m : MethodId} {below : List Frame} {meth : Method} {c : Code} {b : Nat} (hx : p.tables.exec = Jvm.exec) (hb : c.code = code) (hr : meth.sig.returnType = ret) (hlocks : meth.locks = false) {pc : Nat} {H : Heap} {ls : Array Slot} (hdg : decode code pc = .ok (.ireturn, 1)) : W p l e room_1 s m #[Value.ref b] below meth c H [] 600000 7302250 (lw_Z below #[Value.ref b] s) (F0 m pc ls [.int 1]) := by
  intro T hT X
  obtain ⟨fs, hret, hrun, hended, hW, hframe⟩ := X.leave (v := some (.int 1)) (hlocks := hlocks) (fun h => by rw [hr] at h; cases h)
  have hmeth' : T.vm.method? m = some meth := X.method'
  refine ⟨T.setFrames fs, ?_, .returned (some (.int 1)), hrun, hended, rfl, ⟨_, rfl⟩, hW, hframe⟩
  jvm_step X.here [X.here.top, hx, hb, hdg, hmeth', hr, ret, narrow_b1]
  (try refine ⟨rfl, ?_⟩); (try refine ⟨rfl, ?_⟩)
  first | (intro acts; rw [hret _ acts rfl rfl rfl]) | rw [hret _ _ rfl rfl rfl]
  exact Steps.refl _
/-- what holds at the law's entry: the machine, the code, the tables' words (any of lw_tbl by 'hts w (by decide +kernel)'), the script of L ints xs at the cell b, what the Statement gives of the start (any of its parts by flat_of_before) -/
def lw_At (p : Program) (s : State) (m : MethodId) (meth : Method) (c : Code) (b L : Nat) (xs : Nat → Int32) : Prop :=
  p.tables.exec = Jvm.exec ∧ c.code = code ∧ meth.sig.returnType = ret ∧ c.maxLocals = 4 ∧ s.vm.findClass R_law = some m.cls ∧ (∀ w ∈ lw_tbl, w.before #[Value.ref b] s = true) ∧ va_X b L xs s s.heap ∧ b < s.heap.size ∧ meth.locks = false ∧ (Jvm.Cond.and given_1 narrow_1).before #[Value.ref b] s = true
/-! The law's own loop, laid by program: none where it would answer 0. -/
def cellv (xs : Nat → Int32) (L : Nat) (k : Int32) : Int32 := if nI L ≤ k then 0 else xs k.toNatClampNeg
def f_law_L38 (L : Nat) (xs : Nat → Int32) (k : Nat) (i0_1 : Int32) (i1_1 : Int32) (i0_4 : Int32) (n_5 : Nat) (n_6 : Nat) (n_7 : Nat) (i0_8 : Int32) (n_9 : Nat) (n_10 : Nat) (n_11 : Nat) (i0_12 : Int32) (n_13 : Nat) (n_14 : Nat) (n_15 : Nat) (i0_16 : Int32) (n_17 : Nat) (n_18 : Nat) (n_19 : Nat) (n_20 : Nat) (i0_22 : Int32) (i1_22 : Int32) (n_25 : Nat) (n_26 : Nat) (n_27 : Nat) : Nat → Int32 → Int32 → Int32 → Int32 → Int32 → Int32 → Int32 → Int32 → (Nat → Int32) → (Nat → Int32) → (Nat → Int32) → (Nat → Int32) → (Nat → Int32) → (Nat → Int32) → (Nat → Int32) → (Nat → Int32) → (Nat → Int32) → Int32 → Int32 → (Nat → Int32) → (Nat → Int32) → (Nat → Int32) → (Nat → Int32) → Int32 → Int32 → Int32 → Int32 → Int32 → Int32 → Int32 → (Nat → Int32) → (Nat → Int32) → (Nat → Int32) → Option (Int32 × Int32 × Int32 × Int32 × Int32 × Int32 × Int32 × Int32 × (Nat → Int32) × (Nat → Int32) × (Nat → Int32) × (Nat → Int32) × (Nat → Int32) × (Nat → Int32) × (Nat → Int32) × (Nat → Int32) × (Nat → Int32) × Int32 × Int32 × (Nat → Int32) × (Nat → Int32) × (Nat → Int32) × (Nat → Int32) × Int32 × Int32 × Int32 × Int32 × Int32 × Int32 × Int32 × (Nat → Int32) × (Nat → Int32) × (Nat → Int32))
  | 0, _, _, _, _, _, _, _, _, _, _, _, _, _, _, _, _, _, _, _, _, _, _, _, _, _, _, _, _, _, _, _, _, _ => none
  | j + 1, v3, i7_1, i8_1, i9_1, i10_1, i11_1, i12_1, i13_1, a_5, a_6, a_7, a_9, a_10, a_11, a_13, a_14, a_15, i4_16, i5_16, a_17, a_18, a_19, a_20, i5_22, i6_22, i7_22, i8_22, i9_22, i10_22, i11_22, a_25, a_26, a_27 =>
    if (nI L) - 4 < v3 then
      some (v3, i7_1, i8_1, i9_1, i10_1, i11_1, i12_1, i13_1, a_5, a_6, a_7, a_9, a_10, a_11, a_13, a_14, a_15, i4_16, i5_16, a_17, a_18, a_19, a_20, i5_22, i6_22, i7_22, i8_22, i9_22, i10_22, i11_22, a_25, a_26, a_27)
    else
      cond (inb v3 L) (
      if (xs v3.toNatClampNeg) &&& 15 = 0 then
        (f_M_reset k i0_1 n_5 a_5 n_6 a_6 n_20 a_20).bind fun x230 =>
        (f_X_reset k n_25 a_25 n_26 a_26 n_27 a_27).bind fun x232 =>
        f_law_L38 L xs k i0_1 i1_1 i0_4 n_5 n_6 n_7 i0_8 n_9 n_10 n_11 i0_12 n_13 n_14 n_15 i0_16 n_17 n_18 n_19 n_20 i0_22 i1_22 n_25 n_26 n_27 j (v3 + 4) x230.1 x230.2.1 x230.2.2.1 x230.2.2.2.1 x230.2.2.2.2.1 x230.2.2.2.2.2.1 x230.2.2.2.2.2.2.1 x230.2.2.2.2.2.2.2.1 x230.2.2.2.2.2.2.2.2.1 a_7 a_9 a_10 a_11 a_13 a_14 a_15 i4_16 i5_16 a_17 a_18 a_19 x230.2.2.2.2.2.2.2.2.2 x232.1 i6_22 i7_22 x232.2.1 x232.2.2.1 x232.2.2.2.1 x232.2.2.2.2.1 x232.2.2.2.2.2.1 x232.2.2.2.2.2.2.1 x232.2.2.2.2.2.2.2
      else
        if (xs v3.toNatClampNeg) &&& 15 = 1 then
          cond (inb (v3 + 1) L) (
          cond (inb (v3 + 2) L) (
          cond (inb (v3 + 3) L) (
          (f_M_entry i0_1 i7_1 i11_1 i12_1 i13_1 n_5 a_5 n_6 a_6 n_20 a_20 (xs (v3 + 1).toNatClampNeg) (xs (v3 + 2).toNatClampNeg) (xs (v3 + 3).toNatClampNeg)).bind fun x238 =>
          cond (inb (v3 + 1) L) (
          cond (inb (v3 + 2) L) (
          cond (inb (v3 + 3) L) (
          (f_X_entry k i0_22 i5_22 i6_22 i7_22 i8_22 n_25 a_25 n_26 a_26 (xs (v3 + 1).toNatClampNeg) (xs (v3 + 2).toNatClampNeg) (xs (v3 + 3).toNatClampNeg)).bind fun x243 =>
          if x238.1 = x243.1 then
            f_law_L38 L xs k i0_1 i1_1 i0_4 n_5 n_6 n_7 i0_8 n_9 n_10 n_11 i0_12 n_13 n_14 n_15 i0_16 n_17 n_18 n_19 n_20 i0_22 i1_22 n_25 n_26 n_27 j (v3 + 4) i7_1 i8_1 i9_1 i10_1 x238.2.1 x238.2.2.1 x238.2.2.2.1 x238.2.2.2.2.1 x238.2.2.2.2.2 a_7 a_9 a_10 a_11 a_13 a_14 a_15 i4_16 i5_16 a_17 a_18 a_19 a_20 x243.2.1 x243.2.2.1 x243.2.2.2.1 i8_22 i9_22 i10_22 i11_22 x243.2.2.2.2.1 x243.2.2.2.2.2 a_27
          else
            none) none) none) none) none) none) none
        else
          if (xs v3.toNatClampNeg) &&& 15 = 2 then
            cond (inb (v3 + 1) L) (
            (f_M_limb i1_1 i11_1 i12_1 i13_1 i0_4 n_5 a_5 n_6 a_6 n_7 a_7 (xs (v3 + 1).toNatClampNeg)).bind fun x248 =>
            cond (inb (v3 + 1) L) (
            (f_X_limb i1_22 i5_22 i6_22 i7_22 i8_22 n_25 a_25 n_26 a_26 (xs (v3 + 1).toNatClampNeg)).bind fun x251 =>
            if x248.1 = x251.1 then
              f_law_L38 L xs k i0_1 i1_1 i0_4 n_5 n_6 n_7 i0_8 n_9 n_10 n_11 i0_12 n_13 n_14 n_15 i0_16 n_17 n_18 n_19 n_20 i0_22 i1_22 n_25 n_26 n_27 j (v3 + 4) i7_1 i8_1 i9_1 i10_1 i11_1 i12_1 x248.2.1 x248.2.2.1 x248.2.2.2.1 x248.2.2.2.2 a_9 a_10 a_11 a_13 a_14 a_15 i4_16 i5_16 a_17 a_18 a_19 a_20 i5_22 i6_22 x251.2.1 i8_22 i9_22 i10_22 i11_22 x251.2.2.1 x251.2.2.2 a_27
            else
              none) none) none
          else
            if (xs v3.toNatClampNeg) &&& 15 = 3 then
              (f_M_step k i0_1 i7_1 i8_1 i9_1 i10_1 i11_1 i0_4 n_5 a_5 n_6 a_6 n_7 a_7 i0_8 n_9 a_9 n_10 a_10 n_11 a_11 i0_12 n_13 a_13 n_14 a_14 n_15 a_15 i0_16 i4_16 i5_16 n_17 a_17 n_18 a_18 n_19 a_19 n_20 a_20).bind fun x255 =>
              (f_X_step k i0_22 i1_22 i8_22 i9_22 i10_22 i11_22 n_25 a_25 n_26 a_26 n_27 a_27).bind fun x257 =>
              if x255.1 = x257.1 then
                f_law_L38 L xs k i0_1 i1_1 i0_4 n_5 n_6 n_7 i0_8 n_9 n_10 n_11 i0_12 n_13 n_14 n_15 i0_16 n_17 n_18 n_19 n_20 i0_22 i1_22 n_25 n_26 n_27 j (v3 + 4) x255.2.1 x255.2.2.1 x255.2.2.2.1 x255.2.2.2.2.1 x255.2.2.2.2.2.1 i12_1 i13_1 x255.2.2.2.2.2.2.1 x255.2.2.2.2.2.2.2.1 x255.2.2.2.2.2.2.2.2.1 x255.2.2.2.2.2.2.2.2.2.1 x255.2.2.2.2.2.2.2.2.2.2.1 x255.2.2.2.2.2.2.2.2.2.2.2.1 x255.2.2.2.2.2.2.2.2.2.2.2.2.1 x255.2.2.2.2.2.2.2.2.2.2.2.2.2.1 x255.2.2.2.2.2.2.2.2.2.2.2.2.2.2.1 x255.2.2.2.2.2.2.2.2.2.2.2.2.2.2.2.1 x255.2.2.2.2.2.2.2.2.2.2.2.2.2.2.2.2.1 x255.2.2.2.2.2.2.2.2.2.2.2.2.2.2.2.2.2.1 x255.2.2.2.2.2.2.2.2.2.2.2.2.2.2.2.2.2.2.1 x255.2.2.2.2.2.2.2.2.2.2.2.2.2.2.2.2.2.2.2.1 x255.2.2.2.2.2.2.2.2.2.2.2.2.2.2.2.2.2.2.2.2 i5_22 i6_22 i7_22 x257.2.1 x257.2.2.1 x257.2.2.2.1 x257.2.2.2.2.1 x257.2.2.2.2.2.1 x257.2.2.2.2.2.2.1 x257.2.2.2.2.2.2.2
              else
                none
            else
              if (xs v3.toNatClampNeg) &&& 15 = 4 then
                (f_M_status i7_1).bind fun x261 =>
                (f_X_status i8_22).bind fun x263 =>
                if x261 = x263 then
                  f_law_L38 L xs k i0_1 i1_1 i0_4 n_5 n_6 n_7 i0_8 n_9 n_10 n_11 i0_12 n_13 n_14 n_15 i0_16 n_17 n_18 n_19 n_20 i0_22 i1_22 n_25 n_26 n_27 j (v3 + 4) i7_1 i8_1 i9_1 i10_1 i11_1 i12_1 i13_1 a_5 a_6 a_7 a_9 a_10 a_11 a_13 a_14 a_15 i4_16 i5_16 a_17 a_18 a_19 a_20 i5_22 i6_22 i7_22 i8_22 i9_22 i10_22 i11_22 a_25 a_26 a_27
                else
                  none
              else
                if (xs v3.toNatClampNeg) &&& 15 = 5 then
                  (f_M_steps i8_1).bind fun x267 =>
                  (f_X_steps i9_22).bind fun x269 =>
                  if x267 = x269 then
                    f_law_L38 L xs k i0_1 i1_1 i0_4 n_5 n_6 n_7 i0_8 n_9 n_10 n_11 i0_12 n_13 n_14 n_15 i0_16 n_17 n_18 n_19 n_20 i0_22 i1_22 n_25 n_26 n_27 j (v3 + 4) i7_1 i8_1 i9_1 i10_1 i11_1 i12_1 i13_1 a_5 a_6 a_7 a_9 a_10 a_11 a_13 a_14 a_15 i4_16 i5_16 a_17 a_18 a_19 a_20 i5_22 i6_22 i7_22 i8_22 i9_22 i10_22 i11_22 a_25 a_26 a_27
                  else
                    none
                else
                  if (xs v3.toNatClampNeg) &&& 15 = 6 then
                    cond (inb (v3 + 1) L) (
                    (f_M_determinant i0_1 i7_1 i0_12 n_13 a_13 n_14 a_14 n_15 a_15 (xs (v3 + 1).toNatClampNeg)).bind fun x274 =>
                    cond (inb (v3 + 1) L) (
                    (f_X_determinant k i0_22 i8_22 i11_22 n_25 a_25 n_26 a_26 (xs (v3 + 1).toNatClampNeg)).bind fun x277 =>
                    if x274 = x277 then
                      f_law_L38 L xs k i0_1 i1_1 i0_4 n_5 n_6 n_7 i0_8 n_9 n_10 n_11 i0_12 n_13 n_14 n_15 i0_16 n_17 n_18 n_19 n_20 i0_22 i1_22 n_25 n_26 n_27 j (v3 + 4) i7_1 i8_1 i9_1 i10_1 i11_1 i12_1 i13_1 a_5 a_6 a_7 a_9 a_10 a_11 a_13 a_14 a_15 i4_16 i5_16 a_17 a_18 a_19 a_20 i5_22 i6_22 i7_22 i8_22 i9_22 i10_22 i11_22 a_25 a_26 a_27
                    else
                      none) none) none
                  else
                    if (xs v3.toNatClampNeg) &&& 15 = 7 then
                      cond (inb (v3 + 1) L) (
                      cond (inb (v3 + 2) L) (
                      (f_M_numerator i0_1 i7_1 i0_12 n_13 a_13 n_14 a_14 n_15 a_15 (xs (v3 + 1).toNatClampNeg) (xs (v3 + 2).toNatClampNeg)).bind fun x283 =>
                      cond (inb (v3 + 1) L) (
                      cond (inb (v3 + 2) L) (
                      (f_X_numerator k i0_22 i8_22 i11_22 n_25 a_25 n_26 a_26 (xs (v3 + 1).toNatClampNeg) (xs (v3 + 2).toNatClampNeg)).bind fun x287 =>
                      if x283 = x287 then
                        f_law_L38 L xs k i0_1 i1_1 i0_4 n_5 n_6 n_7 i0_8 n_9 n_10 n_11 i0_12 n_13 n_14 n_15 i0_16 n_17 n_18 n_19 n_20 i0_22 i1_22 n_25 n_26 n_27 j (v3 + 4) i7_1 i8_1 i9_1 i10_1 i11_1 i12_1 i13_1 a_5 a_6 a_7 a_9 a_10 a_11 a_13 a_14 a_15 i4_16 i5_16 a_17 a_18 a_19 a_20 i5_22 i6_22 i7_22 i8_22 i9_22 i10_22 i11_22 a_25 a_26 a_27
                      else
                        none) none) none) none) none
                    else
                      if (xs v3.toNatClampNeg) &&& 15 = 8 then
                        cond (inb (v3 + 1) L) (
                        cond (inb (v3 + 2) L) (
                        (f_M_pivot i0_1 i9_1 i0_4 n_5 a_5 n_6 a_6 n_7 a_7 n_20 a_20 (xs (v3 + 1).toNatClampNeg) (xs (v3 + 2).toNatClampNeg)).bind fun x293 =>
                        cond (inb (v3 + 1) L) (
                        cond (inb (v3 + 2) L) (
                        (f_X_pivot k i0_22 i10_22 n_25 a_25 n_26 a_26 (xs (v3 + 1).toNatClampNeg) (xs (v3 + 2).toNatClampNeg)).bind fun x297 =>
                        if x293 = x297 then
                          f_law_L38 L xs k i0_1 i1_1 i0_4 n_5 n_6 n_7 i0_8 n_9 n_10 n_11 i0_12 n_13 n_14 n_15 i0_16 n_17 n_18 n_19 n_20 i0_22 i1_22 n_25 n_26 n_27 j (v3 + 4) i7_1 i8_1 i9_1 i10_1 i11_1 i12_1 i13_1 a_5 a_6 a_7 a_9 a_10 a_11 a_13 a_14 a_15 i4_16 i5_16 a_17 a_18 a_19 a_20 i5_22 i6_22 i7_22 i8_22 i9_22 i10_22 i11_22 a_25 a_26 a_27
                        else
                          none) none) none) none) none
                      else
                        if (xs v3.toNatClampNeg) &&& 15 = 9 then
                          cond (inb (v3 + 1) L) (
                          cond (inb (v3 + 2) L) (
                          cond (inb (v3 + 3) L) (
                          (f_M_number i0_1 i0_4 n_5 a_5 n_6 a_6 n_7 a_7 n_20 a_20 (xs (v3 + 1).toNatClampNeg) (xs (v3 + 2).toNatClampNeg) (xs (v3 + 3).toNatClampNeg)).bind fun x304 =>
                          cond (inb (v3 + 1) L) (
                          cond (inb (v3 + 2) L) (
                          cond (inb (v3 + 3) L) (
                          (f_X_number k i0_22 n_25 a_25 n_26 a_26 (xs (v3 + 1).toNatClampNeg) (xs (v3 + 2).toNatClampNeg) (xs (v3 + 3).toNatClampNeg)).bind fun x309 =>
                          if x304 = x309 then
                            f_law_L38 L xs k i0_1 i1_1 i0_4 n_5 n_6 n_7 i0_8 n_9 n_10 n_11 i0_12 n_13 n_14 n_15 i0_16 n_17 n_18 n_19 n_20 i0_22 i1_22 n_25 n_26 n_27 j (v3 + 4) i7_1 i8_1 i9_1 i10_1 i11_1 i12_1 i13_1 a_5 a_6 a_7 a_9 a_10 a_11 a_13 a_14 a_15 i4_16 i5_16 a_17 a_18 a_19 a_20 i5_22 i6_22 i7_22 i8_22 i9_22 i10_22 i11_22 a_25 a_26 a_27
                          else
                            none) none) none) none) none) none) none
                        else
                          if (xs v3.toNatClampNeg) &&& 15 = 10 then
                            cond (inb (v3 + 1) L) (
                            (f_M_row i0_1 n_20 a_20 (xs (v3 + 1).toNatClampNeg)).bind fun x314 =>
                            cond (inb (v3 + 1) L) (
                            (f_X_row i0_22 n_27 a_27 (xs (v3 + 1).toNatClampNeg)).bind fun x317 =>
                            if x314 = x317 then
                              f_law_L38 L xs k i0_1 i1_1 i0_4 n_5 n_6 n_7 i0_8 n_9 n_10 n_11 i0_12 n_13 n_14 n_15 i0_16 n_17 n_18 n_19 n_20 i0_22 i1_22 n_25 n_26 n_27 j (v3 + 4) i7_1 i8_1 i9_1 i10_1 i11_1 i12_1 i13_1 a_5 a_6 a_7 a_9 a_10 a_11 a_13 a_14 a_15 i4_16 i5_16 a_17 a_18 a_19 a_20 i5_22 i6_22 i7_22 i8_22 i9_22 i10_22 i11_22 a_25 a_26 a_27
                            else
                              none) none) none
                          else
                            if (xs v3.toNatClampNeg) &&& 15 = 11 then
                              (f_M_holds k i0_1 i7_1 i0_8 n_9 a_9 n_10 a_10 n_11 a_11 i0_12 n_13 a_13 n_14 a_14 n_15 a_15 i4_16 i5_16 n_17 a_17 n_18 a_18).bind fun x321 =>
                              (f_X_holds i8_22).bind fun x323 =>
                              if x321.1 = x323 then
                                f_law_L38 L xs k i0_1 i1_1 i0_4 n_5 n_6 n_7 i0_8 n_9 n_10 n_11 i0_12 n_13 n_14 n_15 i0_16 n_17 n_18 n_19 n_20 i0_22 i1_22 n_25 n_26 n_27 j (v3 + 4) i7_1 i8_1 i9_1 i10_1 i11_1 i12_1 i13_1 a_5 a_6 a_7 a_9 a_10 a_11 a_13 a_14 a_15 x321.2.1 x321.2.2.1 x321.2.2.2.1 x321.2.2.2.2 a_19 a_20 i5_22 i6_22 i7_22 i8_22 i9_22 i10_22 i11_22 a_25 a_26 a_27
                              else
                                none
                            else
                              f_law_L38 L xs k i0_1 i1_1 i0_4 n_5 n_6 n_7 i0_8 n_9 n_10 n_11 i0_12 n_13 n_14 n_15 i0_16 n_17 n_18 n_19 n_20 i0_22 i1_22 n_25 n_26 n_27 j (v3 + 4) i7_1 i8_1 i9_1 i10_1 i11_1 i12_1 i13_1 a_5 a_6 a_7 a_9 a_10 a_11 a_13 a_14 a_15 i4_16 i5_16 a_17 a_18 a_19 a_20 i5_22 i6_22 i7_22 i8_22 i9_22 i10_22 i11_22 a_25 a_26 a_27) none
def f_law (L : Nat) (xs : Nat → Int32) (k : Nat) : Option Unit :=
  (f_M_init k (cellv xs L 0) (cellv xs L 1)).bind fun x2 =>
  (f_X_init k (cellv xs L 0) (cellv xs L 1)).bind fun x23 =>
  (f_law_L38 L xs k x2.1 x2.2.1 x2.2.2.2.2.2.2.2.2.2.1 x2.2.2.2.2.2.2.2.2.2.2.1 x2.2.2.2.2.2.2.2.2.2.2.2.2.1 x2.2.2.2.2.2.2.2.2.2.2.2.2.2.2.1 x2.2.2.2.2.2.2.2.2.2.2.2.2.2.2.2.2.1 x2.2.2.2.2.2.2.2.2.2.2.2.2.2.2.2.2.2.1 x2.2.2.2.2.2.2.2.2.2.2.2.2.2.2.2.2.2.2.2.1 x2.2.2.2.2.2.2.2.2.2.2.2.2.2.2.2.2.2.2.2.2.2.1 x2.2.2.2.2.2.2.2.2.2.2.2.2.2.2.2.2.2.2.2.2.2.2.2.1 x2.2.2.2.2.2.2.2.2.2.2.2.2.2.2.2.2.2.2.2.2.2.2.2.2.1 x2.2.2.2.2.2.2.2.2.2.2.2.2.2.2.2.2.2.2.2.2.2.2.2.2.2.2.1 x2.2.2.2.2.2.2.2.2.2.2.2.2.2.2.2.2.2.2.2.2.2.2.2.2.2.2.2.2.1 x2.2.2.2.2.2.2.2.2.2.2.2.2.2.2.2.2.2.2.2.2.2.2.2.2.2.2.2.2.2.2.1 x2.2.2.2.2.2.2.2.2.2.2.2.2.2.2.2.2.2.2.2.2.2.2.2.2.2.2.2.2.2.2.2.2.2.1 x2.2.2.2.2.2.2.2.2.2.2.2.2.2.2.2.2.2.2.2.2.2.2.2.2.2.2.2.2.2.2.2.2.2.2.2.1 x2.2.2.2.2.2.2.2.2.2.2.2.2.2.2.2.2.2.2.2.2.2.2.2.2.2.2.2.2.2.2.2.2.2.2.2.2.2.1 x2.2.2.2.2.2.2.2.2.2.2.2.2.2.2.2.2.2.2.2.2.2.2.2.2.2.2.2.2.2.2.2.2.2.2.2.2.2.2.2.1 x23.1 x23.2.1 x23.2.2.2.2.2.2.2.2.2.1 x23.2.2.2.2.2.2.2.2.2.2.2.1 x23.2.2.2.2.2.2.2.2.2.2.2.2.2.1 k (2 : Int32) x2.2.2.1 x2.2.2.2.1 x2.2.2.2.2.1 x2.2.2.2.2.2.1 x2.2.2.2.2.2.2.1 x2.2.2.2.2.2.2.2.1 x2.2.2.2.2.2.2.2.2.1 x2.2.2.2.2.2.2.2.2.2.2.2.1 x2.2.2.2.2.2.2.2.2.2.2.2.2.2.1 x2.2.2.2.2.2.2.2.2.2.2.2.2.2.2.2.1 x2.2.2.2.2.2.2.2.2.2.2.2.2.2.2.2.2.2.2.1 x2.2.2.2.2.2.2.2.2.2.2.2.2.2.2.2.2.2.2.2.2.1 x2.2.2.2.2.2.2.2.2.2.2.2.2.2.2.2.2.2.2.2.2.2.2.1 x2.2.2.2.2.2.2.2.2.2.2.2.2.2.2.2.2.2.2.2.2.2.2.2.2.2.1 x2.2.2.2.2.2.2.2.2.2.2.2.2.2.2.2.2.2.2.2.2.2.2.2.2.2.2.2.1 x2.2.2.2.2.2.2.2.2.2.2.2.2.2.2.2.2.2.2.2.2.2.2.2.2.2.2.2.2.2.1 x2.2.2.2.2.2.2.2.2.2.2.2.2.2.2.2.2.2.2.2.2.2.2.2.2.2.2.2.2.2.2.2.1 x2.2.2.2.2.2.2.2.2.2.2.2.2.2.2.2.2.2.2.2.2.2.2.2.2.2.2.2.2.2.2.2.2.1 x2.2.2.2.2.2.2.2.2.2.2.2.2.2.2.2.2.2.2.2.2.2.2.2.2.2.2.2.2.2.2.2.2.2.2.1 x2.2.2.2.2.2.2.2.2.2.2.2.2.2.2.2.2.2.2.2.2.2.2.2.2.2.2.2.2.2.2.2.2.2.2.2.2.1 x2.2.2.2.2.2.2.2.2.2.2.2.2.2.2.2.2.2.2.2.2.2.2.2.2.2.2.2.2.2.2.2.2.2.2.2.2.2.2.1 x2.2.2.2.2.2.2.2.2.2.2.2.2.2.2.2.2.2.2.2.2.2.2.2.2.2.2.2.2.2.2.2.2.2.2.2.2.2.2.2.2 x23.2.2.1 x23.2.2.2.1 x23.2.2.2.2.1 x23.2.2.2.2.2.1 x23.2.2.2.2.2.2.1 x23.2.2.2.2.2.2.2.1 x23.2.2.2.2.2.2.2.2.1 x23.2.2.2.2.2.2.2.2.2.2.1 x23.2.2.2.2.2.2.2.2.2.2.2.2.1 x23.2.2.2.2.2.2.2.2.2.2.2.2.2.2).bind fun x326 =>
  some ()
