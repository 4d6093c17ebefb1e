/-! The law over whole runs. -/
theorem law_stop {L v : Nat} (hL : L ≤ 2050) (hv : v < 3000) : (nI L - 4 < nI v) ↔ L < v + 4 := by
  rcases Nat.lt_or_ge L 4 with h | h
  · refine ⟨fun _ => by omega, fun _ => ?_⟩
    have a : nI L - 4 < 0 := by
      have : L = 0 ∨ L = 1 ∨ L = 2 ∨ L = 3 := by omega
      rcases this with e | e | e | e <;> rw [e] <;> decide
    exact Int32.lt_of_lt_of_le a (Int32.not_lt.mp (nI_pos (by omega)))
  · obtain ⟨t, rfl⟩ : ∃ t, L = t + 4 := ⟨L - 4, by omega⟩
    have e : nI (t + 4) - 4 = nI t := by
      rw [← nI_add, show (4 : Int32) = nI 4 from rfl, Int32.add_sub_cancel]
    rw [e]
    constructor
    · intro q
      rcases Nat.lt_or_ge t v with r | r
      · omega
      · exact absurd q (Int32.not_lt.mpr (nI_le r (by omega)))
    · intro q
      exact nI_lt (by omega) (by omega)
set_option maxRecDepth 20000 in
set_option maxHeartbeats 4000000 in
theorem law_loop (L : Nat) (xs : Nat → Int32) (K n R : Nat) (hL : L ≤ 2050) (hK : 2300 < K) (hn0 : 0 < n) (hn : n ≤ 6) (hR0 : 0 < R) (hR : R ≤ 16) : ∀ (j v : Nat) (i7_1 i8_1 i9_1 i10_1 i11_1 i12_1 i13_1 : Int32) (a_5 a_6 a_7 a_9 a_10 a_11 a_13 a_14 a_15 : Nat → Int32) (i4_16 i5_16 : Int32) (a_17 a_18 a_19 a_20 : Nat → Int32) (i5_22 i6_22 i7_22 i8_22 i9_22 i10_22 i11_22 : Int32) (a_25 a_26 a_27 : Nat → Int32), 0 < j → L < v + 4 * j → v < 3000 → Inv n R i7_1 i8_1 i9_1 i10_1 i11_1 i12_1 i13_1 a_5 a_6 a_7 a_9 a_10 a_11 a_13 a_14 a_15 a_20 i5_22 i6_22 i7_22 i8_22 i9_22 i10_22 i11_22 a_25 a_26 a_27 →
    ∃ y, f_law_L38 L xs K (nI n) (nI R) (nI R) (n * (n + 1)) (n * (n + 1)) (n * (n + 1) * R) (nI R) (n * (n + 1)) (n * (n + 1)) (n * (n + 1) * R) (nI R) (n + 1) (n + 1) ((n + 1) * R) (nI R) (2 * R + 1) (2 * R + 1) R n (nI n) (nI R) 2160 54 6 j (nI v) i7_1 i8_1 i9_1 i10_1 i11_1 i12_1 i13_1 a_5 a_6 a_7 a_9 a_10 a_11 a_13 a_14 a_15 i4_16 i5_16 a_17 a_18 a_19 a_20 i5_22 i6_22 i7_22 i8_22 i9_22 i10_22 i11_22 a_25 a_26 a_27 = some y := by
  intro j
  induction j with
  | zero => intros; omega
  | succ j ih =>
    intro v i7_1 i8_1 i9_1 i10_1 i11_1 i12_1 i13_1 a_5 a_6 a_7 a_9 a_10 a_11 a_13 a_14 a_15 i4_16 i5_16 a_17 a_18 a_19 a_20 i5_22 i6_22 i7_22 i8_22 i9_22 i10_22 i11_22 a_25 a_26 a_27 hj hv hv2 hI
    rw [f_law_L38]
    by_cases hs : nI L - 4 < nI v
    · rw [if_pos hs]; exact ⟨_, rfl⟩
    · have hvL : v + 4 ≤ L := by rw [law_stop hL hv2] at hs; omega
      have b0 : inb (nI v) L = true := inb_nI (by omega) (by omega)
      have b1 : inb (nI v + 1) L = true := by rw [nI_1]; exact inb_nI (by omega) (by omega)
      have b2 : inb (nI v + 2) L = true := by rw [show (2 : Int32) = nI 2 from rfl, nI_add]; exact inb_nI (by omega) (by omega)
      have b3 : inb (nI v + 3) L = true := by rw [show (3 : Int32) = nI 3 from rfl, nI_add]; exact inb_nI (by omega) (by omega)
      have e4 : nI v + 4 = nI (v + 4) := nI_add v 4
      rw [if_neg hs, b0, e4]
      simp only [cond_true]
      generalize xs (nI v).toNatClampNeg &&& 15 = op
      by_cases o0 : op = 0
      · rw [if_pos o0]
        obtain ⟨sg, le, ra, f, g, rr, c1, c2, c3⟩ := Inv_reset K hn hK hI
        rw [c1]
        simp only [Option.bind_some]
        rw [c2]
        simp only [Option.bind_some]
        exact ih (v + 4) _ _ _ _ _ _ _ _ _ _ _ _ _ _ _ _ _ _ _ _ _ _ _ _ _ _ _ _ _ _ _ _ (by omega) (by omega) (by omega) c3
      rw [if_neg o0]
      by_cases o1 : op = 1
      · rw [if_pos o1, b1, b2, b3]
        simp only [cond_true]
        obtain ⟨x, ch', cs', cl', chX', csX', clX', sg, le, f, g, c1, c2, c3⟩ := Inv_entry K (row := xs (nI v + 1).toNatClampNeg) (col := xs (nI v + 2).toNatClampNeg) (sign := xs (nI v + 3).toNatClampNeg) hn hK hI
        rw [c1]
        simp only [Option.bind_some]
        rw [c2]
        simp only [Option.bind_some]
        rw [if_pos trivial]
        exact ih (v + 4) _ _ _ _ _ _ _ _ _ _ _ _ _ _ _ _ _ _ _ _ _ _ _ _ _ _ _ _ _ _ _ _ (by omega) (by omega) (by omega) c3
      rw [if_neg o1]
      by_cases o2 : op = 2
      · rw [if_pos o2, b1]
        simp only [cond_true]
        obtain ⟨x, cl', clX', sg, le, li, f, g, c1, c2, c3⟩ := Inv_limb (word := xs (nI v + 1).toNatClampNeg) hn hR hI
        rw [c1]
        simp only [Option.bind_some]
        rw [c2]
        simp only [Option.bind_some]
        rw [if_pos trivial]
        exact ih (v + 4) _ _ _ _ _ _ _ _ _ _ _ _ _ _ _ _ _ _ _ _ _ _ _ _ _ _ _ _ _ _ _ _ (by omega) (by omega) (by omega) c3
      rw [if_neg o2]
      by_cases o3 : op = 3
      · rw [if_pos o3]
        obtain ⟨x, told', steps', piv', odd', ch', ss', sl', st', dn', pvX', odX', b5, b6, b7, b9, b10, b11, b13, b14, b15, pl', mi', dv', b20, b25, b26, b27, c1, c2, c3⟩ := Inv_step K (ss := i4_16) (sl := i5_16) (pl := a_17) (mi := a_18) (dv := a_19) hn hn0 hR hR0 hK hI
        rw [c1]
        simp only [Option.bind_some]
        rw [c2]
        simp only [Option.bind_some]
        rw [if_pos trivial]
        exact ih (v + 4) _ _ _ _ _ _ _ _ _ _ _ _ _ _ _ _ _ _ _ _ _ _ _ _ _ _ _ _ _ _ _ _ (by omega) (by omega) (by omega) c3
      rw [if_neg o3]
      have same : ∀ (s1 s2 : Int32) (t1 t2 t3 : Nat → Int32), ∃ y, f_law_L38 L xs K (nI n) (nI R) (nI R) (n * (n + 1)) (n * (n + 1)) (n * (n + 1) * R) (nI R) (n * (n + 1)) (n * (n + 1)) (n * (n + 1) * R) (nI R) (n + 1) (n + 1) ((n + 1) * R) (nI R) (2 * R + 1) (2 * R + 1) R n (nI n) (nI R) 2160 54 6 j (nI (v + 4)) i7_1 i8_1 i9_1 i10_1 i11_1 i12_1 i13_1 a_5 a_6 a_7 a_9 a_10 a_11 a_13 a_14 a_15 s1 s2 t1 t2 t3 a_20 i5_22 i6_22 i7_22 i8_22 i9_22 i10_22 i11_22 a_25 a_26 a_27 = some y :=
        fun s1 s2 t1 t2 t3 => ih (v + 4) _ _ _ _ _ _ _ _ _ _ _ _ _ _ _ _ _ _ _ _ _ _ _ _ _ _ _ _ _ _ _ _ (by omega) (by omega) (by omega) hI
      by_cases o4 : op = 4
      · rw [if_pos o4]
        have e : i8_22 = i7_1 := by obtain ⟨_, _, _, _, _, _, _, _, _, _, _, _, _, _, _, _, _, _, e, _⟩ := hI; exact e
        unfold f_M_status f_X_status
        simp only [Option.bind_some]
        rw [if_pos e.symm]
        exact same _ _ _ _ _
      rw [if_neg o4]
      by_cases o5 : op = 5
      · rw [if_pos o5]
        have e : i9_22 = i8_1 := by obtain ⟨_, _, _, _, _, _, _, _, _, _, _, _, _, _, _, _, _, _, _, e, _⟩ := hI; exact e
        unfold f_M_steps f_X_steps
        simp only [Option.bind_some]
        rw [if_pos e.symm]
        exact same _ _ _ _ _
      rw [if_neg o5]
      by_cases o6 : op = 6
      · rw [if_pos o6, b1]
        simp only [cond_true]
        obtain ⟨x, c1, c2⟩ := Inv_determinant K (what := xs (nI v + 1).toNatClampNeg) hn hn0 hR hK hI
        rw [c1]
        simp only [Option.bind_some]
        rw [c2]
        simp only [Option.bind_some]
        rw [if_pos trivial]
        exact same _ _ _ _ _
      rw [if_neg o6]
      by_cases o7 : op = 7
      · rw [if_pos o7, b1, b2]
        simp only [cond_true]
        obtain ⟨x, c1, c2⟩ := Inv_numerator K (jj := xs (nI v + 1).toNatClampNeg) (what := xs (nI v + 2).toNatClampNeg) hn hn0 hR hK hI
        rw [c1]
        simp only [Option.bind_some]
        rw [c2]
        simp only [Option.bind_some]
        rw [if_pos trivial]
        exact same _ _ _ _ _
      rw [if_neg o7]
      by_cases o8 : op = 8
      · rw [if_pos o8, b1, b2]
        simp only [cond_true]
        obtain ⟨x, c1, c2⟩ := Inv_pivot K (kk := xs (nI v + 1).toNatClampNeg) (what := xs (nI v + 2).toNatClampNeg) hn hR hK hI
        rw [c1]
        simp only [Option.bind_some]
        rw [c2]
        simp only [Option.bind_some]
        rw [if_pos trivial]
        exact same _ _ _ _ _
      rw [if_neg o8]
      by_cases o9 : op = 9
      · rw [if_pos o9, b1, b2, b3]
        simp only [cond_true]
        obtain ⟨x, c1, c2⟩ := Inv_number K (row := xs (nI v + 1).toNatClampNeg) (col := xs (nI v + 2).toNatClampNeg) (what := xs (nI v + 3).toNatClampNeg) hn hR hK hI
        rw [c1]
        simp only [Option.bind_some]
        rw [c2]
        simp only [Option.bind_some]
        rw [if_pos trivial]
        exact same _ _ _ _ _
      rw [if_neg o9]
      by_cases o10 : op = 10
      · rw [if_pos o10, b1]
        simp only [cond_true]
        obtain ⟨x, c1, c2⟩ := Inv_row (ii := xs (nI v + 1).toNatClampNeg) hn hI
        rw [c1]
        simp only [Option.bind_some]
        rw [c2]
        simp only [Option.bind_some]
        rw [if_pos trivial]
        exact same _ _ _ _ _
      rw [if_neg o10]
      by_cases o11 : op = 11
      · rw [if_pos o11]
        obtain ⟨x, ss', sl', pl', mi', c1, c2⟩ := Inv_holds K (ss := i4_16) (sl := i5_16) (pl := a_17) (mi := a_18) hn hR hK hI
        rw [c1]
        simp only [Option.bind_some]
        rw [c2]
        simp only [Option.bind_some]
        rw [if_pos trivial]
        exact same _ _ _ _ _
      rw [if_neg o11]
      exact same _ _ _ _ _
set_option maxRecDepth 20000 in
set_option maxHeartbeats 4000000 in
theorem law_pure (L : Nat) (xs : Nat → Int32) (hL : L ≤ 2050) : f_law L xs 3000 = some () := by
  obtain ⟨n, R, f, g, rr, n1, n2, r1, r2, w1, w2, a1, a2, a3⟩ := X_init_ok 3000 (by decide) (cellv xs L 0) (cellv xs L 1)
  obtain ⟨sg, le, ra, b1, b2, b3, b4, b5⟩ := M_init_ok 3000 (by decide) n1 n2 r1 r2 w1 w2
  unfold f_law
  rw [b1]
  simp only [Option.bind_some]
  rw [a1]
  simp only [Option.bind_some]
  obtain ⟨y, hy⟩ := law_loop L xs 3000 n R hL (by decide) n1 n2 r1 r2 3000 2 _ _ _ _ _ 0 0 _ _ _ _ _ _ _ _ _ 0 0 (fun _ => 0) (fun _ => 0) (fun _ => 0) _ _ 0 0 _ _ _ _ _ _ _ (by decide) (by omega) (by decide) (Inv_start b2 b3 b4 a2 b5 a3)
  have hy' := hy
  rw [show nI 2 = (2 : Int32) from rfl] at hy'
  rw [hy']
  rfl
