/-! Program and model side by side: what they answer. -/
theorem cell_tell {n R i j : Nat} {a5 a6 a7 a20 : Nat → Int32} {Z : Nat → Int} {M : Nat → Nat → Int} {ro : Nat → Nat} {what : Int32} (hn : n ≤ 6) (hR : R ≤ 16) (hi : i < n) (hj : j ≤ n) (h1 : nst R (n * (n + 1)) a5 a6 a7 Z) (h5 : cm n ro Z M) (h7 : rok n a20 ro) : f_N_tell (nI R) (n * (n + 1)) a5 (n * (n + 1)) a6 (n * (n + 1) * R) a7 (nI (ro i * (n + 1) + j)) what = some (ansz (M i j) what) := by
  have hnS : n * (n + 1) ≤ 42 := by
    have := Nat.mul_le_mul hn (show n + 1 ≤ 7 by omega)
    omega
  have hnl : n * (n + 1) * R ≤ 42 * 16 := Nat.mul_le_mul hnS hR
  have L := cell_lt (h7.1 i hi).2 hj
  have := h1 _ L
  rw [h5 i hi j hj] at this
  exact N_tell_ok L (by omega) (by omega) (by omega) this
theorem X_cell (K : Nat) {n i j : Nat} {f g : Nat → Int32} {ZX : Nat → Int} {M : Nat → Nat → Int} {what : Int32} (hn : n ≤ 6) (hK : 2300 < K) (hi : i < n) (hj : j ≤ n) (h4 : mst f g ZX) (h6 : mm n ZX M) : f_X_told K 2160 f 54 g (nI (plc n i j)) what 1 = some (ansz (M i j) what) := by
  have L := plc_lt hn hi hj
  have := X_told_ok K (p := plc n i j) (what := what) (ti := 1) (by omega) (by omega) (by omega) (by omega) h4 (Or.inl rfl)
  rw [Int.one_mul, h6 i hi j hj] at this
  exact this
theorem X_turn (K : Nat) {p : Nat} {od : Bool} {z : Int} {f g : Nat → Int32} {ZX : Nat → Int} {what : Int32} (hK : 2300 < K) (hp : p < 48) (h4 : mst f g ZX) (hz : ZX p = z) : (if b2i od = 0 then (f_X_told K 2160 f 54 g (nI p) what 1).bind fun x6 => some x6 else (f_X_told K 2160 f 54 g (nI p) what (-1)).bind fun x8 => some x8) = some (ansz (osg od z) what) := by
  cases od with
  | true =>
    have := X_told_ok K (p := p) (what := what) (ti := -1) (by omega) (by omega) (by omega) (by omega) h4 (Or.inr rfl)
    rw [if_neg (show ¬ b2i true = 0 by decide), show (-1 : Int32) = sgz (-1) by decide, this]
    rw [hz]
    unfold osg
    rw [if_pos rfl, show (-1) * z = -z by omega]
    rfl
  | false =>
    have := X_told_ok K (p := p) (what := what) (ti := 1) (by omega) (by omega) (by omega) (by omega) h4 (Or.inl rfl)
    rw [if_pos (show b2i false = 0 by decide), show (1 : Int32) = sgz 1 by decide, this]
    rw [hz]
    unfold osg
    rw [if_neg (by decide), Int.one_mul]
    rfl
section
variable (K : Nat) {n R : Nat} {told steps piv odd ch cs cl chX csX clX st dn pvX odX : Int32} {a5 a6 a7 a9 a10 a11 a13 a14 a15 a20 a25 a26 a27 : Nat → Int32}
theorem Inv_determinant {what : Int32} (hn : n ≤ 6) (hn0 : 0 < n) (hR : R ≤ 16) (hK : 2300 < K) (h : Inv n R told steps piv odd ch cs cl a5 a6 a7 a9 a10 a11 a13 a14 a15 a20 chX csX clX st dn pvX odX a25 a26 a27) :
    ∃ x : Int32, f_M_determinant (nI n) told (nI R) (n + 1) a13 (n + 1) a14 ((n + 1) * R) a15 what = some x ∧ f_X_determinant K (nI n) st odX 2160 a25 54 a26 what = some x := by
  have hnl2 : (n + 1) * R ≤ 7 * 16 := Nat.mul_le_mul (by omega) hR
  obtain ⟨M, Z, ZL, ZO, ZX, ro, pn, od, h1, h2, h3, h4, h5, h6, h7, h8, h9, h10, h11, h12, h13, h14, h15, h16, hp⟩ := h
  unfold f_M_determinant f_X_determinant
  rw [h11]
  by_cases t2 : told = 2
  · rw [if_pos t2, if_pos t2]
    by_cases w1 : what = (-2)
    · rw [if_pos w1]; exact ⟨_, rfl, rfl⟩
    · rw [if_neg w1]
      by_cases w2 : what = (-1)
      · rw [if_pos w2]; exact ⟨_, rfl, rfl⟩
      · rw [if_neg w2]; exact ⟨_, rfl, rfl⟩
  · rw [if_neg t2, if_neg t2]
    by_cases t1 : told = 1
    · rw [if_pos t1, if_pos t1]
      have hq : ∃ N : Nat → Int, (∀ c, c < n → ZO c = osg od (N c) ∧ ZX (42 + c) = N c) ∧ ZO n = osg od (M (n - 1) (n - 1)) ∧ ∀ row, row < n → sumN (fun a b => ZL (a * (n + 1) + b)) ZO row n 0 = ZL (row * (n + 1) + n) * ZO n := by
        rcases hp with ⟨p1, _⟩ | ⟨_, ⟨q1, _⟩ | ⟨q1, _⟩ | ⟨_, q⟩ | q1 | q1⟩
        · rw [p1] at t1; exact absurd t1 (by decide)
        · rw [q1] at t1; exact absurd t1 (by decide)
        · rw [q1] at t1; exact absurd t1 (by decide)
        · exact q
        · rw [q1] at t1; exact absurd t1 (by decide)
        · rw [q1] at t1; exact absurd t1 (by decide)
      obtain ⟨N, n1, n2, n3⟩ := hq
      have hp1 : nI n - 1 = nI (n - 1) := by obtain ⟨t, rfl⟩ : ∃ t, n = t + 1 := ⟨n - 1, by omega⟩; exact nI_pred t
      have L := plc_lt hn (show n - 1 < n by omega) (show n - 1 ≤ n by omega)
      have a := N_tell_ok (R := R) (nS := n + 1) (s := n) (what := what) (by omega) (by omega) (by omega) (by omega) (h3 n (by omega))
      rw [a, n2, hp1, X_place_ok hn (show n - 1 < n by omega) (show n - 1 ≤ n by omega)]
      simp only [Option.bind_some]
      rw [h16]
      exact ⟨_, rfl, X_turn K hK (by omega) h4 (h6 _ (by omega) _ (by omega))⟩
    · rw [if_neg t1, if_neg t1]
      exact ⟨_, rfl, rfl⟩
theorem Inv_numerator {jj what : Int32} (hn : n ≤ 6) (hn0 : 0 < n) (hR : R ≤ 16) (hK : 2300 < K) (h : Inv n R told steps piv odd ch cs cl a5 a6 a7 a9 a10 a11 a13 a14 a15 a20 chX csX clX st dn pvX odX a25 a26 a27) :
    ∃ x : Int32, f_M_numerator (nI n) told (nI R) (n + 1) a13 (n + 1) a14 ((n + 1) * R) a15 jj what = some x ∧ f_X_numerator K (nI n) st odX 2160 a25 54 a26 jj what = some x := by
  have hnl2 : (n + 1) * R ≤ 7 * 16 := Nat.mul_le_mul (by omega) hR
  obtain ⟨M, Z, ZL, ZO, ZX, ro, pn, od, h1, h2, h3, h4, h5, h6, h7, h8, h9, h10, h11, h12, h13, h14, h15, h16, hp⟩ := h
  unfold f_M_numerator f_X_numerator
  rw [h11]
  by_cases t1 : told = 1
  · rw [if_pos t1, if_pos t1]
    have hq : ∃ N : Nat → Int, (∀ c, c < n → ZO c = osg od (N c) ∧ ZX (42 + c) = N c) := by
      rcases hp with ⟨p1, _⟩ | ⟨_, ⟨q1, _⟩ | ⟨q1, _⟩ | ⟨_, N, q, _⟩ | q1 | q1⟩
      · rw [p1] at t1; exact absurd t1 (by decide)
      · rw [q1] at t1; exact absurd t1 (by decide)
      · rw [q1] at t1; exact absurd t1 (by decide)
      · exact ⟨N, q⟩
      · rw [q1] at t1; exact absurd t1 (by decide)
      · rw [q1] at t1; exact absurd t1 (by decide)
    obtain ⟨N, n1⟩ := hq
    by_cases j1 : jj < 0
    · rw [if_pos j1, if_pos j1]; exact ⟨_, rfl, rfl⟩
    · rw [if_neg j1, if_neg j1]
      by_cases j2 : nI n ≤ jj
      · rw [if_pos j2, if_pos j2]; exact ⟨_, rfl, rfl⟩
      · rw [if_neg j2, if_neg j2]
        obtain ⟨c, hc, ec⟩ := nI_of j1
        have hcn : c < n := by rw [ec, nI_leI (by omega) hc] at j2; omega
        obtain ⟨z1, z2⟩ := n1 c hcn
        have a := N_tell_ok (R := R) (nS := n + 1) (s := c) (what := what) (by omega) (by omega) (by omega) (by omega) (h3 c (by omega))
        rw [ec, a, z1, show (42 : Int32) = nI 42 from rfl, nI_add, h16]
        simp only [Option.bind_some]
        exact ⟨_, rfl, X_turn K hK (by omega) h4 z2⟩
  · rw [if_neg t1, if_neg t1]
    exact ⟨_, rfl, rfl⟩
theorem Inv_pivot {kk what : Int32} (hn : n ≤ 6) (hR : R ≤ 16) (hK : 2300 < K) (h : Inv n R told steps piv odd ch cs cl a5 a6 a7 a9 a10 a11 a13 a14 a15 a20 chX csX clX st dn pvX odX a25 a26 a27) :
    ∃ x : Int32, f_M_pivot (nI n) piv (nI R) (n * (n + 1)) a5 (n * (n + 1)) a6 (n * (n + 1) * R) a7 n a20 kk what = some x ∧ f_X_pivot K (nI n) pvX 2160 a25 54 a26 kk what = some x := by
  obtain ⟨M, Z, ZL, ZO, ZX, ro, pn, od, h1, h2, h3, h4, h5, h6, h7, h8, h9, h10, h11, h12, h13, h14, h15, h16, hp⟩ := h
  unfold f_M_pivot f_X_pivot
  rw [h13, h14]
  by_cases j1 : kk < 0
  · rw [if_pos j1, if_pos j1]; exact ⟨_, rfl, rfl⟩
  · rw [if_neg j1, if_neg j1]
    by_cases j2 : nI pn ≤ kk
    · rw [if_pos j2, if_pos j2]; exact ⟨_, rfl, rfl⟩
    · rw [if_neg j2, if_neg j2]
      obtain ⟨c, hc, ec⟩ := nI_of j1
      have hcn : c < pn := by rw [ec, nI_leI (by omega) hc] at j2; omega
      rw [ec, M_slotAt_ok (ra := a20) (rw := ro) (by omega) (show c < n by omega) (show c ≤ n by omega) h7.1, X_place_ok hn (show c < n by omega) (show c ≤ n by omega)]
      simp only [Option.bind_some]
      rw [cell_tell hn hR (show c < n by omega) (show c ≤ n by omega) h1 h5 h7, X_cell K hn hK (show c < n by omega) (show c ≤ n by omega) h4 h6]
      exact ⟨_, rfl, rfl⟩
theorem Inv_number {row col what : Int32} (hn : n ≤ 6) (hR : R ≤ 16) (hK : 2300 < K) (h : Inv n R told steps piv odd ch cs cl a5 a6 a7 a9 a10 a11 a13 a14 a15 a20 chX csX clX st dn pvX odX a25 a26 a27) :
    ∃ x : Int32, f_M_number (nI n) (nI R) (n * (n + 1)) a5 (n * (n + 1)) a6 (n * (n + 1) * R) a7 n a20 row col what = some x ∧ f_X_number K (nI n) 2160 a25 54 a26 row col what = some x := by
  obtain ⟨M, Z, ZL, ZO, ZX, ro, pn, od, h1, h2, h3, h4, h5, h6, h7, h8, h9, h10, h11, h12, h13, h14, h15, h16, hp⟩ := h
  unfold f_M_number f_X_number
  rcases isPlace_cases (n := n) (row := row) (col := col) hn with ⟨q1, q2⟩ | ⟨i, j, hi, hj, ei, ej, q1, q2⟩
  · rw [q1, q2]; exact ⟨_, rfl, rfl⟩
  · rw [q1, q2]
    simp only [Option.bind_some]
    rw [if_neg (show ¬ (1 : Int32) = 0 by decide), if_neg (show ¬ (1 : Int32) = 0 by decide), ei, ej, M_slotAt_ok (ra := a20) (rw := ro) (by omega) hi hj h7.1, X_place_ok hn hi hj]
    simp only [Option.bind_some]
    rw [cell_tell hn hR hi hj h1 h5 h7, X_cell K hn hK hi hj h4 h6]
    exact ⟨_, rfl, rfl⟩
theorem Inv_row {ii : Int32} (hn : n ≤ 6) (h : Inv n R told steps piv odd ch cs cl a5 a6 a7 a9 a10 a11 a13 a14 a15 a20 chX csX clX st dn pvX odX a25 a26 a27) :
    ∃ x : Int32, f_M_row (nI n) n a20 ii = some x ∧ f_X_row (nI n) 6 a27 ii = some x := by
  obtain ⟨M, Z, ZL, ZO, ZX, ro, pn, od, h1, h2, h3, h4, h5, h6, h7, h8, h9, h10, h11, h12, h13, h14, h15, h16, hp⟩ := h
  unfold f_M_row f_X_row
  by_cases j1 : ii < 0
  · rw [if_pos j1, if_pos j1]; exact ⟨_, rfl, rfl⟩
  · rw [if_neg j1, if_neg j1]
    by_cases j2 : nI n ≤ ii
    · rw [if_pos j2, if_pos j2]; exact ⟨_, rfl, rfl⟩
    · rw [if_neg j2, if_neg j2]
      obtain ⟨c, hc, ec⟩ := nI_of j1
      have hcn : c < n := by rw [ec, nI_leI (by omega) hc] at j2; omega
      rw [ec, inb_nI hcn (by omega), inb_nI (show c < 6 by omega) (by omega), nI_clamp (show c < 2 ^ 31 by omega), (h7.1 c hcn).1, (h8.1 c hcn).1]
      exact ⟨_, rfl, rfl⟩
theorem Inv_holds {ss sl : Int32} {pl mi : Nat → Int32} (hn : n ≤ 6) (hR : R ≤ 16) (hK : 2300 < K) (h : Inv n R told steps piv odd ch cs cl a5 a6 a7 a9 a10 a11 a13 a14 a15 a20 chX csX clX st dn pvX odX a25 a26 a27) :
    ∃ (x ss' sl' : Int32) (pl' mi' : Nat → Int32), f_M_holds K (nI n) told (nI R) (n * (n + 1)) a9 (n * (n + 1)) a10 (n * (n + 1) * R) a11 (nI R) (n + 1) a13 (n + 1) a14 ((n + 1) * R) a15 ss sl (2 * R + 1) pl (2 * R + 1) mi = some (x, ss', sl', pl', mi') ∧ f_X_holds st = some x := by
  obtain ⟨M, Z, ZL, ZO, ZX, ro, pn, od, h1, h2, h3, h4, h5, h6, h7, h8, h9, h10, h11, h12, h13, h14, h15, h16, hp⟩ := h
  by_cases t1 : told = 1
  · have hq : ∀ row, row < n → sumN (fun a b => ZL (a * (n + 1) + b)) ZO row n 0 = ZL (row * (n + 1) + n) * ZO n := by
      rcases hp with ⟨p1, _⟩ | ⟨_, ⟨q1, _⟩ | ⟨q1, _⟩ | ⟨_, N, _, _, q⟩ | q1 | q1⟩
      · rw [p1] at t1; exact absurd t1 (by decide)
      · rw [q1] at t1; exact absurd t1 (by decide)
      · rw [q1] at t1; exact absurd t1 (by decide)
      · exact q
      · rw [q1] at t1; exact absurd t1 (by decide)
      · rw [q1] at t1; exact absurd t1 (by decide)
    obtain ⟨ss', sl', pl', mi', e⟩ := M_holds_ok K (ss := ss) (sl := sl) (pl := pl) (mi := mi) hn hR (by omega) h2 h3 hq
    rw [h11, t1, e]
    exact ⟨_, _, _, _, _, rfl, rfl⟩
  · unfold f_M_holds f_X_holds
    rw [h11, if_neg t1, if_neg t1]
    exact ⟨_, _, _, _, _, rfl, rfl⟩
end
