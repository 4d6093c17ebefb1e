/-! Pure: products of slots' numbers summed; one number of a step. -/
theorem pow_two_add {R N : Nat} (h : N = 2 * R + 1) : (2147483648 : Nat) ^ N = 2147483648 * (2147483648 ^ R * 2147483648 ^ R) := by
  rw [h, Nat.pow_succ, Nat.two_mul, Nat.pow_add, Nat.mul_comm]
theorem nrep_lt {R s : Nat} {sg le li : Nat → Int32} {z : Int} (h : nrep R sg le li s z) : z.natAbs < 2147483648 ^ R := by
  obtain ⟨len, a, b, c, d, -⟩ := nrep_len h
  rw [← d]
  exact Nat.lt_of_lt_of_le (vl_lt _ len) (Nat.pow_le_pow_right (by decide) b)
/-- a product added to its side of the sum -/
theorem S_addProduct_ok (K : Nat) {N R RA nA nB sA sB : Nat} {za zb : Int} {f : Int32} {fi : Int} {pl mi sgA leA liA sgB leB liB : Nat → Int32} (hRA : RA = R) (hN : N = 2 * R + 1) (hR : R < 1073741) (hK : N < K) (hA : sA < nA) (hB : sB < nB) (hnA : nA < 1073741824) (hnB : nB < 1073741824) (hlA : nA * R < 1073741824) (hlB : nB * R < 1073741824) (a : nrep R sgA leA liA sA za) (b : nrep R sgB leB liB sB zb) (hf : f = sgz fi) (hfi : fi = 1 ∨ fi = -1) (hs : sid N pl mi) (hv : vl pl N + vl mi N + 2147483648 ^ R * 2147483648 ^ R < 2147483648 ^ N) :
    ∃ pl' mi' : Nat → Int32, f_S_addProduct K N pl N mi (nI RA) nA sgA nA leA (nA * R) liA (nI sA) (nI RA) nB sgB nB leB (nB * R) liB (nI sB) f = some (pl', mi') ∧ sid N pl' mi' ∧ (vl pl' N : Int) - vl mi' N = (vl pl N : Int) - vl mi N + fi * (za * zb) ∧ vl pl' N + vl mi' N ≤ vl pl N + vl mi N + 2147483648 ^ R * 2147483648 ^ R := by
  subst hRA
  have slA := slot_le (R := RA) hA
  have slB := slot_le (R := RA) hB
  obtain ⟨la, a1, a2, a3, a4, a5, a6⟩ := nrep_len a
  obtain ⟨lb, b1, b2, b3, b4, b5, b6⟩ := nrep_len b
  have hma := nrep_lt a
  have hmb := nrep_lt b
  have hprod : za.natAbs * zb.natAbs ≤ 2147483648 ^ RA * 2147483648 ^ RA := Nat.mul_le_mul (Nat.le_of_lt hma) (Nat.le_of_lt hmb)
  have hsg : sgz za * sgz zb * f = sgz (za * zb * fi) := by rw [sgz_mul, hf, sgz_mul]
  unfold f_S_addProduct
  rw [N_signOf_ok hA (by omega), N_signOf_ok hB (by omega)]
  simp only [Option.bind_some]
  rw [a5, b5, hsg]
  have LA : f_N_lengthOf nA leA (nI sA) = some (nI la) := by rw [N_lengthOf_ok hA (by omega), a1]
  have LB : f_N_lengthOf nB leB (nI sB) = some (nI lb) := by rw [N_lengthOf_ok hB (by omega), b1]
  have loop : ∀ r : Nat → Int32, (∀ t, t < N → ¬ r t < 0) → vl r N + 2147483648 ^ RA * 2147483648 ^ RA < 2147483648 ^ N → ∃ r' : Nat → Int32, f_S_addProduct_L44 K (nI sA) (nI sB) N (nI RA) nA leA (nA * RA) liA (nI RA) nB leB (nB * RA) liB K (nI 0) r = some (nI la, r') ∧ (∀ t, t < N → ¬ r' t < 0) ∧ vl r' N = vl r N + za.natAbs * zb.natAbs := by
    intro r hr hlt
    obtain ⟨r', h1, h2, h3⟩ := S_addProduct_L44_ok K (N := N) (la := la) (lb := lb) (nal := nA) (nla := nA * RA) (nbl := nB) (nlb := nB * RA) (sA := nI sA) (sB := nI sB) (i0 := nI RA) (i1 := nI RA) (al := leA) (ali := liA) (bl := leB) (bli := liB) (ga := fun i => liA (sA * RA + i)) (gb := fun i => liB (sB * RA + i)) (by omega) hK (by omega) LA LB (fun i hi => ⟨N_limbOf_ok (by omega) (by omega), a3 i hi⟩) (fun i hi => ⟨N_limbOf_ok (by omega) (by omega), b3 i hi⟩) la K 0 r (by omega) (by omega) hr (by rw [a4, b4, vl_0]; omega)
    rw [a4, b4, vl_0, Nat.zero_mul, Nat.add_zero] at h3
    exact ⟨r', h1, h2, h3⟩
  by_cases hz : za * zb = 0
  · rw [hz, Int.zero_mul, sgz_0, if_pos rfl]
    exact ⟨pl, mi, rfl, hs, by rw [Int.mul_zero, Int.add_zero], by omega⟩
  · have hne : ¬ za * zb * fi = 0 := by
      rcases hfi with h | h <;> rw [h] <;> omega
    rcases Int.lt_or_gt_of_ne hne with q | q
    · rw [sgz_n q, if_neg (by decide), if_pos (by decide)]
      obtain ⟨r', h1, h2, h3⟩ := loop mi hs.2 (by omega)
      refine ⟨pl, r', ?_, ⟨hs.1, h2⟩, ?_, by omega⟩
      · rw [show (0 : Int32) = nI 0 from rfl, h1]; rfl
      · rw [h3, ← Int.natAbs_mul]
        generalize za * zb = p at *
        rcases hfi with h | h <;> rw [h] at q ⊢ <;> omega
    · rw [sgz_p q, if_neg (by decide), if_neg (by decide)]
      obtain ⟨r', h1, h2, h3⟩ := loop pl hs.1 (by omega)
      refine ⟨r', mi, ?_, ⟨h2, hs.2⟩, ?_, by omega⟩
      · rw [S_addProduct_L44b_eq, show (0 : Int32) = nI 0 from rfl, h1]; rfl
      · rw [h3, ← Int.natAbs_mul]
        generalize za * zb = p at *
        rcases hfi with h | h <;> rw [h] at q ⊢ <;> omega
/-- the place of a number of the matrix -/
theorem M_slotAt_ok {n i j : Nat} {ra : Nat → Int32} {rw : Nat → Nat} (hn : n < 1000) (hi : i < n) (hj : j ≤ n) (hr : ∀ t, t < n → ra t = nI (rw t) ∧ rw t < n) : f_M_slotAt (nI n) n ra (nI i) (nI j) = some (nI (rw i * (n + 1) + j)) := by
  unfold f_M_slotAt
  rw [inb_nI hi (by omega), nI_clamp (show i < 2 ^ 31 by omega), (hr i hi).1, nI_1, pk_mul, nI_add]
  rfl
theorem cell_lt {n i j : Nat} (hi : i < n) (hj : j ≤ n) : i * (n + 1) + j < n * (n + 1) := by
  have := slot_le (R := n + 1) hi
  omega
theorem M_makeMinor_ok (K : Nat) {n R kk i j : Nat} {Z : Nat → Int} {z : Int} {sg le li pl mi dv ra : Nat → Int32} {rw : Nat → Nat} (hn : n ≤ 6) (hR : R ≤ 16) (hR0 : 0 < R) (hK : 200 < K) (hk : kk < n) (hi : i < n) (hj : j ≤ n) (hr : ∀ t, t < n → ra t = nI (rw t) ∧ rw t < n) (hst : nst R (n * (n + 1)) sg le li Z)
    (hp : kk = 0 ∨ Z (rw (kk - 1) * (n + 1) + (kk - 1)) ≠ 0) (hz : Z (rw kk * (n + 1) + kk) * Z (rw i * (n + 1) + j) - Z (rw i * (n + 1) + kk) * Z (rw kk * (n + 1) + j) = (if kk = 0 then 1 else Z (rw (kk - 1) * (n + 1) + (kk - 1))) * z) :
    ∃ (x ss sl : Int32) (sg' le' li' pl' mi' dv' : Nat → Int32), f_M_makeMinor K (nI n) (nI R) (n * (n + 1)) sg (n * (n + 1)) le (n * (n + 1) * R) li (nI R) (2 * R + 1) pl (2 * R + 1) mi R dv n ra (nI kk) (nI i) (nI j) = some (x, sg', le', li', ss, sl, pl', mi', dv') ∧ ((x = 1 ∧ z.natAbs < 2147483648 ^ R ∧ nst R (n * (n + 1)) sg' le' li' (zset Z (rw i * (n + 1) + j) z)) ∨ (x = 0 ∧ ¬ z.natAbs < 2147483648 ^ R ∧ sg' = sg ∧ le' = le ∧ li' = li)) := by
  have hnS : n * (n + 1) ≤ 42 := by
    have := Nat.mul_le_mul hn (show n + 1 ≤ 7 by omega)
    omega
  have hnl : n * (n + 1) * R ≤ 42 * 16 := Nat.mul_le_mul hnS hR
  obtain ⟨N, hN⟩ : ∃ N, N = 2 * R + 1 := ⟨_, rfl⟩
  obtain ⟨pl0, mi0, c1, c2, c3⟩ := S_clear_ok K (n := 2 * R + 1) (pl := pl) (mi := mi) (by omega) (by omega)
  have P := pow_two_add hN
  have hpos : 0 < (2147483648 : Nat) ^ R * 2147483648 ^ R := Nat.mul_pos (Nat.pow_pos (by decide)) (Nat.pow_pos (by decide))
  rw [← hN] at c1 c2 c3 ⊢
  have s0 : sid N pl0 mi0 := ⟨z_nn c2, z_nn c3⟩
  have v0 : vl pl0 N = 0 := vl_zero N c2
  have v1 : vl mi0 N = 0 := vl_zero N c3
  have Skk := M_slotAt_ok (ra := ra) (rw := rw) (by omega) hk (show kk ≤ n by omega) hr
  have Sij := M_slotAt_ok (ra := ra) (rw := rw) (by omega) hi hj hr
  have Sik := M_slotAt_ok (ra := ra) (rw := rw) (by omega) hi (show kk ≤ n by omega) hr
  have Skj := M_slotAt_ok (ra := ra) (rw := rw) (by omega) hk hj hr
  have Lkk := cell_lt (hr kk hk).2 (show kk ≤ n by omega)
  have Lij := cell_lt (hr i hi).2 hj
  have Lik := cell_lt (hr i hi).2 (show kk ≤ n by omega)
  have Lkj := cell_lt (hr kk hk).2 hj
  obtain ⟨pl1, mi1, a1, a2, a3, a4⟩ := S_addProduct_ok K (N := N) (R := R) (RA := R) (nA := n * (n + 1)) (nB := n * (n + 1)) (f := 1) (fi := 1) rfl hN (by omega) (by omega) Lkk Lij (by omega) (by omega) (by omega) (by omega) (hst _ Lkk) (hst _ Lij) rfl (Or.inl rfl) s0 (by rw [v0, v1, P]; omega)
  obtain ⟨pl2, mi2, b1, b2, b3, b4⟩ := S_addProduct_ok K (N := N) (R := R) (RA := R) (nA := n * (n + 1)) (nB := n * (n + 1)) (f := -1) (fi := -1) rfl hN (by omega) (by omega) Lik Lkj (by omega) (by omega) (by omega) (by omega) (hst _ Lik) (hst _ Lkj) rfl (Or.inr rfl) a2 (by rw [P]; omega)
  rw [v0, v1] at a3
  rw [a3] at b3
  obtain ⟨v, hv⟩ : ∃ v, v = (vl pl2 N : Int) - vl mi2 N := ⟨_, rfl⟩
  have hvz : v = (if kk = 0 then 1 else Z (rw (kk - 1) * (n + 1) + (kk - 1))) * z := by rw [← hz, hv, b3]; omega
  obtain ⟨m, r, d1, d2, d3, d4, d5, d6⟩ := S_settle_ok K (N := N) (pl := pl2) (mi := mi2) (by omega) (by omega) b2.1 b2.2
  rw [← hv] at d1 d6
  unfold f_M_makeMinor
  rw [c1]
  simp only [Option.bind_some]
  rw [Skk]
  simp only [Option.bind_some]
  rw [Sij]
  simp only [Option.bind_some]
  rw [S_addProductSame_eq, a1]
  simp only [Option.bind_some]
  rw [Sik]
  simp only [Option.bind_some]
  rw [Skj]
  simp only [Option.bind_some]
  rw [S_addProductSame_eq, b1]
  simp only [Option.bind_some]
  rw [d1]
  simp only [Option.bind_some]
  have fin : ∀ (m' : Nat) (r' : Nat → Int32), m' ≤ N → (∀ t, t < N → ¬ r' t < 0) → (∀ t, t + 1 = m' → ¬ r' t = 0) → vl r' m' = z.natAbs → ∃ (x : Int32) (sg' le' li' : Nat → Int32), f_S_storeIn (nI R) (sgz z) (nI m') N r' (nI R) (n * (n + 1)) sg (n * (n + 1)) le (n * (n + 1) * R) li (nI (rw i * (n + 1) + j)) = some (x, sg', le', li') ∧ isz x = true ∧ ((x = 1 ∧ z.natAbs < 2147483648 ^ R ∧ nst R (n * (n + 1)) sg' le' li' (zset Z (rw i * (n + 1) + j) z)) ∨ (x = 0 ∧ ¬ z.natAbs < 2147483648 ^ R ∧ sg' = sg ∧ le' = le ∧ li' = li)) := by
    intro m' r' h1 h2 h3 h4
    obtain ⟨g1, g2⟩ := S_storeIn_ok (NP := N) (R := R) (nS := n * (n + 1)) (n := m') (s := rw i * (n + 1) + j) (z := z) (r := r') (sg := sg) (le := le) (li := li) (Z := Z) (by omega) (by omega) Lij (by omega) (by omega) h1 h2 h3 h4 hst
    by_cases hz : z.natAbs < 2147483648 ^ R
    · obtain ⟨sg', le', li', k1, k2⟩ := g1 hz
      exact ⟨1, sg', le', li', k1, rfl, Or.inl ⟨rfl, hz, k2⟩⟩
    · exact ⟨0, sg, le, li, g2 hz, rfl, Or.inr ⟨rfl, hz, rfl, rfl, rfl⟩⟩
  by_cases h0 : kk = 0
  · rw [if_pos h0, Int.one_mul] at hvz
    subst hvz
    obtain ⟨x, sg', le', li', k1, k2, k3⟩ := fin m r d2 d3 d5 (by rw [← d6, vl_cut d2 d4])
    rw [if_pos (show nI kk ≤ 0 by rw [h0]; decide)]
    rw [k1]
    simp only [Option.bind_some]
    rw [k2]
    exact ⟨x, _, _, sg', le', li', _, _, _, rfl, k3⟩
  · rw [if_neg h0] at hvz
    have hpz := hp.resolve_left h0
    have Lp := cell_lt (hr (kk - 1) (by omega)).2 (show kk - 1 ≤ n by omega)
    obtain ⟨m', r', dv', e1, e2, e3, e4, e5⟩ := S_divideBy_ok K (NP := N) (ND := R) (R := R) (nS := n * (n + 1)) (n := m) (s := rw (kk - 1) * (n + 1) + (kk - 1)) (v := v) (zd := Z (rw (kk - 1) * (n + 1) + (kk - 1))) (z := z) (r := r) (dv := dv) (by omega) (by omega) (by omega) (Nat.le_refl R) Lp (by omega) (by omega) d2 d3 d4 d5 d6 (hst _ Lp) hpz hvz
    obtain ⟨x, sg', le', li', k1, k2, k3⟩ := fin m' r' e2 e3 e4 e5
    have Sp := M_slotAt_ok (ra := ra) (rw := rw) (i := kk - 1) (j := kk - 1) (by omega) (show kk - 1 < n by omega) (show kk - 1 ≤ n by omega) hr
    rw [if_neg (nI_nle (by omega) (by omega)), show nI kk - 1 = nI (kk - 1) by obtain ⟨t, rfl⟩ : ∃ t, kk = t + 1 := ⟨kk - 1, by omega⟩; exact nI_pred t, Sp]
    simp only [Option.bind_some]
    rw [e1]
    simp only [Option.bind_some]
    rw [k1]
    simp only [Option.bind_some]
    rw [k2]
    exact ⟨x, _, _, sg', le', li', _, _, _, rfl, k3⟩
