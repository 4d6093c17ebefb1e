/-! Program and model side by side: a step. -/
theorem bd_of {n R : Nat} {a5 a6 a7 a20 : Nat → Int32} {Z : Nat → Int} {M : Nat → Nat → Int} {ro : Nat → Nat} (h1 : nst R (n * (n + 1)) a5 a6 a7 Z) (h5 : cm n ro Z M) (h7 : rok n a20 ro) : bd n R M := by
  intro a ha b hb
  have := nrep_lt (h1 _ (cell_lt (h7.1 a ha).2 hb))
  rw [h5 a ha b hb] at this
  exact this
theorem elim_join (K : Nat) {n R k pn : Nat} {od : Bool} {M : Nat → Nat → Int} {Z ZL ZO ZX : Nat → Int} {ro : Nat → Nat} {ss sl cs cl chX csX clX : Int32} {a5 a6 a7 a9 a10 a11 a13 a14 a15 a20 a25 a26 a27 pl mi dv : Nat → Int32} (hn : n ≤ 6) (hR : R ≤ 16) (hR0 : 0 < R) (hK : 2300 < K) (hk : k < n)
    (h1 : nst R (n * (n + 1)) a5 a6 a7 Z) (h2 : nst R (n * (n + 1)) a9 a10 a11 ZL) (h3 : nst R (n + 1) a13 a14 a15 ZO) (h4 : mst a25 a26 ZX) (h5 : cm n ro Z M) (h6 : mm n ZX M) (h7 : rok n a20 ro) (h8 : rok n a27 ro) (h9 : onto n ro) (h10 : pn ≤ n) (hB : BI n k (ldd n ro ZL) M) :
    ∃ (x pv' od' ss' sl' : Int32) (sg' le' li' pl' mi' dv' ra' f' g' rr' : Nat → Int32), f_M_eliminateColumn K (nI n) (nI pn) (b2i od) (nI R) (n * (n + 1)) a5 (n * (n + 1)) a6 (n * (n + 1) * R) a7 (nI R) ss sl (2 * R + 1) pl (2 * R + 1) mi R dv n a20 (nI k) = some (x, pv', od', sg', le', li', ss', sl', pl', mi', dv', ra') ∧ f_X_eliminate K (nI n) (nI R) (nI pn) (b2i od) 2160 a25 54 a26 6 a27 (nI k) = some (x, pv', od', f', g', rr') ∧ Inv n R x (nI (k + 1)) pv' od' (-1) cs cl sg' le' li' a9 a10 a11 a13 a14 a15 ra' chX csX clX x (nI (k + 1)) pv' od' f' g' rr' := by
  obtain ⟨x, pv', od', ss', sl', sg', le', li', pl', mi', dv', ra', Z', e1, e2, e3, e4, e5, e6, e7⟩ := M_eliminateColumn_ok K (n := n) (R := R) (kk := k) (piv := pn) (odd := od) (pv := nI pn) (ss := ss) (sl := sl) (pl := pl) (mi := mi) (dv := dv) hn hR hR0 (by omega) hk h7 h1 h5 rfl (BI_pvt hB) (spE_hdiv hB)
  obtain ⟨x2, pv2, od2, f', g', rr', Z2, g1, g2, g3, g4, g5, g6, g7, g8, g9⟩ := X_eliminate_ok K (n := n) (R := R) (kk := k) (piv := pn) (odd := od) (pv := nI pn) hn hR (by omega) hk h8 h4 h6 (bd_of h1 h5 h7) rfl (BI_pvt hB) (spE_hdiv hB)
  obtain ⟨k1, k2, k3⟩ := spE_ok (R := R) (piv := pn) (odd := od) hk hB h9 h10
  rw [← e2] at g2 k3
  rw [← e3] at g3
  rw [← e4] at g4
  rw [g2, g3, g4] at g1
  refine ⟨x, pv', od', ss', sl', sg', le', li', pl', mi', dv', ra', f', g', rr', e1, g1, (spE n R k M ro od pn).2.1, Z', ZL, ZO, Z2, (spE n R k M ro od pn).2.2.1, (spE n R k M ro od pn).2.2.2.2, (spE n R k M ro od pn).2.2.2.1, e6, h2, h3, g6, e7, g7, e5, g5, k1, k2, rfl, rfl, e3, e3, e4, e4, Or.inr ⟨rfl, ?_⟩⟩
  rcases k3 with ⟨q1, q2, q3⟩ | q | q
  · by_cases hl : k + 1 < n
    · exact Or.inl ⟨q1, k + 1, by omega, hl, rfl, q3, q2⟩
    · have hkn : k + 1 = n := by omega
      rw [hkn] at q2 q3
      obtain ⟨N, c1, c2⟩ := cramer q2 (by omega) (fun i t ht => by unfold ldd; rw [if_pos ht])
      exact Or.inr (Or.inl ⟨q1, q3, 0, N, by omega, by rw [hkn]; rfl, q2.1, ⟨c1, c2⟩, fun c hc1 hc2 => by omega⟩)
  · exact Or.inr (Or.inr (Or.inr (Or.inl q)))
  · exact Or.inr (Or.inr (Or.inr (Or.inr q)))
theorem osg_mul {od : Bool} : ∃ s : Int, ∀ z, osg od z = s * z := by
  unfold osg
  cases od with
  | true => exact ⟨-1, fun z => by rw [if_pos rfl]; omega⟩
  | false => exact ⟨1, fun z => by rw [if_neg (by decide)]; omega⟩
theorem solve_join (K : Nat) {n R e : Nat} {od : Bool} {M : Nat → Nat → Int} {N Z ZL ZO ZX : Nat → Int} {ro : Nat → Nat} {cs cl chX csX clX : Int32} {a5 a6 a7 a9 a10 a11 a13 a14 a15 a20 a25 a26 a27 pl mi dv : Nat → Int32} (hn : n ≤ 6) (hR : R ≤ 16) (hR0 : 0 < R) (hK : 2300 < K) (he : e < n)
    (h1 : nst R (n * (n + 1)) a5 a6 a7 Z) (h2 : nst R (n * (n + 1)) a9 a10 a11 ZL) (h3 : nst R (n + 1) a13 a14 a15 ZO) (h4 : mst a25 a26 ZX) (h5 : cm n ro Z M) (h6 : mm n ZX M) (h7 : rok n a20 ro) (h8 : rok n a27 ro) (h9 : onto n ro)
    (hp0 : ∀ c, c < n → M c c ≠ 0) (hcr : crN n M (ldd n ro ZL) N) (hN : ∀ c, n - e ≤ c → c < n → ZO c = N c ∧ ZX (42 + c) = N c ∧ (N c).natAbs < 2147483648 ^ R) :
    ∃ (x ss' sl' : Int32) (sg' le' li' pl' mi' dv' f' g' : Nat → Int32), f_M_solveRow K (nI n) (b2i od) (nI R) (n * (n + 1)) a5 (n * (n + 1)) a6 (n * (n + 1) * R) a7 (nI R) (n + 1) a13 (n + 1) a14 ((n + 1) * R) a15 (nI R) (2 * R + 1) pl (2 * R + 1) mi R dv n a20 (nI (n - 1 - e)) = some (x, sg', le', li', ss', sl', pl', mi', dv') ∧ f_X_insert K (nI n) (nI R) 2160 a25 54 a26 (nI (n - 1 - e)) = some (x, f', g') ∧ Inv n R x (nI (n + e + 1)) (nI n) (b2i od) (-1) cs cl a5 a6 a7 a9 a10 a11 sg' le' li' a20 chX csX clX x (nI (n + e + 1)) (nI n) (b2i od) f' g' a27 := by
  obtain ⟨i, hi⟩ : ∃ i, i = n - 1 - e := ⟨_, rfl⟩
  rw [← hi]
  have hin : i < n := by omega
  have hs : sumN M ZO i (n - (i + 1)) (i + 1) = sumN M N i (n - (i + 1)) (i + 1) := sumN_congr _ _ (fun c c1 c2 => (hN c (by omega) (by omega)).1)
  have hz : M (n - 1) (n - 1) * M i n - sumN M N i (n - (i + 1)) (i + 1) = M i i * N i := by
    have := hcr.1 i hin
    rw [show n - i = n - (i + 1) + 1 by omega, sumN, Int.mul_comm (M i n)] at this
    omega
  obtain ⟨x, ss', sl', sg', le', li', pl', mi', dv', e1, e2⟩ := M_solveRow_ok K (n := n) (R := R) (i := i) (odd := od) (z := N i) (pl := pl) (mi := mi) (dv := dv) hn hR hR0 (by omega) hin h7 h1 h5 h3 (hp0 i hin) (by rw [hs]; exact hz)
  obtain ⟨x2, f', g', Z2, g1, g2, g3, g4⟩ := X_insert_ok K (n := n) (R := R) (i := i) (M := M) (N := N) (z := N i) hn hR (by omega) hin h4 h6 (bd_of h1 h5 h7) (fun c c1 c2 => (hN c (by omega) c2).2) (hp0 i hin) hz
  rcases e2 with ⟨q1, q2, q3, q4⟩ | ⟨q1, q2, q3, q4⟩ | ⟨q1, q3, q4⟩
  · rcases g4 with ⟨_, r2, r3, r4⟩ | ⟨r1, _⟩
    · rw [if_neg (by omega)] at r2
      rw [r2] at g1
      rw [q3] at e1
      refine ⟨0, ss', sl', sg', le', li', pl', mi', dv', f', g', e1, g1, M, Z, ZL, _, Z2, ro, n, od, h1, h2, q4, g2, h5, g3, h7, h8, h9, Nat.le_refl n, rfl, rfl, rfl, rfl, rfl, rfl, Or.inr ⟨rfl, Or.inr (Or.inl ⟨rfl, rfl, e + 1, N, by omega, rfl, hp0, hcr, fun c c1 c2 => ?_⟩)⟩⟩
      by_cases ec : c = i
      · rw [ec, zset_s]; exact ⟨rfl, r3, q1⟩
      · rw [zset_n ec, r4 c (by omega) ec]
        exact hN c (by omega) c2
    · exact absurd q1 r1
  · rcases g4 with ⟨_, r2, r3, r4⟩ | ⟨r1, _⟩
    · rw [if_pos q2] at r2
      rw [r2] at g1
      rw [q3] at e1
      have hNc : ∀ c, c < n → zset (zset ZO i (N i)) n (M (n - 1) (n - 1)) c = N c := fun c hc => by
        rw [zset_n (by omega)]
        by_cases ec : c = i
        · rw [ec, zset_s]
        · rw [zset_n ec]; exact (hN c (by omega) hc).1
      refine ⟨1, ss', sl', sg', le', li', pl', mi', dv', f', g', e1, g1, M, Z, ZL, _, Z2, ro, n, od, h1, h2, q4, g2, h5, g3, h7, h8, h9, Nat.le_refl n, rfl, rfl, rfl, rfl, rfl, rfl, Or.inr ⟨rfl, Or.inr (Or.inr (Or.inl ⟨rfl, N, fun c hc => ⟨?_, ?_⟩, ?_, fun row hrow => ?_⟩))⟩⟩
      · dsimp only
        rw [hNc c hc]
      · by_cases ec : c = i
        · rw [ec]; exact r3
        · rw [r4 c (by omega) ec]; exact (hN c (by omega) hc).2.1
      · dsimp only
        rw [zset_s]
      · obtain ⟨a, ha, ea⟩ := h9 row hrow
        obtain ⟨s, hsg⟩ := osg_mul (od := od)
        have c2 := hcr.2 a ha
        dsimp only
        rw [zset_s, sumN_congr (N' := fun c => s * N c) n 0 (fun c _ hc => by rw [hNc c (by omega), hsg]), sumN_mul, hsg]
        rw [sumN_congrM (M' := fun a b => ZL (a * (n + 1) + b)) (i' := row) n 0 (fun c _ hc => by unfold ldd; rw [if_neg (by omega), ea])] at c2
        rw [c2]
        unfold ldd
        rw [if_neg (by omega), ea, ← Int.mul_assoc, ← Int.mul_assoc, Int.mul_comm s]
    · exact absurd q1 r1
  · rcases g4 with ⟨r1, _⟩ | ⟨_, r2⟩
    · exact absurd r1 q1
    · rw [r2] at g1
      rw [q3] at e1
      exact ⟨3, ss', sl', sg', le', li', pl', mi', dv', f', g', e1, g1, M, Z, ZL, _, Z2, ro, n, od, h1, h2, q4, g2, h5, g3, h7, h8, h9, Nat.le_refl n, rfl, rfl, rfl, rfl, rfl, rfl, Or.inr ⟨rfl, Or.inr (Or.inr (Or.inr (Or.inr rfl)))⟩⟩
theorem Inv_step (K : Nat) {n R : Nat} {told steps piv odd ch cs cl chX csX clX st dn pvX odX ss sl : Int32} {a5 a6 a7 a9 a10 a11 a13 a14 a15 a20 a25 a26 a27 pl mi dv : Nat → Int32} (hn : n ≤ 6) (hn0 : 0 < n) (hR : R ≤ 16) (hR0 : 0 < R) (hK : 2300 < K) (h : Inv n R told steps piv odd ch cs cl a5 a6 a7 a9 a10 a11 a13 a14 a15 a20 chX csX clX st dn pvX odX a25 a26 a27) :
    ∃ (x told' steps' piv' odd' ch' ss' sl' st' dn' pvX' odX' : Int32) (b5 b6 b7 b9 b10 b11 b13 b14 b15 pl' mi' dv' b20 b25 b26 b27 : Nat → Int32), f_M_step K (nI n) told steps piv odd ch (nI R) (n * (n + 1)) a5 (n * (n + 1)) a6 (n * (n + 1) * R) a7 (nI R) (n * (n + 1)) a9 (n * (n + 1)) a10 (n * (n + 1) * R) a11 (nI R) (n + 1) a13 (n + 1) a14 ((n + 1) * R) a15 (nI R) ss sl (2 * R + 1) pl (2 * R + 1) mi R dv n a20 = some (x, told', steps', piv', odd', ch', b5, b6, b7, b9, b10, b11, b13, b14, b15, ss', sl', pl', mi', dv', b20) ∧ f_X_step K (nI n) (nI R) st dn pvX odX 2160 a25 54 a26 6 a27 = some (x, st', dn', pvX', odX', b25, b26, b27) ∧ Inv n R told' steps' piv' odd' ch' cs cl b5 b6 b7 b9 b10 b11 b13 b14 b15 b20 chX csX clX st' dn' pvX' odX' b25 b26 b27 := by
  have h' := h
  obtain ⟨M, Z, ZL, ZO, ZX, ro, pn, od, h1, h2, h3, h4, h5, h6, h7, h8, h9, h10, h11, h12, h13, h14, h15, h16, hp⟩ := h
  have i0 : f_M_isEnded 0 = some 0 := by decide
  have i4 : f_M_isEnded 4 = some 0 := by decide
  have z0 : (0 : Int32) = 0 := rfl
  have z4 : (4 : Int32) = 4 := rfl
  have z04 : ¬ (0 : Int32) = 4 := by decide
  rcases hp with ⟨p1, p2, p3, p4, p5, p6⟩ | ⟨p1, p2⟩
  · have p2' : steps = nI 0 := p2
    obtain ⟨sgL, leL, liL, d1, d2⟩ := M_endLoading_ok K hn hR (by omega) h1 h2
    have hB : BI n 0 (ldd n ro Z) M := BI_start (fun i hi => by
      funext b
      unfold ldd tr
      by_cases e : n < b
      · rw [if_pos e, if_pos (Or.inr e)]
      · rw [if_neg e, if_neg (by omega)]; exact h5 i hi b (by omega))
    obtain ⟨x, pv', od', ss', sl', sg', le', li', pl', mi', dv', ra', f', g', rr', e1, e2, e3⟩ := elim_join K (k := 0) (od := od) (ss := ss) (sl := sl) (pl := pl) (mi := mi) (dv := dv) (cs := cs) (cl := cl) (chX := chX) (csX := csX) (clX := clX) hn hR hR0 hK hn0 h1 d2 h3 h4 h5 h6 h7 h8 h9 h10 hB
    refine ⟨x, x, _, pv', od', -1, ss', sl', x, _, pv', od', sg', le', li', sgL, leL, liL, a13, a14, a15, pl', mi', dv', ra', f', g', rr', ?_, ?_, e3⟩
    · unfold f_M_step
      rw [p1, i4]
      simp only [Option.bind_some]
      rw [if_pos trivial, if_pos trivial, d1]
      simp only [Option.bind_some]
      rw [p2', if_neg (nI_ge hn0 (by omega)), h13, h15, e1, nI_1]
      rfl
    · unfold f_X_step
      rw [h11, h12, p1, if_pos z4, p2', if_neg (nI_ge hn0 (by omega)), h14, h16, e2, nI_1]
      rfl
  · have hstop : f_M_isEnded told = some 1 → ¬ told = 4 → ¬ told = 0 → ∃ (x told' steps' piv' odd' ch' ss' sl' st' dn' pvX' odX' : Int32) (b5 b6 b7 b9 b10 b11 b13 b14 b15 pl' mi' dv' b20 b25 b26 b27 : Nat → Int32), f_M_step K (nI n) told steps piv odd ch (nI R) (n * (n + 1)) a5 (n * (n + 1)) a6 (n * (n + 1) * R) a7 (nI R) (n * (n + 1)) a9 (n * (n + 1)) a10 (n * (n + 1) * R) a11 (nI R) (n + 1) a13 (n + 1) a14 ((n + 1) * R) a15 (nI R) ss sl (2 * R + 1) pl (2 * R + 1) mi R dv n a20 = some (x, told', steps', piv', odd', ch', b5, b6, b7, b9, b10, b11, b13, b14, b15, ss', sl', pl', mi', dv', b20) ∧ f_X_step K (nI n) (nI R) st dn pvX odX 2160 a25 54 a26 6 a27 = some (x, st', dn', pvX', odX', b25, b26, b27) ∧ Inv n R told' steps' piv' odd' ch' cs cl b5 b6 b7 b9 b10 b11 b13 b14 b15 b20 chX csX clX st' dn' pvX' odX' b25 b26 b27 := by
      intro s1 s2 s3
      refine ⟨told, told, steps, piv, odd, ch, ss, sl, st, dn, pvX, odX, a5, a6, a7, a9, a10, a11, a13, a14, a15, pl, mi, dv, a20, a25, a26, a27, ?_, ?_, h'⟩
      · unfold f_M_step
        rw [s1]
        simp only [Option.bind_some]
        rw [if_neg (by decide)]
      · unfold f_X_step
        rw [h11, if_neg s2, if_neg s3]
    rcases p2 with ⟨q1, k, k1, k2, k3, k4, k5⟩ | ⟨q1, q2, e, N, k1, k2, k3, k4, k5⟩ | ⟨q1, _⟩ | q1 | q1
    · obtain ⟨x, pv', od', ss', sl', sg', le', li', pl', mi', dv', ra', f', g', rr', e1, e2, e3⟩ := elim_join K (k := k) (od := od) (ss := ss) (sl := sl) (pl := pl) (mi := mi) (dv := dv) (cs := cs) (cl := cl) (chX := chX) (csX := csX) (clX := clX) hn hR hR0 hK k2 h1 h2 h3 h4 h5 h6 h7 h8 h9 h10 k5
      refine ⟨x, x, _, pv', od', -1, ss', sl', x, _, pv', od', sg', le', li', a9, a10, a11, a13, a14, a15, pl', mi', dv', ra', f', g', rr', ?_, ?_, e3⟩
      · unfold f_M_step
        rw [q1, i0]
        simp only [Option.bind_some]
        rw [if_pos trivial, if_neg z04, k3, if_neg (nI_ge k2 (by omega)), h13, h15, e1, nI_1, p1]
        rfl
      · unfold f_X_step
        rw [h11, h12, q1, if_neg z04, if_pos z0, k3, if_neg (nI_ge k2 (by omega)), h14, h16, e2, nI_1]
        rfl
    · obtain ⟨x, ss', sl', sg', le', li', pl', mi', dv', f', g', e1, e2, e3⟩ := solve_join K (e := e) (od := od) (pl := pl) (mi := mi) (dv := dv) (cs := cs) (cl := cl) (chX := chX) (csX := csX) (clX := clX) hn hR hR0 hK k1 h1 h2 h3 h4 h5 h6 h7 h8 h9 k3 k4 k5
      have hidx : 2 * nI n - 1 - nI (n + e) = nI (n - 1 - e) := by
        have : nI (n - 1 - e) + nI (n + e) = 2 * nI n - 1 := by
          rw [nI_add, show n - 1 - e + (n + e) = 2 * n - 1 by omega, show (2 : Int32) = nI 2 from rfl, pk_mul]
          obtain ⟨t, ht⟩ : ∃ t, 2 * n = t + 1 := ⟨2 * n - 1, by omega⟩
          rw [ht, nI_pred, Nat.add_sub_cancel]
        rw [← this, Int32.add_sub_cancel]
      refine ⟨x, x, _, nI n, b2i od, -1, ss', sl', x, _, nI n, b2i od, a5, a6, a7, a9, a10, a11, sg', le', li', pl', mi', dv', a20, f', g', a27, ?_, ?_, e3⟩
      · unfold f_M_step
        rw [q1, i0]
        simp only [Option.bind_some]
        rw [if_pos trivial, if_neg z04, k2, if_pos (nI_le (show n ≤ n + e by omega) (by omega)), hidx, h13, h15, e1, nI_1, p1, q2]
        rfl
      · unfold f_X_step
        rw [h11, h12, q1, if_neg z04, if_pos z0, k2, if_pos (nI_le (show n ≤ n + e by omega) (by omega)), hidx, h14, h16, e2, nI_1, q2]
        rfl
    · exact hstop (by rw [q1]; decide) (by rw [q1]; decide) (by rw [q1]; decide)
    · exact hstop (by rw [q1]; decide) (by rw [q1]; decide) (by rw [q1]; decide)
    · exact hstop (by rw [q1]; decide) (by rw [q1]; decide) (by rw [q1]; decide)
