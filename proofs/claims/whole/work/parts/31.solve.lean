/-! The program's rows from below, its outcome, its check. -/
theorem N_copy_ok {R nT nU s u : Nat} {sg le li sgU leU liU : Nat → Int32} {Z ZU : Nat → Int} (hR : R < 1073741824) (hs : s < nT) (hu : u < nU) (hT : nT < 1073741824) (hU : nU < 1073741824) (hlT : nT * R < 1073741824) (hlU : nU * R < 1073741824) (hst : nst R nT sg le li Z) (hsu : nst R nU sgU leU liU ZU) :
    ∃ sg' le' li' : Nat → Int32, f_N_copy (nI R) nT sg nT le (nT * R) li (nI s) nU sgU nU leU (nU * R) liU (nI u) = some (sg', le', li') ∧ nst R nT sg' le' li' (zset Z s (ZU u)) := by
  have hsl := slot_le (R := R) hs
  have hul := slot_le (R := R) hu
  obtain ⟨n, d1, d2, d3, d4, -⟩ := id (hsu u hu)
  obtain ⟨n', l1, l2, l3, l4, l5, -⟩ := nrep_len (hsu u hu)
  have : n' = n := by
    rw [d1] at l1
    exact ((nI_eq (by omega) (by omega)).mp l1).symm
  subst this
  refine ⟨upd sg s (sgU u), upd le s (leU u), va_cpy liU li (u * R) (s * R) n', ?_, ?_⟩
  · unfold f_N_copy
    have hcp : cpb (nI u * nI R) (nI s * nI R) (leU u) (nU * R) (nT * R) = true := by
      rw [pk_mul, pk_mul, d1]
      unfold cpb
      rw [nI_clamp (show s * R < 2 ^ 31 by omega), nI_clamp (show u * R < 2 ^ 31 by omega), nI_clamp (show n' < 2 ^ 31 by omega)]
      simp only [Bool.and_eq_true, decide_eq_true_eq]
      exact ⟨nI_pos (by omega), nI_pos (by omega), nI_pos (by omega), by omega, by omega⟩
    rw [inb_nI hu (by omega), nI_clamp (show u < 2 ^ 31 by omega), hcp, inb_nI hs (by omega), pk_mul, pk_mul, d1, nI_clamp (show s * R < 2 ^ 31 by omega), nI_clamp (show u * R < 2 ^ 31 by omega), nI_clamp (show n' < 2 ^ 31 by omega), nI_clamp (show s < 2 ^ 31 by omega)]
    rfl
  · intro t ht
    by_cases e : t = s
    · subst e
      rw [zset_s]
      have cp : ∀ i, i < n' → va_cpy liU li (u * R) (t * R) n' (t * R + i) = liU (u * R + i) := by
        intro i hi
        rw [pk_cpy_in (by omega) (by omega)]
        congr 1; omega
      refine nrep_mk (n := n') (by rw [pk_us, l5]) (by rw [pk_us, d1]) d2 (fun i hi => by rw [cp i hi]; exact d3 i hi) (fun i hi => by rw [cp i (by omega)]; exact d4 i hi) ?_
      rw [vl_congr n' cp, l4]
    · rw [zset_n e]
      refine nrep_keep (hst t ht) (pk_un e) (pk_un e) (fun i hi => ?_)
      refine pk_cpy_out ?_
      rcases Nat.lt_or_gt_of_ne e with a | a
      · have := slot_le (R := R) a
        left; omega
      · have := slot_le (R := R) a
        right; omega
theorem sgz_neg (z : Int) : -(sgz z) = sgz (-z) := by
  rcases Int.lt_trichotomy z 0 with a | a | a
  · rw [sgz_n a, sgz_p (by omega)]; rfl
  · subst a; rfl
  · rw [sgz_p a, sgz_n (by omega)]
theorem nrep_all {R s : Nat} {sg le li : Nat → Int32} {z : Int} (h : nrep R sg le li s z) : ∃ len : Nat, le s = nI len ∧ len ≤ R ∧ (∀ i, i < len → ¬ li (s * R + i) < 0) ∧ (∀ i, i + 1 = len → ¬ li (s * R + i) = 0) ∧ vl (fun i => li (s * R + i)) len = z.natAbs ∧ sg s = sgz z := by
  obtain ⟨len, h1, h2, h3, h4, h5⟩ := id h
  refine ⟨len, h1, h2, h3, h4, ?_, nrep_sg h⟩
  rcases h5 with ⟨a, b, c⟩ | ⟨a, b, c⟩ | ⟨a, b, c⟩
  · subst b; subst c; rfl
  · omega
  · omega
theorem N_negate_ok {R n s : Nat} {sg le li : Nat → Int32} {Z : Nat → Int} (hs : s < n) (hn : n < 1073741824) (hst : nst R n sg le li Z) : ∃ sg' : Nat → Int32, f_N_negate n sg (nI s) = some sg' ∧ nst R n sg' le li (zset Z s (- Z s)) := by
  refine ⟨upd sg s (- sg s), ?_, ?_⟩
  · unfold f_N_negate
    rw [inb_nI hs (by omega), nI_clamp (show s < 2 ^ 31 by omega)]
    rfl
  · intro t ht
    by_cases e : t = s
    · subst e
      rw [zset_s]
      obtain ⟨len, d1, d2, d3, d4, d5, d6⟩ := nrep_all (hst t ht)
      exact nrep_mk (n := len) (by rw [pk_us, d6, sgz_neg]) d1 d2 d3 d4 (by rw [Int.natAbs_neg, d5])
    · rw [zset_n e]
      exact nrep_keep (hst t ht) (pk_un e) rfl (fun _ _ => rfl)
theorem M_finish_L40_ok (K : Nat) {R n : Nat} {le li : Nat → Int32} (hn : n ≤ 6) : ∀ (d f i : Nat) (sg : Nat → Int32) (Z : Nat → Int), i + d = n + 1 → d < f → nst R (n + 1) sg le li Z → ∃ (v : Int32) (sg' : Nat → Int32), f_M_finishOutcome_L40 K (nI n) (n + 1) f (nI i) sg = some (v, sg') ∧ nst R (n + 1) sg' le li (fun t => if i ≤ t then - Z t else Z t) := by
  intro d
  induction d with
  | zero =>
    intro f i sg Z hi hf hst
    obtain ⟨f, rfl⟩ : ∃ j', f = j' + 1 := ⟨f - 1, by omega⟩
    refine ⟨nI i, sg, ?_, ?_⟩
    · rw [f_M_finishOutcome_L40, if_pos (nI_lt (show n < i by omega) (by omega))]
    · intro t ht
      dsimp only
      rw [if_neg (by omega)]
      exact hst t ht
  | succ d ih =>
    intro f i sg Z hi hf hst
    obtain ⟨f, rfl⟩ : ∃ j', f = j' + 1 := ⟨f - 1, by omega⟩
    obtain ⟨sg1, h1, h2⟩ := N_negate_ok (s := i) (by omega) (by omega) hst
    obtain ⟨v, sg2, g1, g2⟩ := ih f (i + 1) sg1 _ (by omega) (by omega) h2
    refine ⟨v, sg2, ?_, ?_⟩
    · rw [f_M_finishOutcome_L40, if_neg (nI_nlt (show i ≤ n by omega) (by omega)), h1]
      simp only [Option.bind_some]
      rw [nI_1]
      exact g1
    · intro t ht
      have := g2 t ht
      dsimp only at this ⊢
      by_cases e : t = i
      · subst e
        rw [if_neg (by omega), zset_s] at this
        rw [if_pos (Nat.le_refl t)]
        exact this
      · rw [zset_n e] at this
        by_cases e2 : i ≤ t
        · rw [if_pos (by omega)] at this
          rw [if_pos e2]; exact this
        · rw [if_neg (by omega)] at this
          rw [if_neg e2]; exact this
/-- the sign that changed places give -/
def osg (odd : Bool) (z : Int) : Int := if odd = true then -z else z
theorem M_finishOutcome_ok (K : Nat) {n R : Nat} {odd : Bool} {M : Nat → Nat → Int} {Z ZO : Nat → Int} {sg le li sgO leO liO ra : Nat → Int32} {rw : Nat → Nat} (hn : n ≤ 6) (hn0 : 0 < n) (hR : R ≤ 16) (hK : 200 < K) (hr : rok n ra rw) (hst : nst R (n * (n + 1)) sg le li Z) (hcm : cm n rw Z M) (hso : nst R (n + 1) sgO leO liO ZO) :
    ∃ sg' le' li' : Nat → Int32, f_M_finishOutcome K (nI n) (b2i odd) (n * (n + 1)) sg (n * (n + 1)) le (n * (n + 1) * R) li (nI R) (n + 1) sgO (n + 1) leO ((n + 1) * R) liO n ra = some (sg', le', li') ∧ nst R (n + 1) sg' le' li' (fun t => osg odd (zset ZO n (M (n - 1) (n - 1)) t)) := by
  have hnS : n * (n + 1) ≤ 42 := by
    have := Nat.mul_le_mul hn (show n + 1 ≤ 7 by omega)
    omega
  have hnl : n * (n + 1) * R ≤ 42 * 16 := Nat.mul_le_mul hnS hR
  have hnl2 : (n + 1) * R ≤ 7 * 16 := Nat.mul_le_mul (by omega) hR
  have L := cell_lt (hr.1 (n - 1) (by omega)).2 (show n - 1 ≤ n by omega)
  obtain ⟨sg1, le1, li1, h1, h2⟩ := N_copy_ok (R := R) (nT := n + 1) (nU := n * (n + 1)) (s := n) (u := rw (n - 1) * (n + 1) + (n - 1)) (sg := sgO) (le := leO) (li := liO) (sgU := sg) (leU := le) (liU := li) (by omega) (by omega) L (by omega) (by omega) (by omega) (by omega) hso hst
  rw [hcm (n - 1) (by omega) (n - 1) (by omega)] at h2
  unfold f_M_finishOutcome
  have hp : nI n - 1 = nI (n - 1) := by obtain ⟨t, rfl⟩ : ∃ t, n = t + 1 := ⟨n - 1, by omega⟩; exact nI_pred t
  rw [hp, M_slotAt_ok (ra := ra) (rw := rw) (by omega) (by omega) (by omega) hr.1]
  simp only [Option.bind_some]
  rw [h1]
  simp only [Option.bind_some]
  cases odd with
  | false =>
    rw [if_pos (show b2i false = 0 from rfl)]
    exact ⟨_, _, _, rfl, h2⟩
  | true =>
    rw [if_neg (by decide)]
    obtain ⟨v, sg2, g1, g2⟩ := M_finish_L40_ok K (R := R) (le := le1) (li := li1) hn (n + 1) K 0 sg1 _ (by omega) (by omega) h2
    rw [show (0 : Int32) = nI 0 from rfl, g1]
    refine ⟨_, _, _, rfl, ?_⟩
    intro t ht
    have := g2 t ht
    dsimp only at this
    rw [if_pos (Nat.zero_le t)] at this
    exact this
/-- the sum of a row's numbers times numerators, from a column on -/
def sumN (M : Nat → Nat → Int) (N : Nat → Int) (i : Nat) : Nat → Nat → Int
  | 0, _ => 0
  | d + 1, j => M i j * N j + sumN M N i d (j + 1)
theorem M_solve_L52_ok (K : Nat) {n R i N : Nat} {M : Nat → Nat → Int} {Z ZO : Nat → Int} {sg le li sgO leO liO ra : Nat → Int32} {rw : Nat → Nat} (hN : N = 2 * R + 1) (hn : n ≤ 6) (hR : R ≤ 16) (hK : 200 < K) (hi : i < n) (hr : rok n ra rw) (hst : nst R (n * (n + 1)) sg le li Z) (hcm : cm n rw Z M) (hso : nst R (n + 1) sgO leO liO ZO) :
    ∀ (d f j : Nat) (pl mi : Nat → Int32), j + d = n → d < f → sid N pl mi → vl pl N + vl mi N + d * (2147483648 ^ R * 2147483648 ^ R) ≤ 8 * (2147483648 ^ R * 2147483648 ^ R) →
    ∃ (v : Int32) (pl' mi' : Nat → Int32), f_M_solveRow_L52 K (nI i) (nI n) (nI R) (n * (n + 1)) sg (n * (n + 1)) le (n * (n + 1) * R) li (nI R) (n + 1) sgO (n + 1) leO ((n + 1) * R) liO N N n ra f (nI j) pl mi = some (v, pl', mi') ∧ sid N pl' mi' ∧ (vl pl' N : Int) - vl mi' N = (vl pl N : Int) - vl mi N - sumN M ZO i d j := by
  have hnS : n * (n + 1) ≤ 42 := by
    have := Nat.mul_le_mul hn (show n + 1 ≤ 7 by omega)
    omega
  have hnl : n * (n + 1) * R ≤ 42 * 16 := Nat.mul_le_mul hnS hR
  have hnl2 : (n + 1) * R ≤ 7 * 16 := Nat.mul_le_mul (by omega) hR
  have P := pow_two_add hN
  have hpos : 0 < (2147483648 : Nat) ^ R * 2147483648 ^ R := Nat.mul_pos (Nat.pow_pos (by decide)) (Nat.pow_pos (by decide))
  intro d
  induction d with
  | zero =>
    intro f j pl mi hj hf hs hb
    obtain ⟨f, rfl⟩ : ∃ j', f = j' + 1 := ⟨f - 1, by omega⟩
    refine ⟨nI j, pl, mi, ?_, hs, ?_⟩
    · rw [f_M_solveRow_L52, if_pos (nI_le (show n ≤ j by omega) (by omega))]
    · rw [sumN]; omega
  | succ d ih =>
    intro f j pl mi hj hf hs hb
    obtain ⟨f, rfl⟩ : ∃ j', f = j' + 1 := ⟨f - 1, by omega⟩
    have L := cell_lt (hr.1 i hi).2 (show j ≤ n by omega)
    rw [Nat.succ_mul] at hb
    obtain ⟨pl1, mi1, a1, a2, a3, a4⟩ := S_addProduct_ok K (N := N) (R := R) (RA := R) (nA := n * (n + 1)) (nB := n + 1) (sA := rw i * (n + 1) + j) (sB := j) (f := -1) (fi := -1) rfl hN (by omega) (by omega) L (show j < n + 1 by omega) (by omega) (by omega) (by omega) (by omega) (hst _ L) (hso j (by omega)) rfl (Or.inr rfl) hs (by rw [P]; omega)
    rw [hcm i hi j (by omega)] at a3
    obtain ⟨v, pl2, mi2, b1, b2, b3⟩ := ih f (j + 1) pl1 mi1 (by omega) (by omega) a2 (by omega)
    refine ⟨v, pl2, mi2, ?_, b2, ?_⟩
    · rw [f_M_solveRow_L52, if_neg (nI_ge (show j < n by omega) (by omega)), M_slotAt_ok (ra := ra) (rw := rw) (by omega) hi (by omega) hr.1]
      simp only [Option.bind_some]
      rw [a1]
      simp only [Option.bind_some]
      rw [nI_1]
      exact b1
    · rw [b3, a3, sumN]; omega
/-- a row from below: its answer, and the outcome behind it -/
theorem M_solveRow_ok (K : Nat) {n R i : Nat} {odd : Bool} {z : Int} {M : Nat → Nat → Int} {Z ZO : Nat → Int} {sg le li sgO leO liO ra pl mi dv : Nat → Int32} {rw : Nat → Nat} (hn : n ≤ 6) (hR : R ≤ 16) (hR0 : 0 < R) (hK : 200 < K) (hi : i < n) (hr : rok n ra rw) (hst : nst R (n * (n + 1)) sg le li Z) (hcm : cm n rw Z M) (hso : nst R (n + 1) sgO leO liO ZO) (hp : M i i ≠ 0) (hz : M (n - 1) (n - 1) * M i n - sumN M ZO i (n - (i + 1)) (i + 1) = M i i * z) :
    ∃ (x ss sl : Int32) (sg' le' li' pl' mi' dv' : Nat → Int32), f_M_solveRow K (nI n) (b2i odd) (nI R) (n * (n + 1)) sg (n * (n + 1)) le (n * (n + 1) * R) li (nI R) (n + 1) sgO (n + 1) leO ((n + 1) * R) liO (nI R) (2 * R + 1) pl (2 * R + 1) mi R dv n ra (nI i) = some (x, sg', le', li', ss, sl, pl', mi', dv') ∧ ((z.natAbs < 2147483648 ^ R ∧ 0 < i ∧ x = 0 ∧ nst R (n + 1) sg' le' li' (zset ZO i z)) ∨ (z.natAbs < 2147483648 ^ R ∧ i = 0 ∧ x = 1 ∧ nst R (n + 1) sg' le' li' (fun t => osg odd (zset (zset ZO i z) n (M (n - 1) (n - 1)) t))) ∨ (¬ z.natAbs < 2147483648 ^ R ∧ x = 3 ∧ nst R (n + 1) sg' le' li' ZO)) := by
  have hnS : n * (n + 1) ≤ 42 := by
    have := Nat.mul_le_mul hn (show n + 1 ≤ 7 by omega)
    omega
  have hnl : n * (n + 1) * R ≤ 42 * 16 := Nat.mul_le_mul hnS hR
  have hnl2 : (n + 1) * R ≤ 7 * 16 := Nat.mul_le_mul (by omega) hR
  obtain ⟨N, hN⟩ : ∃ N, N = 2 * R + 1 := ⟨_, rfl⟩
  have P := pow_two_add hN
  have hpos : 0 < (2147483648 : Nat) ^ R * 2147483648 ^ R := Nat.mul_pos (Nat.pow_pos (by decide)) (Nat.pow_pos (by decide))
  obtain ⟨pl0, mi0, c1, c2, c3⟩ := S_clear_ok K (n := 2 * R + 1) (pl := pl) (mi := mi) (by omega) (by omega)
  rw [← hN] at c1 c2 c3 ⊢
  have s0 : sid N pl0 mi0 := ⟨z_nn c2, z_nn c3⟩
  have v0 : vl pl0 N = 0 := vl_zero N c2
  have v1 : vl mi0 N = 0 := vl_zero N c3
  have Ld := cell_lt (hr.1 (n - 1) (by omega)).2 (show n - 1 ≤ n by omega)
  have Lr := cell_lt (hr.1 i hi).2 (Nat.le_refl n)
  have Lp := cell_lt (hr.1 i hi).2 (show i ≤ n by omega)
  obtain ⟨pl1, mi1, a1, a2, a3, a4⟩ := S_addProduct_ok K (N := N) (R := R) (RA := R) (nA := n * (n + 1)) (nB := n * (n + 1)) (f := 1) (fi := 1) rfl hN (by omega) (by omega) Ld Lr (by omega) (by omega) (by omega) (by omega) (hst _ Ld) (hst _ Lr) rfl (Or.inl rfl) s0 (by rw [v0, v1, P]; omega)
  rw [hcm (n - 1) (by omega) (n - 1) (by omega), hcm i hi n (Nat.le_refl n), v0, v1] at a3
  have hd5 : (n - (i + 1)) * (2147483648 ^ R * 2147483648 ^ R) ≤ 5 * (2147483648 ^ R * 2147483648 ^ R) := Nat.mul_le_mul_right _ (by omega)
  obtain ⟨v, pl2, mi2, b1, b2, b3⟩ := M_solve_L52_ok K (N := N) (M := M) hN hn hR hK hi hr hst hcm hso (n - (i + 1)) K (i + 1) pl1 mi1 (by omega) (by omega) a2 (by omega)
  rw [a3] at b3
  obtain ⟨w, hw⟩ : ∃ w, w = (vl pl2 N : Int) - vl mi2 N := ⟨_, rfl⟩
  have hwz : w = M i i * z := by rw [← hz, hw, b3]; omega
  obtain ⟨m, r, d1, d2, d3, d4, d5, d6⟩ := S_settle_ok K (N := N) (pl := pl2) (mi := mi2) (by omega) (by omega) b2.1 b2.2
  rw [← hw] at d1 d6
  have hmp := hst _ Lp
  rw [hcm i hi i (by omega)] at hmp
  obtain ⟨m', r', dv', e1, e2, e3, e4, e5⟩ := S_divideBy_ok K (NP := N) (ND := R) (R := R) (nS := n * (n + 1)) (n := m) (s := rw i * (n + 1) + i) (v := w) (zd := M i i) (z := z) (r := r) (dv := dv) (by omega) (by omega) (by omega) (Nat.le_refl R) Lp (by omega) (by omega) d2 d3 d4 d5 d6 hmp hp hwz
  obtain ⟨g1, g2⟩ := S_storeIn_ok (NP := N) (R := R) (nS := n + 1) (n := m') (s := i) (z := z) (r := r') (sg := sgO) (le := leO) (li := liO) (Z := ZO) (by omega) (by omega) (by omega) (by omega) (by omega) e2 e3 e4 e5 hso
  unfold f_M_solveRow
  have hp1 : nI n - 1 = nI (n - 1) := by obtain ⟨t, rfl⟩ : ∃ t, n = t + 1 := ⟨n - 1, by omega⟩; exact nI_pred t
  rw [c1]
  simp only [Option.bind_some]
  rw [hp1, M_slotAt_ok (ra := ra) (rw := rw) (by omega) (show n - 1 < n by omega) (show n - 1 ≤ n by omega) hr.1]
  simp only [Option.bind_some]
  rw [M_slotAt_ok (ra := ra) (rw := rw) (by omega) hi (Nat.le_refl n) hr.1]
  simp only [Option.bind_some]
  rw [S_addProductSame_eq, a1]
  simp only [Option.bind_some]
  rw [nI_1, b1]
  simp only [Option.bind_some]
  rw [d1]
  simp only [Option.bind_some]
  rw [M_slotAt_ok (ra := ra) (rw := rw) (by omega) hi (show i ≤ n by omega) hr.1]
  simp only [Option.bind_some]
  rw [e1]
  simp only [Option.bind_some]
  by_cases hzB : z.natAbs < 2147483648 ^ R
  · obtain ⟨sg', le', li', k1, k2⟩ := g1 hzB
    rw [k1]
    simp only [Option.bind_some]
    rw [if_neg (by decide)]
    by_cases hi0 : i = 0
    · rw [if_pos (show nI i ≤ 0 by rw [hi0]; decide)]
      obtain ⟨sg2, le2, li2, q1, q2⟩ := M_finishOutcome_ok K (odd := odd) hn (by omega) hR hK hr hst hcm k2
      rw [q1]
      exact ⟨_, _, _, _, _, _, _, _, _, rfl, Or.inr (Or.inl ⟨hzB, hi0, rfl, q2⟩)⟩
    · rw [if_neg (nI_nle (by omega) (by omega))]
      exact ⟨_, _, _, _, _, _, _, _, _, rfl, Or.inl ⟨hzB, by omega, rfl, k2⟩⟩
  · rw [g2 hzB]
    simp only [Option.bind_some]
    rw [if_pos trivial]
    exact ⟨_, _, _, _, _, _, _, _, _, rfl, Or.inr (Or.inr ⟨hzB, rfl, hso⟩)⟩
theorem M_endLoading_L7_ok (K : Nat) {n R : Nat} {Z : Nat → Int} {sg le li : Nat → Int32} (hn : n ≤ 6) (hR : R ≤ 16) (hst : nst R (n * (n + 1)) sg le li Z) : ∀ (d f i : Nat) (sgL leL liL : Nat → Int32) (ZL : Nat → Int), i + d = n * (n + 1) → d < f → nst R (n * (n + 1)) sgL leL liL ZL → ∃ (v : Int32) (sg' le' li' : Nat → Int32), f_M_endLoading_L7 K (nI n) (n * (n + 1)) sg (n * (n + 1)) le (n * (n + 1) * R) li (nI R) (n * (n + 1)) (n * (n + 1)) (n * (n + 1) * R) f (nI i) sgL leL liL = some (v, sg', le', li') ∧ nst R (n * (n + 1)) sg' le' li' (fun t => if i ≤ t then Z t else ZL t) := by
  have hnS : n * (n + 1) ≤ 42 := by
    have := Nat.mul_le_mul hn (show n + 1 ≤ 7 by omega)
    omega
  have hnl : n * (n + 1) * R ≤ 42 * 16 := Nat.mul_le_mul hnS hR
  intro d
  induction d with
  | zero =>
    intro f i sgL leL liL ZL hi hf hsl
    obtain ⟨f, rfl⟩ : ∃ j', f = j' + 1 := ⟨f - 1, by omega⟩
    refine ⟨nI i, sgL, leL, liL, ?_, ?_⟩
    · rw [f_M_endLoading_L7, nI_1, pk_mul, if_pos (nI_le (show n * (n + 1) ≤ i by omega) (by omega))]
    · intro t ht
      dsimp only
      rw [if_neg (by omega)]
      exact hsl t ht
  | succ d ih =>
    intro f i sgL leL liL ZL hi hf hsl
    obtain ⟨f, rfl⟩ : ∃ j', f = j' + 1 := ⟨f - 1, by omega⟩
    obtain ⟨sg1, le1, li1, h1, h2⟩ := N_copy_ok (R := R) (nT := n * (n + 1)) (nU := n * (n + 1)) (s := i) (u := i) (sg := sgL) (le := leL) (li := liL) (sgU := sg) (leU := le) (liU := li) (by omega) (by omega) (by omega) (by omega) (by omega) (by omega) (by omega) hsl hst
    obtain ⟨v, sg2, le2, li2, g1, g2⟩ := ih f (i + 1) sg1 le1 li1 _ (by omega) (by omega) h2
    refine ⟨v, sg2, le2, li2, ?_, ?_⟩
    · rw [f_M_endLoading_L7, nI_1, pk_mul, if_neg (nI_ge (show i < n * (n + 1) by omega) (by omega)), h1]
      simp only [Option.bind_some]
      rw [nI_1]
      exact g1
    · intro t ht
      have := g2 t ht
      dsimp only at this ⊢
      by_cases e : t = i
      · subst e
        rw [if_neg (by omega), zset_s] at this
        rw [if_pos (Nat.le_refl t)]
        exact this
      · rw [zset_n e] at this
        by_cases e2 : i ≤ t
        · rw [if_pos (by omega)] at this
          rw [if_pos e2]; exact this
        · rw [if_neg (by omega)] at this
          rw [if_neg e2]; exact this
theorem M_endLoading_ok (K : Nat) {n R : Nat} {Z ZL : Nat → Int} {sg le li sgL leL liL : Nat → Int32} (hn : n ≤ 6) (hR : R ≤ 16) (hK : 200 < K) (hst : nst R (n * (n + 1)) sg le li Z) (hsl : nst R (n * (n + 1)) sgL leL liL ZL) : ∃ sg' le' li' : Nat → Int32, f_M_endLoading K (nI n) (n * (n + 1)) sg (n * (n + 1)) le (n * (n + 1) * R) li (nI R) (n * (n + 1)) sgL (n * (n + 1)) leL (n * (n + 1) * R) liL = some (-1, sg', le', li') ∧ nst R (n * (n + 1)) sg' le' li' Z := by
  have hnS : n * (n + 1) ≤ 42 := by
    have := Nat.mul_le_mul hn (show n + 1 ≤ 7 by omega)
    omega
  obtain ⟨v, sg1, le1, li1, h1, h2⟩ := M_endLoading_L7_ok K hn hR hst (n * (n + 1)) K 0 sgL leL liL ZL (by omega) (by omega) hsl
  refine ⟨sg1, le1, li1, ?_, ?_⟩
  · unfold f_M_endLoading
    rw [show (0 : Int32) = nI 0 from rfl, h1]
    rfl
  · intro t ht
    have := h2 t ht
    dsimp only at this
    rw [if_pos (Nat.zero_le t)] at this
    exact this
