/-! The program: the check of the outcome; loading. -/
theorem M_eqH_L18_ok (K : Nat) {n R row N : Nat} {ZL ZO : Nat → Int} {sg le li sgO leO liO : Nat → Int32} (hN : N = 2 * R + 1) (hn : n ≤ 6) (hR : R ≤ 16) (hK : 200 < K) (hi : row < n) (hst : nst R (n * (n + 1)) sg le li ZL) (hso : nst R (n + 1) sgO leO liO ZO) :
    ∀ (d f j : Nat) (pl mi : Nat → Int32), j + d = n → d < f → sid N pl mi → vl pl N + vl mi N + d * (2147483648 ^ R * 2147483648 ^ R) ≤ 8 * (2147483648 ^ R * 2147483648 ^ R) →
    ∃ (v : Int32) (pl' mi' : Nat → Int32), f_M_equationHolds_L18 K (nI (row * (n + 1))) (nI n) (nI R) (n * (n + 1)) sg (n * (n + 1)) le (n * (n + 1) * R) li (nI R) (n + 1) sgO (n + 1) leO ((n + 1) * R) liO N N f (nI j) pl mi = some (v, pl', mi') ∧ sid N pl' mi' ∧ (vl pl' N : Int) - vl mi' N = (vl pl N : Int) - vl mi N + sumN (fun a b => ZL (a * (n + 1) + b)) ZO row d j ∧ vl pl' N + vl mi' N ≤ vl pl N + vl mi N + d * (2147483648 ^ R * 2147483648 ^ R) := by
  have hnS : n * (n + 1) ≤ 42 := by
    have := Nat.mul_le_mul hn (show n + 1 ≤ 7 by omega)
    omega
  have hnl : n * (n + 1) * R ≤ 42 * 16 := Nat.mul_le_mul hnS hR
  have hnl2 : (n + 1) * R ≤ 7 * 16 := Nat.mul_le_mul (by omega) hR
  have P := pow_two_add hN
  have hpos : 0 < (2147483648 : Nat) ^ R * 2147483648 ^ R := Nat.mul_pos (Nat.pow_pos (by decide)) (Nat.pow_pos (by decide))
  intro d
  induction d with
  | zero =>
    intro f j pl mi hj hf hs hb
    obtain ⟨f, rfl⟩ : ∃ j', f = j' + 1 := ⟨f - 1, by omega⟩
    refine ⟨nI j, pl, mi, ?_, hs, ?_, by omega⟩
    · rw [f_M_equationHolds_L18, if_pos (nI_le (show n ≤ j by omega) (by omega))]
    · rw [sumN]; omega
  | succ d ih =>
    intro f j pl mi hj hf hs hb
    obtain ⟨f, rfl⟩ : ∃ j', f = j' + 1 := ⟨f - 1, by omega⟩
    have L := cell_lt hi (show j ≤ n by omega)
    rw [Nat.succ_mul] at hb
    obtain ⟨pl1, mi1, a1, a2, a3, a4⟩ := S_addProduct_ok K (N := N) (R := R) (RA := R) (nA := n * (n + 1)) (nB := n + 1) (sA := row * (n + 1) + j) (sB := j) (f := 1) (fi := 1) rfl hN (by omega) (by omega) L (show j < n + 1 by omega) (by omega) (by omega) (by omega) (by omega) (hst _ L) (hso j (by omega)) rfl (Or.inl rfl) hs (by rw [P]; omega)
    obtain ⟨v, pl2, mi2, b1, b2, b3, b4⟩ := ih f (j + 1) pl1 mi1 (by omega) (by omega) a2 (by omega)
    refine ⟨v, pl2, mi2, ?_, b2, ?_, ?_⟩
    · rw [f_M_equationHolds_L18, if_neg (nI_ge (show j < n by omega) (by omega)), nI_add, a1]
      simp only [Option.bind_some]
      rw [nI_1]
      exact b1
    · rw [b3, a3, sumN]; omega
    · rw [Nat.succ_mul]; omega
theorem M_equationHolds_ok (K : Nat) {n R row : Nat} {ZL ZO : Nat → Int} {sg le li sgO leO liO pl mi : Nat → Int32} (hn : n ≤ 6) (hR : R ≤ 16) (hK : 200 < K) (hi : row < n) (hst : nst R (n * (n + 1)) sg le li ZL) (hso : nst R (n + 1) sgO leO liO ZO) (heq : sumN (fun a b => ZL (a * (n + 1) + b)) ZO row n 0 = ZL (row * (n + 1) + n) * ZO n) :
    ∃ (ss sl : Int32) (pl' mi' : Nat → Int32), f_M_equationHolds K (nI n) (nI R) (n * (n + 1)) sg (n * (n + 1)) le (n * (n + 1) * R) li (nI R) (n + 1) sgO (n + 1) leO ((n + 1) * R) liO (2 * R + 1) pl (2 * R + 1) mi (nI row) = some (1, ss, sl, pl', mi') := by
  have hnS : n * (n + 1) ≤ 42 := by
    have := Nat.mul_le_mul hn (show n + 1 ≤ 7 by omega)
    omega
  have hnl : n * (n + 1) * R ≤ 42 * 16 := Nat.mul_le_mul hnS hR
  have hnl2 : (n + 1) * R ≤ 7 * 16 := Nat.mul_le_mul (by omega) hR
  obtain ⟨N, hN⟩ : ∃ N, N = 2 * R + 1 := ⟨_, rfl⟩
  have P := pow_two_add hN
  have hpos : 0 < (2147483648 : Nat) ^ R * 2147483648 ^ R := Nat.mul_pos (Nat.pow_pos (by decide)) (Nat.pow_pos (by decide))
  obtain ⟨pl0, mi0, c1, c2, c3⟩ := S_clear_ok K (n := 2 * R + 1) (pl := pl) (mi := mi) (by omega) (by omega)
  rw [← hN] at c1 c2 c3 ⊢
  have s0 : sid N pl0 mi0 := ⟨z_nn c2, z_nn c3⟩
  have v0 : vl pl0 N = 0 := vl_zero N c2
  have v1 : vl mi0 N = 0 := vl_zero N c3
  have hd5 : n * (2147483648 ^ R * 2147483648 ^ R) ≤ 6 * (2147483648 ^ R * 2147483648 ^ R) := Nat.mul_le_mul_right _ (by omega)
  have L := cell_lt hi (Nat.le_refl n)
  obtain ⟨v, pl2, mi2, b1, b2, b3, b4⟩ := M_eqH_L18_ok K (N := N) hN hn hR hK hi hst hso n K 0 pl0 mi0 (by omega) (by omega) s0 (by omega)
  obtain ⟨pl3, mi3, a1, a2, a3, a4⟩ := S_addProduct_ok K (N := N) (R := R) (RA := R) (nA := n * (n + 1)) (nB := n + 1) (sA := row * (n + 1) + n) (sB := n) (f := -1) (fi := -1) rfl hN (by omega) (by omega) L (show n < n + 1 by omega) (by omega) (by omega) (by omega) (by omega) (hst _ L) (hso n (by omega)) rfl (Or.inr rfl) b2 (by rw [P]; omega)
  rw [b3, heq, v0, v1] at a3
  unfold f_M_equationHolds
  rw [c1]
  simp only [Option.bind_some]
  rw [nI_1, pk_mul, show (0 : Int32) = nI 0 from rfl, b1]
  simp only [Option.bind_some]
  rw [nI_add, a1]
  simp only [Option.bind_some]
  rw [S_isZero_ok K (by omega) (by omega) a2.1 a2.2, if_pos (by omega)]
  exact ⟨_, _, _, _, rfl⟩
theorem M_holds_L12_ok (K : Nat) {n R : Nat} {ZL ZO : Nat → Int} {sg le li sgO leO liO : Nat → Int32} (hn : n ≤ 6) (hR : R ≤ 16) (hK : 200 < K) (hst : nst R (n * (n + 1)) sg le li ZL) (hso : nst R (n + 1) sgO leO liO ZO) (heq : ∀ row, row < n → sumN (fun a b => ZL (a * (n + 1) + b)) ZO row n 0 = ZL (row * (n + 1) + n) * ZO n) :
    ∀ (d f i : Nat) (ss sl : Int32) (pl mi : Nat → Int32), i + d = n → d < f → ∃ (v v1 ss' sl' : Int32) (pl' mi' : Nat → Int32), f_M_holds_L12 K (nI n) (nI R) (n * (n + 1)) sg (n * (n + 1)) le (n * (n + 1) * R) li (nI R) (n + 1) sgO (n + 1) leO ((n + 1) * R) liO (2 * R + 1) (2 * R + 1) f (nI i) ss sl pl mi = some (false, v, v1, ss', sl', pl', mi') := by
  intro d
  induction d with
  | zero =>
    intro f i ss sl pl mi hi hf
    obtain ⟨f, rfl⟩ : ∃ j', f = j' + 1 := ⟨f - 1, by omega⟩
    refine ⟨0, nI i, ss, sl, pl, mi, ?_⟩
    rw [f_M_holds_L12, if_pos (nI_le (show n ≤ i by omega) (by omega))]
  | succ d ih =>
    intro f i ss sl pl mi hi hf
    obtain ⟨f, rfl⟩ : ∃ j', f = j' + 1 := ⟨f - 1, by omega⟩
    obtain ⟨ss1, sl1, pl1, mi1, h1⟩ := M_equationHolds_ok K (pl := pl) (mi := mi) hn hR hK (show i < n by omega) hst hso (heq i (by omega))
    obtain ⟨v, v1, ss2, sl2, pl2, mi2, g1⟩ := ih f (i + 1) ss1 sl1 pl1 mi1 (by omega) (by omega)
    refine ⟨v, v1, ss2, sl2, pl2, mi2, ?_⟩
    rw [f_M_holds_L12, if_neg (nI_ge (show i < n by omega) (by omega)), h1]
    simp only [Option.bind_some]
    rw [if_neg (by decide), nI_1]
    exact g1
theorem M_holds_ok (K : Nat) {n R : Nat} {ss sl : Int32} {ZL ZO : Nat → Int} {sg le li sgO leO liO pl mi : Nat → Int32} (hn : n ≤ 6) (hR : R ≤ 16) (hK : 200 < K) (hst : nst R (n * (n + 1)) sg le li ZL) (hso : nst R (n + 1) sgO leO liO ZO) (heq : ∀ row, row < n → sumN (fun a b => ZL (a * (n + 1) + b)) ZO row n 0 = ZL (row * (n + 1) + n) * ZO n) :
    ∃ (ss' sl' : Int32) (pl' mi' : Nat → Int32), f_M_holds K (nI n) 1 (nI R) (n * (n + 1)) sg (n * (n + 1)) le (n * (n + 1) * R) li (nI R) (n + 1) sgO (n + 1) leO ((n + 1) * R) liO ss sl (2 * R + 1) pl (2 * R + 1) mi = some (1, ss', sl', pl', mi') := by
  obtain ⟨v, v1, ss1, sl1, pl1, mi1, h1⟩ := M_holds_L12_ok K hn hR hK hst hso heq n K 0 ss sl pl mi (by omega) (by omega)
  unfold f_M_holds
  rw [if_pos rfl, show (0 : Int32) = nI 0 from rfl, h1]
  exact ⟨_, _, _, _, rfl⟩
theorem nst_zero {R n : Nat} {sg le li : Nat → Int32} (h1 : ∀ t, t < n → sg t = 0) (h2 : ∀ t, t < n → le t = 0) : nst R n sg le li (fun _ => 0) := by
  intro s hs
  refine nrep_mk (n := 0) (h1 s hs) (h2 s hs) (Nat.zero_le R) (fun i h => absurd h (Nat.not_lt_zero i)) (fun i h => absurd h (by omega)) ?_
  rw [vl_0]; rfl
theorem M_start_L9_ok (K : Nat) {n : Nat} (hn : n ≤ 6) : ∀ (d f i : Nat) (ra : Nat → Int32), i + d = n → d < f → (∀ t, t < i → ra t = nI t) → ∃ (v : Int32) (ra' : Nat → Int32), f_M_startLoading_L9 K (nI n) n f (nI i) ra = some (v, ra') ∧ ∀ t, t < n → ra' t = nI t := by
  intro d
  induction d with
  | zero =>
    intro f i ra hi hf h
    obtain ⟨f, rfl⟩ : ∃ j', f = j' + 1 := ⟨f - 1, by omega⟩
    have : i = n := by omega
    subst this
    exact ⟨nI i, ra, by rw [f_M_startLoading_L9, if_pos nI_le_self], h⟩
  | succ d ih =>
    intro f i ra hi hf h
    obtain ⟨f, rfl⟩ : ∃ j', f = j' + 1 := ⟨f - 1, by omega⟩
    obtain ⟨v, ra', h1, h2⟩ := ih f (i + 1) (upd ra i (nI i)) (by omega) (by omega) (by
      intro t ht
      by_cases e : t = i
      · rw [e, pk_us]
      · rw [pk_un e]; exact h t (by omega))
    refine ⟨v, ra', ?_, h2⟩
    rw [f_M_startLoading_L9, if_neg (nI_ge (show i < n by omega) (by omega)), inb_nI (show i < n by omega) (by omega), nI_clamp (show i < 2 ^ 31 by omega), nI_1]
    exact h1
theorem M_startLoading_ok (K : Nat) {n R : Nat} {sg le li ra : Nat → Int32} (hn : n ≤ 6) (hK : 200 < K) : ∃ sg' le' ra' : Nat → Int32, f_M_startLoading K (nI n) (n * (n + 1)) sg (n * (n + 1)) le n ra = some (4, 0, 0, 0, -1, 0, 0, sg', le', ra') ∧ nst R (n * (n + 1)) sg' le' li (fun _ => 0) ∧ rok n ra' (fun t => t) := by
  have hnS : n * (n + 1) ≤ 42 := by
    have := Nat.mul_le_mul hn (show n + 1 ≤ 7 by omega)
    omega
  obtain ⟨sg1, h1, h2⟩ := fill_ok K (n := n * (n + 1)) (val := 0) (r := sg) (by omega) (by omega)
  obtain ⟨le1, g1, g2⟩ := fill_ok K (n := n * (n + 1)) (val := 0) (r := le) (by omega) (by omega)
  obtain ⟨v, ra1, k1, k2⟩ := M_start_L9_ok K hn n K 0 ra (by omega) (by omega) (fun _ h => absurd h (Nat.not_lt_zero _))
  refine ⟨sg1, le1, ra1, ?_, nst_zero h2 g2, fun t ht => ⟨k2 t ht, ht⟩, fun a b _ _ h => h⟩
  unfold f_M_startLoading f_N_clearAll
  rw [h1]
  simp only [Option.bind_some]
  rw [g1]
  simp only [Option.bind_some]
  rw [show (0 : Int32) = nI 0 from rfl, k1]
  rfl
/-- the number that is being loaded: m limbs are laid -/
def lch (R : Nat) (li : Nat → Int32) (s m : Nat) (z : Int) (cs : Int32) : Prop := (∀ i, i < m → ¬ li (s * R + i) < 0) ∧ vl (fun i => li (s * R + i)) m = z.natAbs ∧ (z = 0 ∨ sgz z = cs)
theorem N_clear_ok {R n s : Nat} {sg le li : Nat → Int32} {Z : Nat → Int} (hs : s < n) (hn : n < 1073741824) (hst : nst R n sg le li Z) : ∃ sg' le' : Nat → Int32, f_N_clear n sg n le (nI s) = some (sg', le') ∧ nst R n sg' le' li (zset Z s 0) := by
  refine ⟨upd sg s 0, upd le s 0, ?_, ?_⟩
  · unfold f_N_clear
    rw [inb_nI hs (by omega), nI_clamp (show s < 2 ^ 31 by omega)]
    rfl
  · intro t ht
    by_cases e : t = s
    · subst e
      rw [zset_s]
      exact nrep_mk (n := 0) pk_us pk_us (Nat.zero_le R) (fun i h => absurd h (Nat.not_lt_zero i)) (fun i h => absurd h (by omega)) (by rw [vl_0]; rfl)
    · rw [zset_n e]
      exact nrep_keep (hst t ht) (pk_un e) (pk_un e) (fun _ _ => rfl)
/-- a limb more: the number grows by it -/
def zlimb (z ci : Int) (m : Nat) (w : Int32) : Int := ci * ((z.natAbs + w.toNatClampNeg * 2147483648 ^ m : Nat) : Int)
theorem zlimb_abs {z ci : Int} {m : Nat} {w : Int32} (h : ci = 1 ∨ ci = -1) : (zlimb z ci m w).natAbs = z.natAbs + w.toNatClampNeg * 2147483648 ^ m := by
  unfold zlimb
  rw [Int.natAbs_mul, Int.natAbs_natCast]
  rcases h with h | h <;> rw [h] <;> simp
theorem zlimb_sg {z ci : Int} {m : Nat} {w : Int32} (h : ci = 1 ∨ ci = -1) : zlimb z ci m w = 0 ∨ sgz (zlimb z ci m w) = sgz ci := by
  unfold zlimb
  generalize z.natAbs + w.toNatClampNeg * 2147483648 ^ m = a
  rcases Nat.eq_zero_or_pos a with q | q
  · left; rw [q]; simp
  · right
    rcases h with h | h
    · rw [h, sgz_p (by omega)]; rfl
    · rw [h, sgz_n (by omega)]; rfl
theorem zlimb_0 {z ci : Int} {m : Nat} (h : ci = 1 ∨ ci = -1) (hs : z = 0 ∨ sgz z = sgz ci) : zlimb z ci m 0 = z := by
  unfold zlimb
  rw [show (0 : Int32).toNatClampNeg = 0 by decide, Nat.zero_mul, Nat.add_zero]
  rcases hs with q | q
  · rw [q]; simp
  · rcases Int.lt_trichotomy z 0 with a | a | a
    · rw [sgz_n a] at q
      rcases h with h | h
      · rw [h] at q; exact absurd q (by decide)
      · rw [h]; omega
    · rw [a]; simp
    · rw [sgz_p a] at q
      rcases h with h | h
      · rw [h]; omega
      · rw [h] at q; exact absurd q (by decide)
theorem N_putLimb_ok {R n s m : Nat} {ci : Int} {w : Int32} {sg le li : Nat → Int32} {Z : Nat → Int} (hs : s < n) (hn : n < 1073741824) (hR : R < 1073741824) (hnl : n * R < 1073741824) (hm : m < R) (hw : ¬ w < 0) (hci : ci = 1 ∨ ci = -1) (hst : nst R n sg le li Z) (hl : lch R li s m (Z s) (sgz ci)) :
    ∃ sg' le' li' : Nat → Int32, f_N_putLimb (nI R) n sg n le (n * R) li (nI s) (nI m) w (sgz ci) = some (sg', le', li') ∧ nst R n sg' le' li' (zset Z s (zlimb (Z s) ci m w)) ∧ lch R li' s (m + 1) (zlimb (Z s) ci m w) (sgz ci) := by
  have hsl := slot_le (R := R) hs
  obtain ⟨l1, l2, l3⟩ := hl
  have hlow : ∀ i, i < m → upd li (s * R + m) w (s * R + i) = li (s * R + i) := fun i hi => pk_un (by omega)
  have hv : vl (fun i => upd li (s * R + m) w (s * R + i)) (m + 1) = (zlimb (Z s) ci m w).natAbs := by
    rw [vl_s, vl_congr m hlow, l2, pk_us, zlimb_abs hci]
  have hnn : ∀ i, i < m + 1 → ¬ upd li (s * R + m) w (s * R + i) < 0 := by
    intro i hi
    by_cases e : i = m
    · rw [e, pk_us]; exact hw
    · rw [hlow i (by omega)]; exact l1 i (by omega)
  have hoth : ∀ t, t < n → ¬ t = s → ∀ i, i < R → upd li (s * R + m) w (t * R + i) = li (t * R + i) := by
    intro t ht e i hi
    refine pk_un ?_
    rcases Nat.lt_or_gt_of_ne e with a | a
    · have := slot_le (R := R) a
      omega
    · have := slot_le (R := R) a
      omega
  unfold f_N_putLimb
  rw [pk_mul, nI_add, inb_nI (show s * R + m < n * R by omega) (by omega), nI_clamp (show s * R + m < 2 ^ 31 by omega)]
  simp only [cond_true]
  by_cases h0 : w = 0
  · rw [if_pos h0]
    subst h0
    have hz := zlimb_0 (m := m) hci l3
    refine ⟨_, _, _, rfl, ?_, hnn, hv, zlimb_sg hci⟩
    rw [hz]
    intro t ht
    by_cases e : t = s
    · subst e
      rw [zset_s]
      obtain ⟨len, d1, d2, d3, d4, d5, d6⟩ := nrep_all (hst t ht)
      have hlm : len ≤ m := by
        rcases Nat.lt_or_ge m len with h | h
        · exfalso
          have x1 := vl_ge (f := fun i => li (t * R + i)) (n := len) d3 d4 (by omega)
          have x2 := vl_lt (fun i => li (t * R + i)) m
          have x3 : (2147483648 : Nat) ^ m ≤ 2147483648 ^ (len - 1) := Nat.pow_le_pow_right (by decide) (by omega)
          omega
        · exact h
      exact nrep_mk (n := len) d6 d1 d2 (fun i hi => by rw [hlow i (by omega)]; exact d3 i hi) (fun i hi => by rw [hlow i (by omega)]; exact d4 i hi) (by rw [vl_congr len (fun i hi => hlow i (by omega)), d5])
    · rw [zset_n e]
      exact nrep_keep (hst t ht) rfl rfl (hoth t ht e)
  · rw [if_neg h0, inb_nI hs (by omega), nI_clamp (show s < 2 ^ 31 by omega), nI_1]
    refine ⟨_, _, _, rfl, ?_, hnn, hv, zlimb_sg hci⟩
    intro t ht
    by_cases e : t = s
    · subst e
      rw [zset_s]
      refine nrep_mk (n := m + 1) ?_ pk_us (by omega) hnn (fun i hi => by rw [show i = m by omega, pk_us]; exact h0) hv
      rw [pk_us]
      rcases zlimb_sg (z := Z t) (m := m) (w := w) hci with q | q
      · exfalso
        have := zlimb_abs (z := Z t) (m := m) (w := w) hci
        rw [q] at this
        have hp : 0 < w.toNatClampNeg := by
          rcases Nat.eq_zero_or_pos w.toNatClampNeg with x | x
          · exact absurd (by rw [nI_cl hw, x]; rfl) h0
          · exact x
        have := Nat.mul_pos hp (Nat.pow_pos (n := m) (show 0 < 2147483648 by decide))
        simp at *
        omega
      · exact q.symm
    · rw [zset_n e]
      exact nrep_keep (hst t ht) (pk_un e) (pk_un e) (hoth t ht e)
