/-! The model: its difference with signs; the lowest bit; the shift. -/
theorem mst_congr {f g : Nat → Int32} {Z Z' : Nat → Int} (h : mst f g Z) (e : ∀ p, Z p = Z' p) : mst f g Z' := ⟨h.1, fun p a b c => by rw [← e p]; exact h.2 p a b c⟩
theorem X_less_ok (K : Nat) {f g : Nat → Int32} {Z : Nat → Int} (hK : 200 < K) (h : mst f g Z) (hB : (Z 49).natAbs + (Z 48).natAbs < 2147483648 ^ 40) : ∃ f' g' : Nat → Int32, f_X_less K 2160 f 54 g = some (f', g') ∧ mst f' g' (zset Z 49 (Z 49 - Z 48)) := by
  obtain ⟨v9, s9⟩ := h.2 49 (by decide) (by decide) (by decide)
  obtain ⟨v8, s8⟩ := h.2 48 (by decide) (by decide) (by decide)
  have c8 : (48 : Int32).toNatClampNeg = 48 := by decide
  have c9 : (49 : Int32).toNatClampNeg = 49 := by decide
  have i8 : inb 48 54 = true := by decide
  have i9 : inb 49 54 = true := by decide
  have n8 : (48 : Int32) = nI 48 := rfl
  have n9 : (49 : Int32) = nI 49 := rfl
  have put : ∀ (f' : Nat → Int32) (z : Int) (σ : Int32), off f' f 49 → mnn f' → (vl (rg f' 49) 40 : Int) = (z.natAbs : Int) → σ = sgz z → mst f' (upd g 49 σ) (zset Z 49 z) := by
    intro f' z σ h1 h2 h3 h4
    exact mst_set h h1 (fun i hi => h2 _ (by omega)) (by omega) (by rw [pk_us, h4]) (fun q hq => pk_un hq)
  unfold f_X_less
  rw [i8, i9, c8, c9, s8, s9]
  simp only [cond_true]
  generalize hP : Z 48 = P at *
  generalize hS : Z 49 = S at *
  by_cases p0 : P = 0
  · rw [if_pos (by rw [p0]; rfl)]
    refine ⟨f, g, rfl, mst_congr h (fun p => ?_)⟩
    by_cases e : p = 49
    · rw [e, zset_s, p0, hS]; omega
    · rw [zset_n e]
  · rw [if_neg (fun q => p0 (sgz_zero.mp q)), sgz_neg]
    by_cases s0 : S = 0
    · rw [if_pos (by rw [s0]; rfl)]
      obtain ⟨f', a1, a2, a3, a4⟩ := X_join_ok K (a := 49) (b := 48) (t := 49) (ad := 1) (s := 1) (f := f) (by decide) (by decide) (by decide) hK (Or.inr ⟨rfl, rfl⟩) h.1 (by rw [v8, v9]; omega) (by rw [v8, v9, Int.one_mul, ← Int.natCast_add]; exact Int.ofNat_lt.mpr hB)
      rw [n9, n8, a1]
      refine ⟨f', _, rfl, ?_⟩
      exact put f' (S - P) _ a2 a3 (by rw [a4, v8, v9, s0]; simp) (by rw [s0]; simp)
    · rw [if_neg (fun q => s0 (sgz_zero.mp q))]
      by_cases e : sgz S = sgz (-P)
      · rw [if_pos e]
        have hsg : (0 < S ∧ P < 0) ∨ (S < 0 ∧ 0 < P) := by
          rcases Int.lt_or_gt_of_ne s0 with a | a <;> rcases Int.lt_or_gt_of_ne p0 with b | b
          · rw [sgz_n a, sgz_p (by omega)] at e; exact absurd e (by decide)
          · exact Or.inr ⟨a, b⟩
          · exact Or.inl ⟨a, b⟩
          · rw [sgz_p a, sgz_n (by omega)] at e; exact absurd e (by decide)
        obtain ⟨f', a1, a2, a3, a4⟩ := X_join_ok K (a := 49) (b := 48) (t := 49) (ad := 1) (s := 1) (f := f) (by decide) (by decide) (by decide) hK (Or.inr ⟨rfl, rfl⟩) h.1 (by rw [v8, v9]; omega) (by rw [v8, v9, Int.one_mul, ← Int.natCast_add]; exact Int.ofNat_lt.mpr hB)
        rw [n9, n8, a1]
        refine ⟨f', _, rfl, ?_⟩
        refine put f' (S - P) _ a2 a3 (by rw [a4, v8, v9]; rcases hsg with ⟨x, y⟩ | ⟨x, y⟩ <;> omega) ?_
        rcases hsg with ⟨x, y⟩ | ⟨x, y⟩
        · rw [sgz_p (show 0 < -P by omega), sgz_p (by omega)]
        · rw [sgz_n (show -P < 0 by omega), sgz_n (by omega)]
      · rw [if_neg e]
        have hsg : (0 < S ∧ 0 < P) ∨ (S < 0 ∧ P < 0) := by
          rcases Int.lt_or_gt_of_ne s0 with a | a <;> rcases Int.lt_or_gt_of_ne p0 with b | b
          · exact Or.inr ⟨a, b⟩
          · exact absurd (by rw [sgz_n a, sgz_n (by omega)]) e
          · exact absurd (by rw [sgz_p a, sgz_p (by omega)]) e
          · exact Or.inl ⟨a, b⟩
        rw [n9, n8, X_compare_ok K (by decide) (by decide) hK h.1, v8, v9]
        simp only [Option.bind_some]
        have hB1 : S.natAbs < 2147483648 ^ 40 := Nat.lt_of_le_of_lt (Nat.le_add_right _ _) hB
        have hB2 : P.natAbs < 2147483648 ^ 40 := Nat.lt_of_le_of_lt (Nat.le_add_left _ _) hB
        rcases Int.lt_trichotomy ((S.natAbs : Int) - P.natAbs) 0 with w | w | w
        · rw [sgz_n w, if_pos (by decide)]
          obtain ⟨f', a1, a2, a3, a4⟩ := X_join_ok K (a := 48) (b := 49) (t := 49) (ad := 0) (s := -1) (f := f) (by decide) (by decide) (by decide) hK (Or.inl ⟨rfl, rfl⟩) h.1 (by rw [v8, v9]; omega) (by rw [v8, v9]; exact Int.lt_of_le_of_lt (show (P.natAbs : Int) + -1 * (S.natAbs : Int) ≤ (P.natAbs : Int) by omega) (Int.ofNat_lt.mpr hB2))
          rw [a1]
          simp only [Option.bind_some]
          rw [if_neg (by decide), if_pos (by decide)]
          refine ⟨f', _, rfl, ?_⟩
          refine put f' (S - P) _ a2 a3 (by rw [a4, v8, v9]; rcases hsg with ⟨x, y⟩ | ⟨x, y⟩ <;> omega) ?_
          rcases hsg with ⟨x, y⟩ | ⟨x, y⟩
          · rw [sgz_n (show -P < 0 by omega), sgz_n (by omega)]
          · rw [sgz_p (show 0 < -P by omega), sgz_p (by omega)]
        · rw [w, sgz_0, if_neg (by decide)]
          obtain ⟨f', a1, a2, a3, a4⟩ := X_join_ok K (a := 49) (b := 48) (t := 49) (ad := 0) (s := -1) (f := f) (by decide) (by decide) (by decide) hK (Or.inl ⟨rfl, rfl⟩) h.1 (by rw [v8, v9]; omega) (by rw [v8, v9]; exact Int.lt_of_le_of_lt (show (S.natAbs : Int) + -1 * (P.natAbs : Int) ≤ (S.natAbs : Int) by omega) (Int.ofNat_lt.mpr hB1))
          rw [a1]
          simp only [Option.bind_some]
          rw [if_pos trivial]
          refine ⟨f', _, rfl, ?_⟩
          have hz : S - P = 0 := by rcases hsg with ⟨x, y⟩ | ⟨x, y⟩ <;> omega
          exact put f' (S - P) _ a2 a3 (by rw [a4, v8, v9, hz]; omega) (by rw [hz]; rfl)
        · rw [sgz_p w, if_neg (by decide)]
          obtain ⟨f', a1, a2, a3, a4⟩ := X_join_ok K (a := 49) (b := 48) (t := 49) (ad := 0) (s := -1) (f := f) (by decide) (by decide) (by decide) hK (Or.inl ⟨rfl, rfl⟩) h.1 (by rw [v8, v9]; omega) (by rw [v8, v9]; exact Int.lt_of_le_of_lt (show (S.natAbs : Int) + -1 * (P.natAbs : Int) ≤ (S.natAbs : Int) by omega) (Int.ofNat_lt.mpr hB1))
          rw [a1]
          simp only [Option.bind_some]
          rw [if_neg (by decide), if_neg (by decide)]
          refine ⟨f', _, rfl, ?_⟩
          refine put f' (S - P) _ a2 a3 (by rw [a4, v8, v9]; rcases hsg with ⟨x, y⟩ | ⟨x, y⟩ <;> omega) ?_
          rcases hsg with ⟨x, y⟩ | ⟨x, y⟩
          · rw [sgz_p x, sgz_p (by omega)]
          · rw [sgz_n x, sgz_n (by omega)]
theorem bit_of {X m : Nat} (hm : m ≤ 30) : X % 2147483648 / 2 ^ m % 2 = X / 2 ^ m % 2 := by
  have e : 2147483648 = 2 ^ m * (2 * 2 ^ (30 - m)) := by
    rw [← Nat.pow_succ', ← Nat.pow_add, show m + (30 - m).succ = 31 by omega]
  have h := Nat.div_add_mod X 2147483648
  have hp : 0 < 2 ^ m := Nat.pow_pos (by decide)
  have : X = X % 2147483648 + 2 ^ m * (2 * 2 ^ (30 - m) * (X / 2147483648)) := by
    rw [← Nat.mul_assoc, ← e]; omega
  conv => rhs; rw [this]
  rw [Nat.add_mul_div_left _ _ hp, Nat.mul_assoc 2]
  omega
theorem pow_31 (a b : Nat) : (2147483648 : Nat) ^ a * 2 ^ b = 2 ^ (31 * a + b) := by
  rw [show (2147483648 : Nat) = 2 ^ 31 from rfl, ← Nat.pow_mul, ← Nat.pow_add]
theorem X_zeros_L2_ok (K : Nat) {p V : Nat} {f : Nat → Int32} (hp : p < 54) (hn : mnn f) (hV : vl (rg f p) 40 = V) (h0 : V ≠ 0) (hlt : V < 2 ^ 1240) :
    ∀ (d j k q : Nat), k + d = 1240 → d < j → V = 2 ^ k * q → ∃ kz o : Nat, f_X_zeros_L2 K (nI p) 2160 f j (nI k) = some (nI kz) ∧ kz < 1240 ∧ V = 2 ^ kz * (2 * o + 1) := by
  intro d
  induction d with
  | zero =>
    intro j k q hk hj h
    exfalso
    rw [show k = 1240 by omega] at h
    rcases Nat.eq_zero_or_pos q with a | a
    · exact h0 (by rw [h, a, Nat.mul_zero])
    · have : 2 ^ 1240 * 1 ≤ 2 ^ 1240 * q := Nat.mul_le_mul_left _ a
      rw [Nat.mul_one, ← h] at this
      exact Nat.lt_irrefl _ (Nat.lt_of_lt_of_le hlt this)
  | succ d ih =>
    intro j k q hk hj h
    obtain ⟨j, rfl⟩ : ∃ j', j = j' + 1 := ⟨j - 1, by omega⟩
    have hkd : k / 31 < 40 := by omega
    have hpk : 0 < 2 ^ k := Nat.pow_pos (by decide)
    have hq : V / 2 ^ k = q := by rw [h, Nat.mul_div_cancel_left _ hpk]
    have hdig := vl_digit (f := rg f p) (n := 40) (i := k / 31) (fun t ht => hn _ (by omega)) hkd
    rw [hV] at hdig
    have hbit : f (40 * p + k / 31) = nI (V / 2147483648 ^ (k / 31) % 2147483648) := hdig
    have e31 : (31 : Int32) = nI 31 := rfl
    have hdiv : nI k / 31 = nI (k / 31) := by rw [e31, pk_div (by omega) (by omega) (by omega)]
    have hrem : nI k - nI k / 31 * 31 = nI (k % 31) := by rw [e31, pk_rem (by omega) (by omega) (by omega)]
    have hpar : V / 2147483648 ^ (k / 31) % 2147483648 / 2 ^ (k % 31) % 2 = q % 2 := by
      rw [bit_of (by omega), Nat.div_div_eq_div_mul, pow_31, show 31 * (k / 31) + k % 31 = k by omega, hq]
    rw [f_X_zeros_L2, hrem, hdiv, idx40, inb_nI (show 40 * p + k / 31 < 2160 by omega) (by omega), nI_clamp (show 40 * p + k / 31 < 2 ^ 31 by omega), hbit, nI_1]
    simp only [cond_true]
    by_cases e : q % 2 = 0
    · rw [if_pos ((bit_0 (mod_lt31 _) (by omega)).mpr (by rw [hpar]; exact e))]
      exact ih j (k + 1) (q / 2) (by omega) (by omega) (by rw [Nat.pow_succ, Nat.mul_assoc, show 2 * (q / 2) = q by omega]; exact h)
    · rw [if_neg (fun x => e (by rw [← hpar]; exact (bit_0 (mod_lt31 _) (by omega)).mp x))]
      exact ⟨k, q / 2, rfl, by omega, by rw [show 2 * (q / 2) + 1 = q by omega]; exact h⟩
theorem X_zeros_ok (K : Nat) {p : Nat} {f : Nat → Int32} (hp : p < 54) (hK : 1300 < K) (hn : mnn f) (h0 : vl (rg f p) 40 ≠ 0) : ∃ kz o : Nat, f_X_zeros K 2160 f (nI p) = some (nI kz) ∧ kz < 1240 ∧ vl (rg f p) 40 = 2 ^ kz * (2 * o + 1) := by
  have hl := vl_lt (rg f p) 40
  have e : (2147483648 : Nat) ^ 40 = 2 ^ 1240 := by rw [show (2147483648 : Nat) = 2 ^ 31 from rfl, ← Nat.pow_mul]
  rw [e] at hl
  obtain ⟨kz, o, h1, h2, h3⟩ := X_zeros_L2_ok K hp hn rfl h0 hl 1240 K 0 (vl (rg f p) 40) (by omega) (by omega) (by rw [Nat.pow_zero, Nat.one_mul])
  refine ⟨kz, o, ?_, h2, h3⟩
  unfold f_X_zeros
  rw [show (0 : Int32) = nI 0 from rfl, h1]
  rfl
theorem l_two2 {hi lo : Int32} {k : Nat} (h1 : ¬ hi < 0) (h2 : ¬ lo < 0) (hk : k < 31) : (((lo.toInt64 ||| (hi.toInt64 <<< ((31 : Int32).toInt64 &&& 63))) >>> ((nI k).toInt64 &&& 63)) &&& 2147483647).toInt32 = nI ((lo.toNatClampNeg + 2147483648 * hi.toNatClampNeg) / 2 ^ k % 2147483648) := by
  rw [Int64.or_comm]
  exact l_two h1 h2 hk
theorem X_shift_L3_ok (K : Nat) {a t kz : Nat} {f0 : Nat → Int32} (ha : a < 54) (ht : t < 54) (hat : a ≠ t) (hkz : kz < 1240) (hn : mnn f0) :
    ∀ (d j i : Nat) (f : Nat → Int32), i + d = 40 → d < j → off f f0 t → (∀ q, q < i → f (40 * t + q) = nI (((dn (rg f0 a) 40 (kz / 31) q).toNatClampNeg + 2147483648 * (dn (rg f0 a) 40 (kz / 31) (q + 1)).toNatClampNeg) / 2 ^ (kz % 31) % 2147483648)) →
    ∃ (v : Int32) (f' : Nat → Int32), f_X_shift_L3 K (nI a) (nI kz) (nI t) 2160 j (nI i) f = some (v, f') ∧ off f' f0 t ∧ (∀ q, q < 40 → f' (40 * t + q) = nI (((dn (rg f0 a) 40 (kz / 31) q).toNatClampNeg + 2147483648 * (dn (rg f0 a) 40 (kz / 31) (q + 1)).toNatClampNeg) / 2 ^ (kz % 31) % 2147483648)) := by
  have e31 : (31 : Int32) = nI 31 := rfl
  have hdiv : nI kz / 31 = nI (kz / 31) := by rw [e31, pk_div (by omega) (by omega) (by omega)]
  have hrem : nI kz - nI kz / 31 * 31 = nI (kz % 31) := by rw [e31, pk_rem (by omega) (by omega) (by omega)]
  intro d
  induction d with
  | zero =>
    intro j i f hi hj ho h1
    obtain ⟨j, rfl⟩ : ∃ j', j = j' + 1 := ⟨j - 1, by omega⟩
    exact ⟨nI i, f, by rw [f_X_shift_L3, n40, if_pos (nI_le (show 40 ≤ i by omega) (by omega))], ho, fun q hq => h1 q (by omega)⟩
  | succ d ih =>
    intro j i f hi hj ho h1
    obtain ⟨j, rfl⟩ : ∃ j', j = j' + 1 := ⟨j - 1, by omega⟩
    have hr : ∀ q, q < 40 → ¬ rg f0 a q < 0 := fun q hq => hn _ (by omega)
    have key := l_two2 (hi := dn (rg f0 a) 40 (kz / 31) (i + 1)) (lo := dn (rg f0 a) 40 (kz / 31) i) (k := kz % 31) (dn_nn hr _) (dn_nn hr _) (by omega)
    have z0 : ((0 : Int32).toInt64) = (0 : Int64) := rfl
    have rd : ∀ q, q < 40 → f (40 * a + q) = rg f0 a q := fun q hq => ho _ (by omega)
    have hgo : ∀ X : Int32, X = nI (((dn (rg f0 a) 40 (kz / 31) i).toNatClampNeg + 2147483648 * (dn (rg f0 a) 40 (kz / 31) (i + 1)).toNatClampNeg) / 2 ^ (kz % 31) % 2147483648) → ∃ (v : Int32) (f' : Nat → Int32), f_X_shift_L3 K (nI a) (nI kz) (nI t) 2160 j (nI (i + 1)) (upd f (40 * t + i) X) = some (v, f') ∧ off f' f0 t ∧ (∀ q, q < 40 → f' (40 * t + q) = nI (((dn (rg f0 a) 40 (kz / 31) q).toNatClampNeg + 2147483648 * (dn (rg f0 a) 40 (kz / 31) (q + 1)).toNatClampNeg) / 2 ^ (kz % 31) % 2147483648)) := by
      intro X hX
      refine ih j (i + 1) (upd f (40 * t + i) X) (by omega) (by omega) (fun q hq => by rw [pk_un (by omega)]; exact ho q hq) ?_
      intro q hq
      by_cases e : q = i
      · rw [e, pk_us, hX]
      · rw [pk_un (by omega)]; exact h1 q (by omega)
    have ea : (40 : Int32) * nI a + nI (i + kz / 31) = nI (40 * a + (i + kz / 31)) := idx40
    rw [f_X_shift_L3, hrem, hdiv, nI_add, ea, nI_1, nI_1, nI_1, idx40, inb_nI (show 40 * t + i < 2160 by omega) (by omega), nI_clamp (show 40 * t + i < 2 ^ 31 by omega), n40, if_neg (nI_ge (show i < 40 by omega) (by omega))]
    simp only [cond_true]
    unfold dn at key
    by_cases x : i + kz / 31 < 40
    · rw [if_neg (nI_ge x (by omega)), inb_nI (show 40 * a + (i + kz / 31) < 2160 by omega) (by omega), nI_clamp (show 40 * a + (i + kz / 31) < 2 ^ 31 by omega), rd _ x]
      simp only [cond_true]
      rw [if_pos x] at key
      by_cases y : i + kz / 31 + 1 < 40
      · rw [if_neg (nI_ge y (by omega)), inb_nI (show 40 * a + (i + kz / 31) + 1 < 2160 by omega) (by omega), nI_clamp (show 40 * a + (i + kz / 31) + 1 < 2 ^ 31 by omega), Nat.add_assoc (40 * a) (i + kz / 31) 1, rd _ y]
        simp only [cond_true]
        rw [if_pos (show i + 1 + kz / 31 < 40 by omega), show i + 1 + kz / 31 = i + kz / 31 + 1 by omega] at key
        refine hgo _ ?_
        rw [key]
        unfold dn
        rw [if_pos x, if_pos (show i + 1 + kz / 31 < 40 by omega), show i + 1 + kz / 31 = i + kz / 31 + 1 by omega]
      · rw [if_pos (nI_le (show 40 ≤ i + kz / 31 + 1 by omega) (by omega))]
        rw [if_neg (show ¬ i + 1 + kz / 31 < 40 by omega), z0] at key
        refine hgo _ ?_
        rw [key]
        unfold dn
        rw [if_pos x, if_neg (show ¬ i + 1 + kz / 31 < 40 by omega)]
    · rw [if_pos (nI_le (show 40 ≤ i + kz / 31 by omega) (by omega)), if_pos (nI_le (show 40 ≤ i + kz / 31 + 1 by omega) (by omega))]
      rw [if_neg x, if_neg (show ¬ i + 1 + kz / 31 < 40 by omega), z0] at key
      refine hgo _ ?_
      rw [key]
      unfold dn
      rw [if_neg x, if_neg (show ¬ i + 1 + kz / 31 < 40 by omega)]
theorem X_shift_ok (K : Nat) {a t kz : Nat} {f : Nat → Int32} (ha : a < 54) (ht : t < 54) (hat : a ≠ t) (hkz : kz < 1240) (hK : 200 < K) (hn : mnn f) : ∃ f' : Nat → Int32, f_X_shift K 2160 f (nI a) (nI kz) (nI t) = some f' ∧ off f' f t ∧ (∀ q, q < 40 → ¬ f' (40 * t + q) < 0) ∧ vl (rg f' t) 40 = vl (rg f a) 40 / 2 ^ kz := by
  obtain ⟨v, f', h1, h2, h3⟩ := X_shift_L3_ok K (f0 := f) ha ht hat hkz hn 40 K 0 f (by omega) (by omega) (fun _ _ => rfl) (fun q h => absurd h (Nat.not_lt_zero q))
  refine ⟨f', ?_, h2, fun q hq => by rw [h3 q hq]; exact nI_nn (mod_lt31 _), ?_⟩
  · unfold f_X_shift
    rw [show (0 : Int32) = nI 0 from rfl, h1]
    rfl
  · have e1 := vl_shift (T := 2 ^ (kz % 31)) (T' := 2 ^ (31 - kz % 31)) (by rw [← Nat.pow_add, show kz % 31 + (31 - kz % 31) = 31 by omega]) 40 (dn (rg f a) 40 (kz / 31)) (rg f' t) (by unfold dn; rw [if_neg (by omega)]) (fun i hi => by show (f' (40 * t + i)).toNatClampNeg = _; rw [h3 i hi, cl_nI (mod_lt31 _)])
    have e2 := @vl_dn (rg f a) 40 (kz / 31) (by omega)
    have e3 := vl_lt (rg f a) (kz / 31)
    rw [e1, e2]
    generalize vl (dn (rg f a) 40 (kz / 31)) 40 = X
    generalize vl (rg f a) (kz / 31) = Y at *
    have hp : 0 < 2147483648 ^ (kz / 31) := Nat.pow_pos (by decide)
    have : (2 : Nat) ^ kz = 2147483648 ^ (kz / 31) * 2 ^ (kz % 31) := by rw [pow_31, show 31 * (kz / 31) + kz % 31 = kz by omega]
    rw [this, ← Nat.div_div_eq_div_mul, Nat.add_mul_div_left _ _ hp, Nat.div_eq_of_lt e3, Nat.zero_add]
