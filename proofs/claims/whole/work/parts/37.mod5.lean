/-! The model: division whole; places; rows that change places. -/
theorem X_divide_ok (K : Nat) {b : Nat} {f g : Nat → Int32} {Z : Nat → Int} {z : Int} (hb : b < 48) (hK : 1300 < K) (h : mst f g Z) (h0 : Z b ≠ 0) (hz : Z 49 = Z b * z) : ∃ f' g' : Nat → Int32, f_X_divide K 2160 f 54 g (nI b) = some (f', g') ∧ mst f' g' (zset Z 52 z) := by
  obtain ⟨f1, c1, c2, c3⟩ := X_clear_ok K (p := 52) (f := f) (g := g) (by decide) (by omega)
  have h1 : mst f1 (upd g 52 0) (zset Z 52 0) := mst_set h c2 (fun i hi => by rw [c3 i hi]; decide) (by rw [vl_zero (f := rg f1 52) 40 (fun t ht => c3 t ht)]; rfl) pk_us (fun q hq => pk_un hq)
  obtain ⟨v9, s9⟩ := h1.2 49 (by decide) (by decide) (by decide)
  obtain ⟨vb, sb⟩ := h1.2 b (by omega) (by omega) (by omega)
  rw [zset_n (by omega)] at v9 s9 vb sb
  have l9 := vl_lt (rg f1 49) 40
  rw [v9] at l9
  have c49 : (49 : Int32).toNatClampNeg = 49 := by decide
  have i49 : inb 49 54 = true := by decide
  have i52 : inb 52 54 = true := by decide
  have c52 : (52 : Int32).toNatClampNeg = 52 := by decide
  have n52 : (52 : Int32) = nI 52 := rfl
  have n49 : (49 : Int32) = nI 49 := rfl
  have n50 : (50 : Int32) = nI 50 := rfl
  have n51 : (51 : Int32) = nI 51 := rfl
  have e1 : f_X_clear K 2160 f 54 g (52 : Int32) = some (f1, upd g 52 0) := c1
  unfold f_X_divide
  rw [e1]
  simp only [Option.bind_some]
  rw [i49, c49, s9]
  simp only [cond_true]
  by_cases s0 : Z 49 = 0
  · rw [if_pos (by rw [s0]; rfl)]
    have z0 : z = 0 := by
      rw [s0] at hz
      rcases Int.mul_eq_zero.mp hz.symm with q | q
      · exact absurd q h0
      · exact q
    rw [z0]
    exact ⟨f1, _, rfl, h1⟩
  · rw [if_neg (fun q => s0 (sgz_zero.mp q))]
    have hbn : vl (rg f1 b) 40 ≠ 0 := by rw [vb]; omega
    obtain ⟨kz, o, z1, z2, z3⟩ := X_zeros_ok K (p := b) (f := f1) (by omega) hK h1.1 hbn
    obtain ⟨f2, a1, a2, a3, a4⟩ := X_shift_ok K (a := 49) (t := 50) (kz := kz) (f := f1) (by decide) (by decide) (by decide) z2 (by omega) h1.1
    have nn2 : mnn f2 := mnn_off h1.1 a2 a3
    obtain ⟨f3, b1, b2, b3, b4⟩ := X_shift_ok K (a := b) (t := 51) (kz := kz) (f := f2) (by omega) (by decide) (by omega) z2 (by omega) nn2
    have nn3 : mnn f3 := mnn_off nn2 b2 b3
    have hb2 : vl (rg f2 b) 40 = vl (rg f1 b) 40 := vl_congr 40 (rg_off a2 (by omega))
    have hp2 : 0 < 2 ^ kz := Nat.pow_pos (by decide)
    have hD : vl (rg f3 51) 40 = 2 * o + 1 := by rw [b4, hb2, z3, Nat.mul_div_cancel_left _ hp2]
    have hU : vl (rg f3 50) 40 = z.natAbs * (2 * o + 1) := by
      rw [vl_congr 40 (rg_off b2 (show 50 ≠ 51 by decide)), a4, v9, hz, Int.natAbs_mul, ← vb, z3, Nat.mul_assoc, Nat.mul_div_cancel_left _ hp2, Nat.mul_comm]
    have hodd : ∃ o2, (f3 2040).toNatClampNeg = 2 * o2 + 1 := by
      have : vl (rg f3 51) 40 = (f3 2040).toNatClampNeg + 2147483648 * vl (fun i => rg f3 51 (i + 1)) 39 := vl_one (rg f3 51) 39
      rw [hD] at this
      exact ⟨((f3 2040).toNatClampNeg - 1) / 2, by omega⟩
    obtain ⟨o2, ho2⟩ := hodd
    obtain ⟨inv, w, cc, i1, i2⟩ := X_div_L56_ok K (d := (f3 2040).toInt64) (n := (f3 2040).toNatClampNeg) (o := o2) (by omega) (toI_nn (nn3 _ (by decide))) ho2
    have hzl : z.natAbs < 2147483648 ^ 40 := by
      refine Nat.lt_of_le_of_lt ?_ l9
      rw [hz, Int.natAbs_mul]
      have : 1 * z.natAbs ≤ (Z b).natAbs * z.natAbs := Nat.mul_le_mul_right _ (by omega)
      omega
    obtain ⟨v, f4, d1, d2, d3, d4⟩ := X_div_L92_ok K (Q := z.natAbs) (n := (f3 2040).toNatClampNeg) (inv := inv) (D := 2 * o + 1) (c0 := cc) (by omega) i2 hzl 40 K 0 f3 (by omega) (by omega) nn3 hD rfl (fun t ht => absurd ht (Nat.not_lt_zero t)) ⟨0, by
      have e : (fun t => f3 (2000 + 0 + t)) = rg f3 50 := by funext t; rfl
      rw [e, hU, Nat.pow_zero, Nat.div_one, Int.natCast_mul, Int.zero_mul, Int.add_zero]⟩
    rw [z1]
    simp only [Option.bind_some]
    have a1' : f_X_shift K 2160 f1 (49 : Int32) (nI kz) (50 : Int32) = some f2 := a1
    rw [a1']
    simp only [Option.bind_some]
    have b1' : f_X_shift K 2160 f2 (nI b) (nI kz) (51 : Int32) = some f3 := b1
    rw [b1']
    simp only [Option.bind_some]
    have c2040 : (2040 : Int32).toNatClampNeg = 2040 := by decide
    rw [show inb 2040 2160 = true by decide, c2040, i1]
    simp only [cond_true, Option.bind_some]
    have d1' : f_X_divide_L92 K inv 2160 K (0 : Int32) f3 = some (v, f4) := d1
    rw [d1']
    simp only [Option.bind_some]
    rw [inb_nI (show b < 54 by omega) (by omega), nI_clamp (show b < 2 ^ 31 by omega), i52, c52, sb, sgz_div hz h0]
    refine ⟨f4, upd (upd g 52 0) 52 (sgz z), rfl, d2, fun q q1 q2 q3 => ?_⟩
    by_cases e : q = 52
    · subst e
      rw [zset_s]
      refine ⟨?_, pk_us⟩
      rw [vl_digits (r := rg f4 52) (Q := z.natAbs) 40 (fun t ht => d4 t ht), Nat.mod_eq_of_lt hzl]
    · rw [zset_n e, pk_un e, pk_un e]
      have hk := h.2 q q1 q2 q3
      refine ⟨?_, hk.2⟩
      rw [← hk.1]
      exact vl_congr 40 (fun t ht => by
        show f4 (40 * q + t) = f (40 * q + t)
        rw [d3 _ (by omega), b2 _ (by omega), a2 _ (by omega), c2 _ (by omega)])
/-- the place of a number of the matrix -/
def plc (n a b : Nat) : Nat := 7 * a + (if b = n then 6 else b)
theorem plc_lt {n a b : Nat} (hn : n ≤ 6) (ha : a < n) (hb : b ≤ n) : plc n a b < 42 := by
  unfold plc
  split <;> omega
theorem plc_inj {n a b c d : Nat} (hn : n ≤ 6) (hb : b ≤ n) (hd : d ≤ n) (h : plc n a b = plc n c d) : a = c ∧ b = d := by
  unfold plc at h
  split at h <;> split at h <;> omega
theorem X_place_ok {n a b : Nat} (hn : n ≤ 6) (ha : a < n) (hb : b ≤ n) : f_X_place (nI n) (nI a) (nI b) = some (nI (plc n a b)) := by
  unfold f_X_place plc
  have e7 : (7 : Int32) = nI 7 := rfl
  have e6 : (6 : Int32) = nI 6 := rfl
  by_cases e : b = n
  · rw [if_pos (by rw [e]), if_pos e, e7, pk_mul, e6, nI_add]
  · rw [if_neg (fun h => e ((nI_eq (by omega) (by omega)).mp h)), if_neg e, e7, pk_mul, nI_add]
/-- the model's slots say M, and the numerators N -/
def mm (n : Nat) (Z : Nat → Int) (M : Nat → Nat → Int) : Prop := ∀ a, a < n → ∀ b, b ≤ n → Z (plc n a b) = M a b
theorem X_swap_L2_ok (K : Nat) {i k : Nat} (hi : i < 6) (hk : k < 6) (hK : 200 < K) : ∀ (d j c : Nat) (f g : Nat → Int32) (Z : Nat → Int), c + d = 7 → d < j → mst f g Z → ∃ (v : Int32) (f' g' : Nat → Int32) (Z' : Nat → Int), f_X_swap_L2 K (nI i) (nI k) 2160 54 j (nI c) f g = some (v, f', g') ∧ mst f' g' Z' ∧ ∀ p, Z' p = if p < 42 ∧ c ≤ p % 7 then (if p / 7 = k then Z (7 * i + p % 7) else if p / 7 = i then Z (7 * k + p % 7) else Z p) else Z p := by
  intro d
  induction d with
  | zero =>
    intro j c f g Z hc hj h
    obtain ⟨j, rfl⟩ : ∃ j', j = j' + 1 := ⟨j - 1, by omega⟩
    refine ⟨nI c, f, g, Z, ?_, h, fun p => by rw [if_neg (by omega)]⟩
    rw [f_X_swap_L2, show (7 : Int32) = nI 7 from rfl, if_pos (nI_le (show 7 ≤ c by omega) (by omega))]
  | succ d ih =>
    intro j c f g Z hc hj h
    obtain ⟨j, rfl⟩ : ∃ j', j = j' + 1 := ⟨j - 1, by omega⟩
    have e7 : (7 : Int32) = nI 7 := rfl
    obtain ⟨f1, a1, a2, a3⟩ := X_copy_ok K (a := 7 * i + c) (b := 50) (f := f) (g := g) (by omega) (by decide) hK
    have m1 : mst f1 (upd g 50 (g (7 * i + c))) Z := mst_scr h (Or.inl rfl) a2 (fun q hq => by rw [a3 q hq]; exact h.1 _ (by omega)) (fun q hq => pk_un hq)
    obtain ⟨f2, b1, b2, b3⟩ := X_copy_ok K (a := 7 * k + c) (b := 7 * i + c) (f := f1) (g := upd g 50 (g (7 * i + c))) (by omega) (by omega) hK
    obtain ⟨vk, sk⟩ := m1.2 (7 * k + c) (by omega) (by omega) (by omega)
    obtain ⟨vi, si⟩ := h.2 (7 * i + c) (by omega) (by omega) (by omega)
    have m2 := mst_set (z := Z (7 * k + c)) (g' := upd (upd g 50 (g (7 * i + c))) (7 * i + c) (upd g 50 (g (7 * i + c)) (7 * k + c))) m1 b2 (fun q hq => by rw [b3 q hq]; exact m1.1 _ (by omega)) (by rw [← vk]; exact vl_congr 40 (fun q hq => b3 q hq)) (by rw [pk_us, sk]) (fun q hq => pk_un hq)
    obtain ⟨f3, c1, c2, c3⟩ := X_copy_ok K (a := 50) (b := 7 * k + c) (f := f2) (g := upd (upd g 50 (g (7 * i + c))) (7 * i + c) (upd g 50 (g (7 * i + c)) (7 * k + c))) (by decide) (by omega) hK
    have r50 : ∀ q, q < 40 → f2 (40 * 50 + q) = f (40 * (7 * i + c) + q) := fun q hq => by rw [b2 _ (by omega), a3 q hq]
    have m3 := mst_set (z := Z (7 * i + c)) (g' := upd (upd (upd g 50 (g (7 * i + c))) (7 * i + c) (upd g 50 (g (7 * i + c)) (7 * k + c))) (7 * k + c) (upd (upd g 50 (g (7 * i + c))) (7 * i + c) (upd g 50 (g (7 * i + c)) (7 * k + c)) 50)) m2 c2 (fun q hq => by rw [c3 q hq]; exact m2.1 _ (by omega)) (by rw [← vi]; exact vl_congr 40 (fun q hq => by show f3 (40 * (7 * k + c) + q) = f (40 * (7 * i + c) + q); rw [c3 q hq, r50 q hq])) (by rw [pk_us, pk_un (by omega), pk_us, si]) (fun q hq => pk_un hq)
    obtain ⟨v, f', g', Z', k1, k2, k3⟩ := ih j (c + 1) _ _ _ (by omega) (by omega) m3
    refine ⟨v, f', g', Z', ?_, k2, fun p => ?_⟩
    · rw [f_X_swap_L2, e7, pk_mul, pk_mul, nI_add, nI_add, show (50 : Int32) = nI 50 from rfl, if_neg (nI_ge (show c < 7 by omega) (by omega)), a1]
      simp only [Option.bind_some]
      rw [b1]
      simp only [Option.bind_some]
      rw [c1]
      simp only [Option.bind_some]
      rw [nI_1]
      exact k1
    · rw [k3 p]
      by_cases q1 : p < 42 ∧ c + 1 ≤ p % 7
      · rw [if_pos q1, if_pos (show p < 42 ∧ c ≤ p % 7 by omega)]
        by_cases q3 : p / 7 = k
        · rw [if_pos q3, if_pos q3, zset_n (by omega), zset_n (by omega)]
        · rw [if_neg q3, if_neg q3]
          by_cases q4 : p / 7 = i
          · rw [if_pos q4, if_pos q4, zset_n (by omega), zset_n (by omega)]
          · rw [if_neg q4, if_neg q4, zset_n (by omega), zset_n (by omega)]
      · rw [if_neg q1]
        by_cases q2 : p < 42 ∧ c ≤ p % 7
        · rw [if_pos q2]
          have hpc : p % 7 = c := by omega
          by_cases q3 : p / 7 = k
          · rw [if_pos q3, show p = 7 * k + c by omega, zset_s]
            congr 1; omega
          · rw [if_neg q3, zset_n (by omega)]
            by_cases q4 : p / 7 = i
            · rw [if_pos q4, show p = 7 * i + c by omega, zset_s]
              congr 1; omega
            · rw [if_neg q4, zset_n (by omega)]
        · rw [if_neg q2, zset_n (by omega), zset_n (by omega)]
theorem mm_swap {n i k : Nat} {Z Z' : Nat → Int} {M : Nat → Nat → Int} (hn : n ≤ 6) (hi : i < n) (hk : k < n) (h : mm n Z M) (hz : ∀ p, Z' p = if p < 42 ∧ 0 ≤ p % 7 then (if p / 7 = k then Z (7 * i + p % 7) else if p / 7 = i then Z (7 * k + p % 7) else Z p) else Z p) : mm n Z' (mswap M i k) := by
  intro a ha b hb
  have hl := plc_lt hn ha hb
  have hd : plc n a b / 7 = a := by unfold plc; split <;> omega
  have hr : ∀ c, c < n → 7 * c + plc n a b % 7 = plc n c b := by intro c _; unfold plc; split <;> omega
  rw [hz, if_pos ⟨hl, Nat.zero_le _⟩, hd]
  unfold mswap
  by_cases e : a = k
  · rw [if_pos e, if_pos e, hr i hi]; exact h i hi b hb
  · rw [if_neg e, if_neg e]
    by_cases e2 : a = i
    · rw [if_pos e2, if_pos e2, hr k hk]; exact h k hk b hb
    · rw [if_neg e2, if_neg e2]; exact h a ha b hb
theorem X_swap_ok (K : Nat) {n i k : Nat} {odd : Bool} {f g rr : Nat → Int32} {rw : Nat → Nat} {Z : Nat → Int} {M : Nat → Nat → Int} (hn : n ≤ 6) (hi : i < n) (hk : k < n) (hK : 200 < K) (h : mst f g Z) (hm : mm n Z M) (hr : rok n rr rw) :
    ∃ (f' g' rr' : Nat → Int32) (Z' : Nat → Int), f_X_swap K (b2i odd) 2160 f 54 g 6 rr (nI i) (nI k) = some (b2i (if i = k then odd else !odd), f', g', rr') ∧ mst f' g' Z' ∧ mm n Z' (mswap M i k) ∧ rok n rr' (rswap rw i k) ∧ ∀ j, j < 6 → Z' (42 + j) = Z (42 + j) := by
  obtain ⟨v, f', g', Z', h1, h2, h3⟩ := X_swap_L2_ok K (i := i) (k := k) (by omega) (by omega) hK 7 K 0 f g Z (by omega) (by omega) h
  have hrr : rok n (upd (upd rr i (rr k)) k (rr i)) (rswap rw i k) := by
    have := rok_swap (i := k) (k := i) hr hk hi
    have e : rswap rw k i = rswap rw i k := by
      funext a
      unfold rswap
      by_cases x : a = i
      · by_cases y : a = k
        · rw [if_pos x, if_pos y, ← x, ← y]
        · rw [if_pos x, if_neg y, if_pos x]
      · by_cases y : a = k
        · rw [if_neg x, if_pos y, if_pos y]
        · rw [if_neg x, if_neg y, if_neg y, if_neg x]
    rw [← e]; exact this
  refine ⟨f', g', upd (upd rr i (rr k)) k (rr i), Z', ?_, h2, mm_swap hn hi hk hm h3, hrr, fun j hj => by rw [h3, if_neg (by omega)]⟩
  unfold f_X_swap
  have h1' : f_X_swap_L2 K (nI i) (nI k) 2160 54 K (0 : Int32) f g = some (v, f', g') := h1
  rw [h1']
  simp only [Option.bind_some]
  rw [inb_nI (show i < 6 by omega) (by omega), inb_nI (show k < 6 by omega) (by omega), nI_clamp (show i < 2 ^ 31 by omega), nI_clamp (show k < 2 ^ 31 by omega)]
  simp only [cond_true]
  by_cases e : i = k
  · rw [if_pos (by rw [e]), if_pos e]
    cases odd <;> rfl
  · rw [if_neg (fun q => e ((nI_eq (by omega) (by omega)).mp q)), if_neg e]
    cases odd <;> rfl
theorem X_find_L2_ok (K : Nat) {n kk : Nat} {f g : Nat → Int32} {Z : Nat → Int} {M : Nat → Nat → Int} (hn : n ≤ 6) (hk : kk < n) (h : mst f g Z) (hm : mm n Z M) :
    ∀ (d j i : Nat), i + d = n → d < j → ∃ q : Nat, f_X_eliminate_L2 K (nI kk) (nI n) 54 g j (nI i) = some (nI q) ∧ ((fpv M kk d i = none ∧ q = n) ∨ (fpv M kk d i = some q)) := by
  intro d
  induction d with
  | zero =>
    intro j i hi hj
    obtain ⟨j, rfl⟩ : ∃ j', j = j' + 1 := ⟨j - 1, by omega⟩
    refine ⟨i, ?_, Or.inl ⟨by rw [fpv], by omega⟩⟩
    rw [f_X_eliminate_L2, if_pos (nI_le (show n ≤ i by omega) (by omega))]
  | succ d ih =>
    intro j i hi hj
    obtain ⟨j, rfl⟩ : ∃ j', j = j' + 1 := ⟨j - 1, by omega⟩
    have hl := plc_lt hn (show i < n by omega) (show kk ≤ n by omega)
    have hs := (h.2 (plc n i kk) (by omega) (by omega) (by omega)).2
    rw [hm i (by omega) kk (by omega)] at hs
    rw [f_X_eliminate_L2, if_neg (nI_ge (show i < n by omega) (by omega)), X_place_ok hn (by omega) (by omega)]
    simp only [Option.bind_some]
    rw [inb_nI (show plc n i kk < 54 by omega) (by omega), nI_clamp (show plc n i kk < 2 ^ 31 by omega), hs, fpv]
    simp only [cond_true]
    by_cases e : M i kk = 0
    · rw [if_pos e, if_pos (sgz_zero.mpr e), nI_1]
      exact ih j (i + 1) (by omega) (by omega)
    · rw [if_neg e, if_neg (fun q => e (sgz_zero.mp q))]
      exact ⟨i, rfl, Or.inr rfl⟩
