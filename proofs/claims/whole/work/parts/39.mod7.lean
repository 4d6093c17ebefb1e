/-! The model: a row from below, and what it tells. -/
theorem sumN_congr {M : Nat → Nat → Int} {N N' : Nat → Int} {i : Nat} : ∀ (d j : Nat), (∀ c, j ≤ c → c < j + d → N c = N' c) → sumN M N i d j = sumN M N' i d j
  | 0, j, _ => by rw [sumN, sumN]
  | d + 1, j, h => by
    rw [sumN, sumN, h j (Nat.le_refl j) (by omega), sumN_congr d (j + 1) (fun c h1 h2 => h c (by omega) (by omega))]
theorem X_insert_L41_ok (K : Nat) {n R i : Nat} {M : Nat → Nat → Int} {N : Nat → Int} (hn : n ≤ 6) (hR : R ≤ 16) (hK : 1300 < K) (hi : i < n) (hb : bd n R M) :
    ∀ (d f9 j t : Nat) (Z : Nat → Int) (f g : Nat → Int32), i < j → j + d = n → d < f9 → t + d ≤ 7 → mst f g Z → mm n Z M → (∀ c, j ≤ c → c < n → Z (42 + c) = N c ∧ (N c).natAbs < 2147483648 ^ 16) → (Z 49).natAbs ≤ t * 2147483648 ^ 32 →
    ∃ (v : Int32) (f' g' : Nat → Int32) (Z' : Nat → Int), f_X_insert_L41 K (nI i) (nI n) 2160 54 f9 (nI j) f g = some (v, f', g') ∧ mst f' g' Z' ∧ (∀ q, q < 48 → Z' q = Z q) ∧ Z' 49 = Z 49 - sumN M N i d j := by
  intro d
  induction d with
  | zero =>
    intro f9 j t Z f g hij hj hf ht hst hm hN hz
    obtain ⟨f9, rfl⟩ : ∃ j', f9 = j' + 1 := ⟨f9 - 1, by omega⟩
    refine ⟨nI j, f, g, Z, ?_, hst, fun _ _ => rfl, ?_⟩
    · rw [f_X_insert_L41, if_pos (nI_le (show n ≤ j by omega) (by omega))]
    · rw [sumN]; omega
  | succ d ih =>
    intro f9 j t Z f g hij hj hf ht hst hm hN hz
    obtain ⟨f9, rfl⟩ : ∃ j', f9 = j' + 1 := ⟨f9 - 1, by omega⟩
    have L := plc_lt hn hi (show j ≤ n by omega)
    have v1 := hm i hi j (by omega)
    obtain ⟨n1, n2⟩ := hN j (Nat.le_refl j) (by omega)
    have xa : (Z (plc n i j)).natAbs < 2147483648 ^ 16 := by rw [v1]; exact to16 hR (hb i hi j (by omega))
    have xb : (Z (42 + j)).natAbs < 2147483648 ^ 16 := by rw [n1]; exact n2
    obtain ⟨f1, g1, a1, a2⟩ := X_multiply_ok K (a := plc n i j) (b := 42 + j) (by omega) (by omega) (by omega) hst xa xb
    have q1 := mul16 xa xb
    obtain ⟨f2, g2, b1, b2⟩ := X_less_ok K (by omega) a2 (by
      rw [zset_n (by decide), zset_s, Int.natAbs_mul]
      refine sum40 (t := t + 1) (by omega) ?_
      rw [Nat.succ_mul]
      generalize (2147483648 : Nat) ^ 32 = X at *
      omega)
    rw [zset_n (show ¬ 49 = 48 by decide), zset_s] at b2
    have keep : ∀ q, q < 48 → zset (zset Z 48 (Z (plc n i j) * Z (42 + j))) 49 (Z 49 - Z (plc n i j) * Z (42 + j)) q = Z q := fun q hq => by rw [zset_n (by omega), zset_n (by omega)]
    obtain ⟨v, f3, g3, Z3, c1, c2, c3, c4⟩ := ih f9 (j + 1) (t + 1) _ f2 g2 (by omega) (by omega) (by omega) (by omega) b2 (fun a ha b hb2 => by rw [keep _ (by have := plc_lt hn ha hb2; omega)]; exact hm a ha b hb2) (fun c h1 h2 => by rw [keep _ (by omega)]; exact hN c (by omega) h2) (by
      rw [zset_s, Nat.succ_mul]
      rw [← Int.natAbs_mul] at q1
      generalize Z (plc n i j) * Z (42 + j) = y at *
      generalize (2147483648 : Nat) ^ 32 = X at *
      generalize t * X = Y at *
      omega)
    refine ⟨v, f3, g3, Z3, ?_, c2, fun q hq => by rw [c3 q hq, keep q hq], ?_⟩
    · rw [f_X_insert_L41, if_neg (nI_ge (show j < n by omega) (by omega)), X_place_ok hn hi (by omega)]
      simp only [Option.bind_some]
      rw [show (42 : Int32) = nI 42 from rfl, nI_add, a1]
      simp only [Option.bind_some]
      rw [b1]
      simp only [Option.bind_some]
      rw [nI_1]
      exact c1
    · rw [c4, zset_s, v1, n1, sumN]
      omega
theorem X_insert_ok (K : Nat) {n R i : Nat} {M : Nat → Nat → Int} {N Z : Nat → Int} {z : Int} {f g : Nat → Int32} (hn : n ≤ 6) (hR : R ≤ 16) (hK : 1300 < K) (hi : i < n) (hst : mst f g Z) (hm : mm n Z M) (hb : bd n R M) (hN : ∀ c, i < c → c < n → Z (42 + c) = N c ∧ (N c).natAbs < 2147483648 ^ R) (hp : M i i ≠ 0) (hz : M (n - 1) (n - 1) * M i n - sumN M N i (n - (i + 1)) (i + 1) = M i i * z) :
    ∃ (x : Int32) (f' g' : Nat → Int32) (Z' : Nat → Int), f_X_insert K (nI n) (nI R) 2160 f 54 g (nI i) = some (x, f', g') ∧ mst f' g' Z' ∧ mm n Z' M ∧ ((z.natAbs < 2147483648 ^ R ∧ x = (if i = 0 then 1 else 0) ∧ Z' (42 + i) = z ∧ ∀ c, c < 6 → c ≠ i → Z' (42 + c) = Z (42 + c)) ∨ (¬ z.natAbs < 2147483648 ^ R ∧ x = 3)) := by
  have L1 := plc_lt hn (show n - 1 < n by omega) (show n - 1 ≤ n by omega)
  have L2 := plc_lt hn hi (Nat.le_refl n)
  have L3 := plc_lt hn hi (show i ≤ n by omega)
  have v1 := hm (n - 1) (by omega) (n - 1) (by omega)
  have v2 := hm i hi n (Nat.le_refl n)
  have v3 := hm i hi i (by omega)
  have xa : (Z (plc n (n - 1) (n - 1))).natAbs < 2147483648 ^ 16 := by rw [v1]; exact to16 hR (hb _ (by omega) _ (by omega))
  have xb : (Z (plc n i n)).natAbs < 2147483648 ^ 16 := by rw [v2]; exact to16 hR (hb _ hi _ (Nat.le_refl n))
  obtain ⟨f1, g1, a1, a2⟩ := X_multiply_ok K (a := plc n (n - 1) (n - 1)) (b := plc n i n) (by omega) (by omega) (by omega) hst xa xb
  have q1 := mul16 xa xb
  obtain ⟨f2, g2, b1, b2⟩ := X_copyZ K (a := 48) (b := 49) (by decide) (by decide) (by decide) (by decide) (by omega) a2
  rw [zset_s, v1, v2] at b2
  rw [v1, v2, ← Int.natAbs_mul] at q1
  have keep : ∀ q, q < 48 → zset (zset Z 48 (M (n - 1) (n - 1) * M i n)) 49 (M (n - 1) (n - 1) * M i n) q = Z q := fun q hq => by rw [zset_n (by omega), zset_n (by omega)]
  obtain ⟨v, f3, g3, Z3, c1, c2, c3, c4⟩ := X_insert_L41_ok K (n := n) (R := R) (i := i) (M := M) (N := N) hn hR hK hi hb (n - (i + 1)) K (i + 1) 1 _ f2 g2 (by omega) (by omega) (by omega) (by omega) b2 (fun a ha b hb2 => by rw [keep _ (by have := plc_lt hn ha hb2; omega)]; exact hm a ha b hb2) (fun c h1 h2 => by rw [keep _ (by omega)]; obtain ⟨y1, y2⟩ := hN c (by omega) h2; exact ⟨y1, to16 hR y2⟩) (by rw [zset_s, Nat.one_mul]; exact q1)
  rw [zset_s, hz] at c4
  have c3' : ∀ q, q < 48 → Z3 q = Z q := fun q hq => by rw [c3 q hq, keep q hq]
  have w3 : Z3 (plc n i i) = M i i := by rw [c3' _ (by omega), v3]
  obtain ⟨f4, g4, d1, d2⟩ := X_divide_ok K (b := plc n i i) (z := z) (by omega) hK c2 (by rw [w3]; exact hp) (by rw [c4, w3])
  have c4' : ∀ q, q < 48 → zset Z3 52 z q = Z q := fun q hq => by rw [zset_n (by omega), c3' q hq]
  obtain ⟨cnt, k1, k2, _, _, k5⟩ := X_count_ok K (p := 52) (f := f4) (by decide) (by omega) d2.1
  have hv := (d2.2 52 (by decide) (by decide) (by decide)).1
  rw [zset_s] at hv
  rw [hv] at k5
  have hcnt : (nI cnt ≤ nI R ↔ z.natAbs < 2147483648 ^ R) := by
    rw [nI_leI (by omega) (by omega), k5]
    exact lenz_lt
  unfold f_X_insert
  have hp1 : nI n - 1 = nI (n - 1) := by obtain ⟨t, rfl⟩ : ∃ t, n = t + 1 := ⟨n - 1, by omega⟩; exact nI_pred t
  rw [hp1, X_place_ok hn (show n - 1 < n by omega) (show n - 1 ≤ n by omega)]
  simp only [Option.bind_some]
  rw [X_place_ok hn hi (Nat.le_refl n)]
  simp only [Option.bind_some]
  rw [a1]
  simp only [Option.bind_some]
  rw [show (48 : Int32) = nI 48 from rfl, show (49 : Int32) = nI 49 from rfl, b1]
  simp only [Option.bind_some]
  rw [nI_1, c1]
  simp only [Option.bind_some]
  rw [X_place_ok hn hi (show i ≤ n by omega)]
  simp only [Option.bind_some]
  rw [d1]
  simp only [Option.bind_some]
  rw [show (52 : Int32) = nI 52 from rfl, k1]
  simp only [Option.bind_some]
  by_cases hlt : z.natAbs < 2147483648 ^ R
  · obtain ⟨f5, g5, e1, e2⟩ := X_copyZ K (a := 52) (b := 42 + i) (by decide) (by decide) (by decide) (by omega) (by omega) d2
    rw [zset_s] at e2
    have keep2 : ∀ q, q < 48 → q ≠ 42 + i → zset (zset Z3 52 z) (42 + i) z q = Z q := fun q hq hne => by rw [zset_n hne, c4' q hq]
    have hm2 : mm n (zset (zset Z3 52 z) (42 + i) z) M := fun a ha b hb2 => by
      have := plc_lt hn ha hb2
      rw [keep2 _ (by omega) (by omega)]; exact hm a ha b hb2
    rw [if_pos (hcnt.mpr hlt), show (42 : Int32) = nI 42 from rfl, nI_add, e1]
    simp only [Option.bind_some]
    by_cases h0 : i = 0
    · rw [if_pos (show nI i ≤ 0 by rw [h0]; decide)]
      exact ⟨_, _, _, _, rfl, e2, hm2, Or.inl ⟨hlt, by rw [if_pos h0], zset_s, fun c hc hne => keep2 _ (by omega) (by omega)⟩⟩
    · rw [if_neg (nI_nle (by omega) (by omega))]
      exact ⟨_, _, _, _, rfl, e2, hm2, Or.inl ⟨hlt, by rw [if_neg h0], zset_s, fun c hc hne => keep2 _ (by omega) (by omega)⟩⟩
  · rw [if_neg (fun h => hlt (hcnt.mp h))]
    exact ⟨_, _, _, _, rfl, d2, fun a ha b hb2 => by rw [c4' _ (by have := plc_lt hn ha hb2; omega)]; exact hm a ha b hb2, Or.inr ⟨hlt, rfl⟩⟩
theorem X_told_ok (K : Nat) {p : Nat} {f g : Nat → Int32} {Z : Nat → Int} {what : Int32} {ti : Int} (hp : p < 54) (h50 : p ≠ 50) (h51 : p ≠ 51) (hK : 200 < K) (h : mst f g Z) (ht : ti = 1 ∨ ti = -1) : f_X_told K 2160 f 54 g (nI p) what (sgz ti) = some (ansz (ti * Z p) what) := by
  obtain ⟨v1, v2⟩ := h.2 p hp h50 h51
  obtain ⟨n, a1, a2, a3, a4, a5⟩ := X_count_ok K (p := p) (f := f) hp hK h.1
  have hab : (ti * Z p).natAbs = (Z p).natAbs := by
    rw [Int.natAbs_mul]
    rcases ht with e | e <;> rw [e] <;> simp
  rw [v1] at a4 a5
  unfold f_X_told ansz
  rw [a1]
  simp only [Option.bind_some]
  rw [hab, ← a5]
  by_cases w1 : what = (-2)
  · rw [if_pos w1, if_pos w1, inb_nI hp (by omega), nI_clamp (show p < 2 ^ 31 by omega), v2, ← sgz_mul]
    rfl
  · rw [if_neg w1, if_neg w1]
    by_cases w2 : what = (-1)
    · rw [if_pos w2, if_pos w2]
    · rw [if_neg w2, if_neg w2]
      by_cases w3 : what < 0
      · rw [if_pos w3, if_pos w3]
      · rw [if_neg w3, if_neg w3]
        by_cases w4 : nI n ≤ what
        · rw [if_pos w4, if_pos w4]
        · rw [if_neg w4, if_neg w4]
          obtain ⟨w, hw⟩ : ∃ w, w = what.toNatClampNeg := ⟨_, rfl⟩
          have hwI : what = nI w := by rw [hw]; exact nI_cl w3
          have hlt : w < n := by
            rcases Nat.lt_or_ge w n with q | q
            · exact q
            · exact absurd (by rw [hwI]; exact nI_le q (by have := Int32.toNatClampNeg_lt what; omega)) w4
          rw [show (40 : Int32) = nI 40 from rfl, hwI, pk_mul, nI_add, inb_nI (show 40 * p + w < 2160 by omega) (by omega), nI_clamp (show 40 * p + w < 2 ^ 31 by omega), nI_clamp (show w < 2 ^ 31 by omega)]
          have := vl_digit (f := rg f p) (n := n) (i := w) (fun t ht => h.1 _ (by omega)) hlt
          rw [a4] at this
          simp only [cond_true]
          exact congrArg some this
