/-! The model: its two kinds of steps. -/
def bd (n R : Nat) (M : Nat → Nat → Int) : Prop := ∀ a, a < n → ∀ b, b ≤ n → (M a b).natAbs < 2147483648 ^ R
theorem p40 : 8 * 2147483648 ^ 32 < 2147483648 ^ 40 := by decide +kernel
theorem mul16 {x y : Nat} (hA : x < 2147483648 ^ 16) (hB : y < 2147483648 ^ 16) : x * y ≤ 2147483648 ^ 32 := by
  have h : x * y ≤ 2147483648 ^ 16 * 2147483648 ^ 16 := Nat.mul_le_mul (Nat.le_of_lt hA) (Nat.le_of_lt hB)
  rw [← Nat.pow_add] at h
  exact h
theorem sum40 {x t : Nat} (ht : t ≤ 7) (h : x ≤ t * 2147483648 ^ 32) : x < 2147483648 ^ 40 := by
  have a := p40
  have b := Nat.mul_le_mul_right (2147483648 ^ 32) ht
  generalize (2147483648 : Nat) ^ 40 = Y at *
  generalize (2147483648 : Nat) ^ 32 = X at *
  omega
theorem to16 {x R : Nat} (hR : R ≤ 16) (h : x < 2147483648 ^ R) : x < 2147483648 ^ 16 := Nat.lt_of_lt_of_le h (Nat.pow_le_pow_right (by decide) hR)
/-- a step's number, before it is divided: in slots 49 and 52 -/
theorem X_cross (K : Nat) {a b c d : Nat} {f g : Nat → Int32} {Z : Nat → Int} (hK : 200 < K) (h : mst f g Z) (ha : a < 48) (hb : b < 48) (hc : c < 48) (hd : d < 48) (xa : (Z a).natAbs < 2147483648 ^ 16) (xb : (Z b).natAbs < 2147483648 ^ 16) (xc : (Z c).natAbs < 2147483648 ^ 16) (xd : (Z d).natAbs < 2147483648 ^ 16) :
    ∃ (f1 g1 f2 g2 f3 g3 f4 g4 f5 g5 : Nat → Int32) (Z5 : Nat → Int), f_X_multiply K 2160 f 54 g (nI a) (nI b) = some (f1, g1) ∧ f_X_copy K 2160 f1 54 g1 (48 : Int32) (49 : Int32) = some (f2, g2) ∧ f_X_multiply K 2160 f2 54 g2 (nI c) (nI d) = some (f3, g3) ∧ f_X_less K 2160 f3 54 g3 = some (f4, g4) ∧ f_X_copy K 2160 f4 54 g4 (49 : Int32) (52 : Int32) = some (f5, g5) ∧ mst f5 g5 Z5 ∧ (∀ p, p < 48 → Z5 p = Z p) ∧ Z5 49 = Z a * Z b - Z c * Z d ∧ Z5 52 = Z a * Z b - Z c * Z d := by
  obtain ⟨f1, g1, a1, a2⟩ := X_multiply_ok K ha hb hK h xa xb
  obtain ⟨f2, g2, b1, b2⟩ := X_copyZ K (a := 48) (b := 49) (by decide) (by decide) (by decide) (by decide) hK a2
  rw [zset_s] at b2
  have kc : zset (zset Z 48 (Z a * Z b)) 49 (Z a * Z b) c = Z c := by rw [zset_n (by omega), zset_n (by omega)]
  have kd : zset (zset Z 48 (Z a * Z b)) 49 (Z a * Z b) d = Z d := by rw [zset_n (by omega), zset_n (by omega)]
  obtain ⟨f3, g3, c1, c2⟩ := X_multiply_ok K hc hd hK b2 (by rw [kc]; exact xc) (by rw [kd]; exact xd)
  rw [kc, kd] at c2
  obtain ⟨f4, g4, d1, d2⟩ := X_less_ok K hK c2 (by
    rw [zset_n (by decide), zset_s, zset_s, Int.natAbs_mul, Int.natAbs_mul]
    refine sum40 (t := 2) (by decide) ?_
    have q1 := mul16 xa xb
    have q2 := mul16 xc xd
    generalize (2147483648 : Nat) ^ 32 = X at *
    omega)
  rw [zset_n (show ¬ 49 = 48 by decide), zset_s, zset_s] at d2
  obtain ⟨f5, g5, e1, e2⟩ := X_copyZ K (a := 49) (b := 52) (by decide) (by decide) (by decide) (by decide) hK d2
  rw [zset_s] at e2
  refine ⟨f1, g1, f2, g2, f3, g3, f4, g4, f5, g5, _, a1, b1, c1, d1, e1, e2, fun p hp => ?_, ?_, zset_s⟩
  · rw [zset_n (by omega), zset_n (by omega), zset_n (by omega), zset_n (by omega), zset_n (by omega)]
  · rw [zset_n (by decide), zset_s]
theorem mm_set {n i j : Nat} {Z : Nat → Int} {M : Nat → Nat → Int} {z : Int} (hn : n ≤ 6) (hj : j ≤ n) (h : mm n Z M) : mm n (zset Z (plc n i j) z) (mset M i j z) := by
  intro a ha b hb
  by_cases e : a = i ∧ b = j
  · obtain ⟨rfl, rfl⟩ := e
    rw [zset_s, mset_s]
  · rw [mset_n e, zset_n, h a ha b hb]
    intro q
    exact e (plc_inj hn hb hj q)
theorem bd_set {n R i j : Nat} {M : Nat → Nat → Int} {z : Int} (h : bd n R M) (hz : z.natAbs < 2147483648 ^ R) : bd n R (mset M i j z) := by
  intro a ha b hb
  by_cases e : a = i ∧ b = j
  · obtain ⟨rfl, rfl⟩ := e
    rw [mset_s]; exact hz
  · rw [mset_n e]; exact h a ha b hb
theorem X_elim_L70_ok (K : Nat) {n R kk i : Nat} {p : Int} (hn : n ≤ 6) (hR : R ≤ 16) (hK : 1300 < K) (hk : kk < i) (hi : i < n) (hp0 : p ≠ 0) :
    ∀ (d f9 j : Nat) (M : Nat → Nat → Int) (Z : Nat → Int) (f g : Nat → Int32), kk < j → j + d = n + 1 → d < f9 → mst f g Z → mm n Z M → bd n R M → p = (if kk = 0 then 1 else M (kk - 1) (kk - 1)) → (∀ c, j ≤ c → c ≤ n → p ∣ M kk kk * M i c - M i kk * M kk c) →
    ∃ (b : Bool) (v v4 : Int32) (f' g' : Nat → Int32) (Z' : Nat → Int), f_X_eliminate_L70 K (nI kk) (nI i) (nI n) (nI R) 2160 54 f9 (nI j) f g = some (b, v, v4, f', g') ∧ (b = !(spJ R kk i p d j M).1) ∧ (b = true → v = 3) ∧ mst f' g' Z' ∧ mm n Z' (spJ R kk i p d j M).2 ∧ bd n R (spJ R kk i p d j M).2 ∧ ∀ t, t < 6 → Z' (42 + t) = Z (42 + t) := by
  intro d
  induction d with
  | zero =>
    intro f9 j M Z f g hkj hj hf hst hm hb hp hdiv
    obtain ⟨f9, rfl⟩ : ∃ j', f9 = j' + 1 := ⟨f9 - 1, by omega⟩
    refine ⟨false, 0, nI j, f, g, Z, ?_, ?_, fun h => absurd h (by decide), hst, ?_, ?_, fun _ _ => rfl⟩
    · rw [f_X_eliminate_L70, if_pos (nI_lt (show n < j by omega) (by omega))]
    · rw [spJ]; rfl
    · rw [spJ]; exact hm
    · rw [spJ]; exact hb
  | succ d ih =>
    intro f9 j M Z f g hkj hj hf hst hm hb hp hdiv
    obtain ⟨f9, rfl⟩ : ∃ j', f9 = j' + 1 := ⟨f9 - 1, by omega⟩
    obtain ⟨z, hz⟩ := hdiv j (Nat.le_refl j) (by omega)
    have hmz : minr M p kk i j = z := by unfold minr; rw [hz, Int.mul_ediv_cancel_left _ hp0]
    have L1 := plc_lt hn (show kk < n by omega) (show kk ≤ n by omega)
    have L2 := plc_lt hn hi (show j ≤ n by omega)
    have L3 := plc_lt hn hi (show kk ≤ n by omega)
    have L4 := plc_lt hn (show kk < n by omega) (show j ≤ n by omega)
    have v1 := hm kk (by omega) kk (by omega)
    have v2 := hm i hi j (by omega)
    have v3 := hm i hi kk (by omega)
    have v4 := hm kk (by omega) j (by omega)
    obtain ⟨f1, g1, f2, g2, f3, g3, f4, g4, f5, g5, Z5, a1, a2, a3, a4, a5, a6, a7, a8, a9⟩ := X_cross K (a := plc n kk kk) (b := plc n i j) (c := plc n i kk) (d := plc n kk j) (by omega) hst (by omega) (by omega) (by omega) (by omega) (by rw [v1]; exact to16 hR (hb _ (by omega) _ (by omega))) (by rw [v2]; exact to16 hR (hb _ hi _ (by omega))) (by rw [v3]; exact to16 hR (hb _ hi _ (by omega))) (by rw [v4]; exact to16 hR (hb _ (by omega) _ (by omega)))
    rw [v1, v2, v3, v4, hz] at a8 a9
    have keepm : ∀ Y : Nat → Int, (∀ q, q < 48 → Y q = Z q) → mm n Y M := fun Y hY a ha b hb2 => by rw [hY _ (by have := plc_lt hn ha hb2; omega)]; exact hm a ha b hb2
    -- the number is in slot 52
    have fin : ∀ (f6 g6 : Nat → Int32) (Z6 : Nat → Int), mst f6 g6 Z6 → (∀ q, q < 48 → Z6 q = Z q) → Z6 52 = z → (∃ cnt : Nat, f_X_count K 2160 f6 (52 : Int32) = some (nI cnt) ∧ (nI cnt ≤ nI R ↔ z.natAbs < 2147483648 ^ R)) ∧ ∃ f7 g7 : Nat → Int32, f_X_copy K 2160 f6 54 g6 (52 : Int32) (nI (plc n i j)) = some (f7, g7) ∧ mst f7 g7 (zset Z6 (plc n i j) z) := by
      intro f6 g6 Z6 h6 hk6 h52
      obtain ⟨cnt, c1, c2, _, _, c5⟩ := X_count_ok K (p := 52) (f := f6) (by decide) (by omega) h6.1
      have hv := (h6.2 52 (by decide) (by decide) (by decide)).1
      rw [h52] at hv
      rw [hv] at c5
      obtain ⟨f7, g7, e1, e2⟩ := X_copyZ K (a := 52) (b := plc n i j) (by decide) (by decide) (by decide) (by omega) (by omega) h6
      rw [h52] at e2
      refine ⟨⟨cnt, c1, ?_⟩, f7, g7, e1, e2⟩
      rw [nI_leI (by omega) (by omega), c5]
      exact lenz_lt
    have go : ∀ (f6 g6 : Nat → Int32) (Z6 : Nat → Int), mst f6 g6 Z6 → (∀ q, q < 48 → Z6 q = Z q) → Z6 52 = z → ∃ (b : Bool) (v v4 : Int32) (f' g' : Nat → Int32) (Z' : Nat → Int), ((f_X_count K 2160 f6 (52 : Int32)).bind fun x236 => if x236 ≤ nI R then (f_X_place (nI n) (nI i) (nI j)).bind fun x239 => (f_X_copy K 2160 f6 54 g6 (52 : Int32) x239).bind fun x241 => f_X_eliminate_L70 K (nI kk) (nI i) (nI n) (nI R) 2160 54 f9 (nI j + 1) x241.1 x241.2 else some (true, 3, nI j, f6, g6)) = some (b, v, v4, f', g') ∧ (b = !(spJ R kk i p (d + 1) j M).1) ∧ (b = true → v = 3) ∧ mst f' g' Z' ∧ mm n Z' (spJ R kk i p (d + 1) j M).2 ∧ bd n R (spJ R kk i p (d + 1) j M).2 ∧ ∀ t, t < 6 → Z' (42 + t) = Z (42 + t) := by
      intro f6 g6 Z6 h6 hk6 h52
      obtain ⟨⟨cnt, c1, c2⟩, f7, g7, e1, e2⟩ := fin f6 g6 Z6 h6 hk6 h52
      rw [c1, spJ, hmz]
      simp only [Option.bind_some]
      by_cases hlt : z.natAbs < 2147483648 ^ R
      · rw [if_pos hlt, if_pos (c2.mpr hlt), X_place_ok hn hi (by omega)]
        simp only [Option.bind_some]
        rw [e1]
        simp only [Option.bind_some]
        rw [nI_1]
        obtain ⟨b, v, v4, f', g', Z', k1, k2, k3, k4, k5, k6, k7⟩ := ih f9 (j + 1) (mset M i j z) (zset Z6 (plc n i j) z) f7 g7 (by omega) (by omega) (by omega) e2 (mm_set hn (by omega) (keepm Z6 hk6)) (bd_set hb hlt) (by
          rw [hp]
          by_cases h0 : kk = 0
          · rw [if_pos h0, if_pos h0]
          · rw [if_neg h0, if_neg h0, mset_n (by omega)]) (by
          intro c hc1 hc2
          rw [mset_n (by omega), mset_n (by omega), mset_n (by omega), mset_n (by omega)]
          exact hdiv c (by omega) hc2)
        exact ⟨b, v, v4, f', g', Z', k1, k2, k3, k4, k5, k6, fun t ht => by rw [k7 t ht, zset_n (by omega), hk6 _ (by omega)]⟩
      · rw [if_neg hlt, if_neg (fun h => hlt (c2.mp h))]
        exact ⟨true, 3, nI j, f6, g6, Z6, rfl, rfl, fun _ => rfl, h6, keepm Z6 hk6, hb, fun t ht => hk6 _ (by omega)⟩
    rw [f_X_eliminate_L70, if_neg (nI_nlt (show j ≤ n by omega) (by omega)), X_place_ok hn (show kk < n by omega) (show kk ≤ n by omega)]
    simp only [Option.bind_some]
    rw [X_place_ok hn hi (show j ≤ n by omega)]
    simp only [Option.bind_some]
    rw [a1]
    simp only [Option.bind_some]
    rw [a2]
    simp only [Option.bind_some]
    rw [X_place_ok hn hi (show kk ≤ n by omega)]
    simp only [Option.bind_some]
    rw [X_place_ok hn (show kk < n by omega) (show j ≤ n by omega)]
    simp only [Option.bind_some]
    rw [a3]
    simp only [Option.bind_some]
    rw [a4]
    simp only [Option.bind_some]
    rw [a5]
    simp only [Option.bind_some]
    by_cases h0 : kk = 0
    · rw [if_pos (show nI kk ≤ 0 by rw [h0]; decide)]
      rw [if_pos h0] at hp
      rw [hp, Int.one_mul] at a9
      have r := go f5 g5 Z5 a6 a7 a9
      rw [X_place_ok hn hi (show j ≤ n by omega)] at r
      simp only [Option.bind_some] at r
      exact r
    · rw [if_neg (nI_nle (by omega) (by omega)), show nI kk - 1 = nI (kk - 1) by obtain ⟨t, rfl⟩ : ∃ t, kk = t + 1 := ⟨kk - 1, by omega⟩; exact nI_pred t, X_place_ok hn (show kk - 1 < n by omega) (show kk - 1 ≤ n by omega)]
      simp only [Option.bind_some]
      have L5 := plc_lt hn (show kk - 1 < n by omega) (show kk - 1 ≤ n by omega)
      rw [if_neg h0] at hp
      have vp := hm (kk - 1) (by omega) (kk - 1) (by omega)
      rw [← hp] at vp
      obtain ⟨f6, g6, e1, e2⟩ := X_divide_ok K (b := plc n (kk - 1) (kk - 1)) (z := z) (by omega) hK a6 (by rw [a7 (plc n (kk - 1) (kk - 1)) (by omega), vp]; exact hp0) (by rw [a8, a7 (plc n (kk - 1) (kk - 1)) (by omega), vp])
      rw [e1]
      simp only [Option.bind_some]
      have r := go f6 g6 _ e2 (fun q hq => by rw [zset_n (by omega), a7 q hq]) zset_s
      rw [X_place_ok hn hi (show j ≤ n by omega)] at r
      simp only [Option.bind_some] at r
      exact r
theorem X_elim_L57_ok (K : Nat) {n R kk : Nat} {p : Int} (hn : n ≤ 6) (hR : R ≤ 16) (hK : 1300 < K) (hkn : kk < n) (hp0 : p ≠ 0) :
    ∀ (d f9 i : Nat) (M : Nat → Nat → Int) (Z : Nat → Int) (f g : Nat → Int32), kk < i → i + d = n → d < f9 → mst f g Z → mm n Z M → bd n R M → p = (if kk = 0 then 1 else M (kk - 1) (kk - 1)) → (∀ a, i ≤ a → a < n → ∀ c, kk < c → c ≤ n → p ∣ M kk kk * M a c - M a kk * M kk c) →
    ∃ (b : Bool) (v v3 : Int32) (f' g' : Nat → Int32) (Z' : Nat → Int), f_X_eliminate_L57 K (nI kk) (nI n) (nI R) 2160 54 f9 (nI i) f g = some (b, v, v3, f', g') ∧ (b = !(spI R kk n p d i M).1) ∧ (b = true → v = 3) ∧ mst f' g' Z' ∧ mm n Z' (spI R kk n p d i M).2 ∧ bd n R (spI R kk n p d i M).2 ∧ ∀ t, t < 6 → Z' (42 + t) = Z (42 + t) := by
  intro d
  induction d with
  | zero =>
    intro f9 i M Z f g hki hi hf hst hm hb hp hdiv
    obtain ⟨f9, rfl⟩ : ∃ j', f9 = j' + 1 := ⟨f9 - 1, by omega⟩
    refine ⟨false, 0, nI i, f, g, Z, ?_, ?_, fun h => absurd h (by decide), hst, ?_, ?_, fun _ _ => rfl⟩
    · rw [f_X_eliminate_L57, if_pos (nI_le (show n ≤ i by omega) (by omega))]
    · rw [spI]; rfl
    · rw [spI]; exact hm
    · rw [spI]; exact hb
  | succ d ih =>
    intro f9 i M Z f g hki hi hf hst hm hb hp hdiv
    obtain ⟨f9, rfl⟩ : ∃ j', f9 = j' + 1 := ⟨f9 - 1, by omega⟩
    obtain ⟨b, v, v4, f1, g1, Z1, h1, h2, h3, h4, h5, h6, h7⟩ := X_elim_L70_ok K (n := n) (R := R) (kk := kk) (i := i) (p := p) hn hR hK hki (by omega) hp0 (n - kk) K (kk + 1) M Z f g (by omega) (by omega) (by omega) hst hm hb hp (fun c hc1 hc2 => hdiv i (Nat.le_refl i) (by omega) c (by omega) hc2)
    rw [spI]
    by_cases hbb : (spJ R kk i p (n - kk) (kk + 1) M).1 = true
    · rw [if_pos hbb]
      rw [hbb] at h2
      have hbf : b = false := h2
      have keep := fun (a c : Nat) (h : ¬ a = i ∨ c < kk + 1) => spJ_keep (R := R) (k := kk) (i := i) (p := p) (n - kk) (kk + 1) M a c h
      obtain ⟨b2, v2, v3, f2, g2, Z2, k1, k2, k3, k4, k5, k6, k7⟩ := ih f9 (i + 1) _ Z1 f1 g1 (by omega) (by omega) (by omega) h4 h5 h6 (by
        by_cases h0 : kk = 0
        · rw [if_pos h0] at hp ⊢; exact hp
        · rw [if_neg h0] at hp ⊢; rw [keep (kk - 1) (kk - 1) (by omega)]; exact hp) (by
        intro a ha1 ha2 c hc1 hc2
        rw [keep kk kk (by omega), keep a c (by omega), keep a kk (by omega), keep kk c (by omega)]
        exact hdiv a (by omega) ha2 c hc1 hc2)
      refine ⟨b2, v2, v3, f2, g2, Z2, ?_, k2, k3, k4, k5, k6, fun t ht => by rw [k7 t ht, h7 t ht]⟩
      rw [f_X_eliminate_L57, if_neg (nI_ge (show i < n by omega) (by omega)), nI_1, h1]
      simp only [Option.bind_some]
      rw [if_neg (by rw [hbf]; decide), nI_1]
      exact k1
    · rw [if_neg hbb]
      have hbt : b = true := by rw [h2]; cases hq : (spJ R kk i p (n - kk) (kk + 1) M).1 with
        | false => rfl
        | true => exact absurd hq hbb
      refine ⟨true, v, 0, f1, g1, Z1, ?_, rfl, fun _ => h3 hbt, h4, h5, h6, h7⟩
      rw [f_X_eliminate_L57, if_neg (nI_ge (show i < n by omega) (by omega)), nI_1, h1]
      simp only [Option.bind_some]
      rw [if_pos hbt]
theorem X_eliminate_ok (K : Nat) {n R kk piv : Nat} {odd : Bool} {pv : Int32} {M : Nat → Nat → Int} {Z : Nat → Int} {f g rr : Nat → Int32} {rw : Nat → Nat} (hn : n ≤ 6) (hR : R ≤ 16) (hK : 1300 < K) (hk : kk < n) (hr : rok n rr rw) (hst : mst f g Z) (hm : mm n Z M) (hb : bd n R M) (hpv : pv = nI piv) (hp0 : pvt M kk ≠ 0)
    (hdiv : ∀ i, kk ≤ i → i < n → M i kk ≠ 0 → ∀ a, kk < a → a < n → ∀ c, kk < c → c ≤ n → pvt M kk ∣ mswap M i kk kk kk * mswap M i kk a c - mswap M i kk a kk * mswap M i kk kk c) :
    ∃ (x pv' od' : Int32) (f' g' rr' : Nat → Int32) (Z' : Nat → Int), f_X_eliminate K (nI n) (nI R) pv (b2i odd) 2160 f 54 g 6 rr (nI kk) = some (x, pv', od', f', g', rr') ∧ x = (spE n R kk M rw odd piv).1 ∧ pv' = nI (spE n R kk M rw odd piv).2.2.2.2 ∧ od' = b2i (spE n R kk M rw odd piv).2.2.2.1 ∧ rok n rr' (spE n R kk M rw odd piv).2.2.1 ∧ mst f' g' Z' ∧ mm n Z' (spE n R kk M rw odd piv).2.1 ∧ bd n R (spE n R kk M rw odd piv).2.1 ∧ ∀ t, t < 6 → Z' (42 + t) = Z (42 + t) := by
  obtain ⟨q, f1, f2⟩ := X_find_L2_ok K hn hk hst hm (n - kk) K kk (by omega) (by omega)
  unfold f_X_eliminate spE
  rw [f1]
  simp only [Option.bind_some]
  rcases f2 with ⟨q1, q2⟩ | q1
  · rw [q1, q2, if_pos rfl]
    exact ⟨_, _, _, _, _, _, Z, rfl, rfl, hpv, rfl, hr, hst, hm, hb, fun _ _ => rfl⟩
  · obtain ⟨g1, g2, g3⟩ := fpv_some _ _ _ q1
    have hqn : q < n := by omega
    rw [q1, if_neg (fun h => by have := (nI_eq (by omega) (by omega)).mp h; omega)]
    obtain ⟨fs, gs, rs, Zs, s1, s2, s3, s4, s5⟩ := X_swap_ok K (odd := odd) hn hqn hk (by omega) hst hm hr
    rw [s1]
    simp only [Option.bind_some]
    have hpm : pvt M kk = (if kk = 0 then 1 else mswap M q kk (kk - 1) (kk - 1)) := by
      unfold pvt
      by_cases h0 : kk = 0
      · rw [if_pos h0, if_pos h0]
      · rw [if_neg h0, if_neg h0]
        unfold mswap
        rw [if_neg (by omega), if_neg (by omega)]
    have hb2 : bd n R (mswap M q kk) := by
      intro a ha b hb3
      unfold mswap
      split
      · exact hb q hqn b hb3
      · split
        · exact hb kk hk b hb3
        · exact hb a ha b hb3
    obtain ⟨b, v, v3, f2, g2', Z2, k1, k2, k3, k4, k5, k6, k7⟩ := X_elim_L57_ok K (p := pvt M kk) hn hR hK hk hp0 (n - 1 - kk) K (kk + 1) (mswap M q kk) Zs fs gs (by omega) (by omega) (by omega) s2 s3 hb2 hpm (fun a ha1 ha2 => hdiv q g1 hqn g3 a (by omega) ha2)
    rw [nI_1, k1]
    simp only [Option.bind_some]
    by_cases hbb : (spI R kk n (pvt M kk) (n - 1 - kk) (kk + 1) (mswap M q kk)).1 = true
    · rw [if_pos hbb]
      rw [hbb] at k2
      rw [if_neg (by rw [k2]; decide)]
      exact ⟨_, _, _, _, _, _, Z2, rfl, rfl, rfl, rfl, s4, k4, k5, k6, fun t ht => by rw [k7 t ht, s5 t ht]⟩
    · rw [if_neg hbb]
      have hbt : b = true := by rw [k2]; cases hq : (spI R kk n (pvt M kk) (n - 1 - kk) (kk + 1) (mswap M q kk)).1 with
        | false => rfl
        | true => exact absurd hq hbb
      rw [if_pos hbt]
      exact ⟨_, _, _, _, _, _, Z2, rfl, k3 hbt, rfl, rfl, s4, k4, k5, k6, fun t ht => by rw [k7 t ht, s5 t ht]⟩
