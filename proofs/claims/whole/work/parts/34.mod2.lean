/-! The model: product, comparison, sum and difference. -/
theorem X_mul_L15_ok (K : Nat) {a b la lb : Nat} (ha : a < 48) (hb : b < 48) (hab : la + lb ≤ 40) (hK : 200 < K) :
    ∀ (d j i : Nat) (f : Nat → Int32), i + d = la → d < j → mnn f → la = lenz (vl (rg f a) 40) → (∀ q, lb ≤ q → q < 40 → f (40 * b + q) = 0) → vl (rg f 48) 40 + vl (rg f a) la * vl (rg f b) 40 < 2147483648 ^ 40 + vl (rg f a) i * vl (rg f b) 40 →
    ∃ (v : Int32) (f' : Nat → Int32), f_X_multiply_L15 K (nI a) (nI b) (nI lb) 2160 j (nI i) f = some (v, f') ∧ off f' f 48 ∧ mnn f' ∧ vl (rg f' 48) 40 + vl (rg f a) i * vl (rg f b) 40 = vl (rg f 48) 40 + vl (rg f a) la * vl (rg f b) 40 := by
  intro d
  induction d with
  | zero =>
    intro j i f hi hj hn hla hz hV
    obtain ⟨j, rfl⟩ : ∃ j', j = j' + 1 := ⟨j - 1, by omega⟩
    have : i = la := by omega
    subst this
    obtain ⟨n, c1, _, _, _, c5⟩ := X_count_ok K (p := a) (f := f) (by omega) hK hn
    refine ⟨nI i, f, ?_, fun _ _ => rfl, hn, rfl⟩
    rw [f_X_multiply_L15, c1]
    simp only [Option.bind_some]
    rw [c5, ← hla, if_pos nI_le_self]
  | succ d ih =>
    intro j i f hi hj hn hla hz hV
    obtain ⟨j, rfl⟩ : ∃ j', j = j' + 1 := ⟨j - 1, by omega⟩
    have hlt : i < la := by omega
    obtain ⟨n, c1, _, _, _, c5⟩ := X_count_ok K (p := a) (f := f) (by omega) hK hn
    have mono : vl (rg f a) (i + 1) ≤ vl (rg f a) la := by
      have := vl_app (rg f a) (i + 1) (la - (i + 1))
      rw [show i + 1 + (la - (i + 1)) = la by omega] at this
      omega
    have mono2 : vl (rg f a) (i + 1) * vl (rg f b) 40 ≤ vl (rg f a) la * vl (rg f b) 40 := Nat.mul_le_mul_right _ mono
    have hs : vl (rg f a) (i + 1) * vl (rg f b) 40 = vl (rg f a) i * vl (rg f b) 40 + (f (40 * a + i)).toNatClampNeg * 2147483648 ^ i * vl (rg f b) 40 := by rw [vl_s, Nat.add_mul]; rfl
    obtain ⟨o, g1, g2, g3, g4⟩ := X_mul_L31_ok K (a := a) (b := b) (i := i) (lb := lb) ha hb (by omega) (by omega) (40 - i) K 0 0 0 f (by omega) (by omega) rfl (by decide) hn hz (by rw [vl_0, Nat.mul_zero, Nat.zero_mul]; omega)
    rw [vl_0, Nat.mul_zero, Nat.zero_mul] at g4
    have hn1 : mnn o.2.2 := mnn_off hn g2 g3
    have ra : ∀ s, s ≤ 40 → vl (rg o.2.2 a) s = vl (rg f a) s := fun s hs => vl_congr s (fun q hq => rg_off g2 (by omega) q (by omega))
    have rb : vl (rg o.2.2 b) 40 = vl (rg f b) 40 := vl_congr 40 (rg_off g2 (by omega))
    have hl40 : la ≤ 40 := by omega
    obtain ⟨v, f', k1, k2, k3, k4⟩ := ih j (i + 1) o.2.2 (by omega) (by omega) hn1 (by rw [ra 40 (Nat.le_refl _)]; exact hla) (fun q h1 h2 => by rw [g2 _ (by omega)]; exact hz q h1 h2) (by rw [ra la hl40, ra (i + 1) (by omega), rb]; omega)
    rw [ra la hl40, ra (i + 1) (by omega), rb] at k4
    refine ⟨v, f', ?_, fun s hs => by rw [k2 s hs, g2 s hs], k3, by omega⟩
    rw [f_X_multiply_L15, c1]
    simp only [Option.bind_some]
    rw [c5, ← hla, if_neg (nI_ge hlt (by omega)), show (0 : Int32) = nI 0 from rfl, show (0 : Int64) = 0 from rfl, g1]
    simp only [Option.bind_some]
    rw [nI_1]
    exact k1
theorem mul_16 {x y : Nat} (hA : x < 2147483648 ^ 16) (hB : y < 2147483648 ^ 16) : x * y < 2147483648 ^ 40 := by
  have h : x * y ≤ 2147483648 ^ 16 * 2147483648 ^ 16 := Nat.mul_le_mul (Nat.le_of_lt hA) (Nat.le_of_lt hB)
  rw [← Nat.pow_add] at h
  exact Nat.lt_of_le_of_lt h (Nat.pow_lt_pow_right (by decide) (by decide))
/-- multiply: the product stands in slot 48 -/
theorem X_multiply_ok (K : Nat) {a b : Nat} {f g : Nat → Int32} {Z : Nat → Int} (ha : a < 48) (hb : b < 48) (hK : 200 < K) (h : mst f g Z) (hA : (Z a).natAbs < 2147483648 ^ 16) (hB : (Z b).natAbs < 2147483648 ^ 16) : ∃ f' g' : Nat → Int32, f_X_multiply K 2160 f 54 g (nI a) (nI b) = some (f', g') ∧ mst f' g' (zset Z 48 (Z a * Z b)) := by
  obtain ⟨f1, c1, c2, c3⟩ := X_clear_ok K (p := 48) (f := f) (g := g) (by omega) hK
  have h1 : mst f1 (upd g 48 0) (zset Z 48 0) := mst_set h c2 (fun i hi => by rw [c3 i hi]; decide) (by rw [vl_zero (f := rg f1 48) 40 (fun t ht => c3 t ht)]; rfl) pk_us (fun q hq => pk_un hq)
  obtain ⟨va, sa⟩ := h1.2 a (by omega) (by omega) (by omega)
  obtain ⟨vb, sb⟩ := h1.2 b (by omega) (by omega) (by omega)
  rw [zset_n (by omega)] at va vb sa sb
  obtain ⟨v48, _⟩ := h1.2 48 (by omega) (by omega) (by omega)
  rw [zset_s] at v48
  obtain ⟨lb, b1, b2, b3, b4, b5⟩ := X_count_ok K (p := b) (f := f1) (by omega) hK h1.1
  have hlb : lb ≤ 16 := by rw [b5, vb]; exact lenz_lt.mpr hB
  have hla : lenz (vl (rg f1 a) 40) ≤ 16 := by rw [va]; exact lenz_lt.mpr hA
  obtain ⟨la, hla2⟩ : ∃ la, la = lenz (vl (rg f1 a) 40) := ⟨_, rfl⟩
  obtain ⟨n, _, _, _, a4, a5⟩ := X_count_ok K (p := a) (f := f1) (by omega) hK h1.1
  have hval : vl (rg f1 a) la = (Z a).natAbs := by rw [hla2, ← a5, a4, va]
  have hlt := mul_16 hA hB
  obtain ⟨v, f2, d1, d2, d3, d4⟩ := X_mul_L15_ok K (a := a) (b := b) (la := la) (lb := lb) ha hb (by omega) hK la K 0 f1 (by omega) (by omega) h1.1 hla2 b3 (by rw [hval, vb, v48, vl_0, Nat.zero_mul, Nat.add_zero, Int.natAbs_zero, Nat.zero_add]; exact hlt)
  rw [hval, vb, v48, vl_0, Nat.zero_mul, Nat.add_zero, Int.natAbs_zero, Nat.zero_add] at d4
  refine ⟨f2, upd (upd g 48 0) 48 (upd g 48 0 a * upd g 48 0 b), ?_, ?_⟩
  · unfold f_X_multiply
    rw [show (48 : Int32) = nI 48 from rfl, c1]
    simp only [Option.bind_some]
    rw [b1]
    simp only [Option.bind_some]
    rw [show (0 : Int32) = nI 0 from rfl, d1]
    simp only [Option.bind_some]
    rw [inb_nI (show a < 54 by omega) (by omega), inb_nI (show b < 54 by omega) (by omega), inb_nI (show 48 < 54 by omega) (by omega), nI_clamp (show a < 2 ^ 31 by omega), nI_clamp (show b < 2 ^ 31 by omega), nI_clamp (show 48 < 2 ^ 31 by omega)]
    rfl
  · have h2 : mst f2 (upd (upd g 48 0) 48 (upd g 48 0 a * upd g 48 0 b)) (zset (zset Z 48 0) 48 (Z a * Z b)) := mst_set h1 d2 (fun i hi => d3 _ (by omega)) (by rw [Int.natAbs_mul]; exact d4) (by rw [pk_us, sa, sb, sgz_mul]) (fun q hq => pk_un hq)
    refine ⟨h2.1, fun q q1 q2 q3 => ?_⟩
    have := h2.2 q q1 q2 q3
    by_cases e : q = 48
    · subst e; rw [zset_s] at this ⊢; exact this
    · rw [zset_n e, zset_n e] at this; rw [zset_n e]; exact this
theorem X_compare_L3_ok (K : Nat) {a b : Nat} {f : Nat → Int32} (ha : a < 54) (hb : b < 54) (hn : mnn f) :
    ∀ (i j : Nat), i < j → i ≤ 40 → ∃ o : Bool × Int32 × Int32, f_X_compare_L3 K (nI a) (nI b) 2160 f j (nI i - 1) = some o ∧ ((o.1 = true ∧ o.2.1 = 1 ∧ vl (rg f b) i < vl (rg f a) i) ∨ (o.1 = true ∧ o.2.1 = -1 ∧ vl (rg f a) i < vl (rg f b) i) ∨ (o.1 = false ∧ vl (rg f a) i = vl (rg f b) i)) := by
  intro i
  induction i with
  | zero =>
    intro j hj _
    obtain ⟨j, rfl⟩ : ∃ j', j = j' + 1 := ⟨j - 1, by omega⟩
    refine ⟨(false, 0, nI 0 - 1), ?_, Or.inr (Or.inr ⟨rfl, rfl⟩)⟩
    rw [f_X_compare_L3, if_pos neg1_lt]
  | succ i ih =>
    intro j hj hi
    obtain ⟨j, rfl⟩ : ∃ j', j = j' + 1 := ⟨j - 1, by omega⟩
    have x := hn (40 * a + i) (by omega)
    have y := hn (40 * b + i) (by omega)
    have va := vl_lt (rg f a) i
    have vb := vl_lt (rg f b) i
    rw [f_X_compare_L3, nI_pred, if_neg (nI_pos (by omega)), idx40, idx40, inb_nI (show 40 * a + i < 2160 by omega) (by omega), inb_nI (show 40 * b + i < 2160 by omega) (by omega), nI_clamp (show 40 * a + i < 2 ^ 31 by omega), nI_clamp (show 40 * b + i < 2 ^ 31 by omega)]
    simp only [cond_true]
    have sa : vl (rg f a) (i + 1) = vl (rg f a) i + (f (40 * a + i)).toNatClampNeg * 2147483648 ^ i := vl_s _ _
    have sb : vl (rg f b) (i + 1) = vl (rg f b) i + (f (40 * b + i)).toNatClampNeg * 2147483648 ^ i := vl_s _ _
    by_cases e : f (40 * a + i) = f (40 * b + i)
    · rw [if_pos e, nI_pm]
      obtain ⟨o, h1, h2⟩ := ih j (by omega) (by omega)
      refine ⟨o, h1, ?_⟩
      rw [sa, sb, e]
      rcases h2 with ⟨p, q, r⟩ | ⟨p, q, r⟩ | ⟨p, r⟩
      · exact Or.inl ⟨p, q, by omega⟩
      · exact Or.inr (Or.inl ⟨p, q, by omega⟩)
      · exact Or.inr (Or.inr ⟨p, by omega⟩)
    · rw [if_neg e]
      have ne : (f (40 * a + i)).toNatClampNeg ≠ (f (40 * b + i)).toNatClampNeg := fun q => e (by rw [nI_cl x, nI_cl y, q])
      have ea := cl_toInt x
      have eb := cl_toInt y
      by_cases hle : f (40 * b + i) ≤ f (40 * a + i)
      · rw [if_pos hle]
        refine ⟨_, rfl, Or.inl ⟨rfl, rfl, ?_⟩⟩
        have hlt : (f (40 * b + i)).toNatClampNeg + 1 ≤ (f (40 * a + i)).toNatClampNeg := by
          rw [Int32.le_iff_toInt_le] at hle
          omega
        have := Nat.mul_le_mul_right (2147483648 ^ i) hlt
        rw [Nat.add_mul] at this
        omega
      · rw [if_neg hle]
        refine ⟨_, rfl, Or.inr (Or.inl ⟨rfl, rfl, ?_⟩)⟩
        have hlt : (f (40 * a + i)).toNatClampNeg + 1 ≤ (f (40 * b + i)).toNatClampNeg := by
          rw [Int32.le_iff_toInt_le] at hle
          omega
        have := Nat.mul_le_mul_right (2147483648 ^ i) hlt
        rw [Nat.add_mul] at this
        omega
theorem X_compare_ok (K : Nat) {a b : Nat} {f : Nat → Int32} (ha : a < 54) (hb : b < 54) (hK : 200 < K) (hn : mnn f) : f_X_compare K 2160 f (nI a) (nI b) = some (sgz ((vl (rg f a) 40 : Int) - vl (rg f b) 40)) := by
  obtain ⟨o, h1, h2⟩ := X_compare_L3_ok K ha hb hn 40 K (by omega) (Nat.le_refl _)
  unfold f_X_compare
  rw [show (39 : Int32) = nI 40 - 1 by decide, h1]
  simp only [Option.bind_some]
  rcases h2 with ⟨x, y, z⟩ | ⟨x, y, z⟩ | ⟨x, z⟩
  · rw [if_pos x, y, sgz_p (by omega)]
  · rw [if_pos x, y, sgz_n (by omega)]
  · rw [if_neg (by rw [x]; decide), z, Int.sub_self, sgz_0]
/-- one limb of a sum or a difference -/
theorem jn_step {c : Int64} {x y : Int32} {cn s : Int} {Y : Int64} (hc : c.toInt = cn) (h1 : -1 ≤ cn) (h2 : cn ≤ 1) (hx : ¬ x < 0) (hy : ¬ y < 0) (hs : s = 1 ∨ s = -1) (hY : Y.toInt = s * (y.toNatClampNeg : Int)) :
    ((x.toInt64 + Y) + c).toInt = cn + ((x.toNatClampNeg : Int) + s * (y.toNatClampNeg : Int)) ∧ -1 ≤ (cn + ((x.toNatClampNeg : Int) + s * (y.toNatClampNeg : Int))) / 2147483648 ∧ (cn + ((x.toNatClampNeg : Int) + s * (y.toNatClampNeg : Int))) / 2147483648 ≤ 1 := by
  have a := cl_lt x
  have b := cl_lt y
  have hb : -2147483647 ≤ s * (y.toNatClampNeg : Int) ∧ s * (y.toNatClampNeg : Int) ≤ 2147483647 := by
    rcases hs with h | h <;> rw [h] <;> omega
  generalize s * (y.toNatClampNeg : Int) = t at *
  have e1 : (x.toInt64 + Y).toInt = (x.toNatClampNeg : Int) + t := by
    rw [l_add (by rw [toI_nn hx, hY]; omega) (by rw [toI_nn hx, hY]; omega), toI_nn hx, hY]
  refine ⟨?_, by omega, by omega⟩
  rw [l_add (by rw [hc, e1]; omega) (by rw [hc, e1]; omega), hc, e1]; omega
theorem l_neg {y : Int32} (hy : ¬ y < 0) : (-(y.toInt64)).toInt = -1 * (y.toNatClampNeg : Int) := by
  have a := cl_lt y
  have : -(y.toInt64) = 0 - y.toInt64 := by simp
  rw [this, l_sub (by rw [toI_nn hy]; show -9223372036854775808 ≤ (0 : Int) - _; omega) (by rw [toI_nn hy]; show (0 : Int) - _ < 9223372036854775808; omega), toI_nn hy]
  show (0 : Int) - _ = _
  omega
theorem X_join_L6_ok (K : Nat) {a b t : Nat} {ad : Int32} {s : Int} (ha : a < 54) (hb : b < 54) (ht : t < 54) (hs : (ad = 0 ∧ s = -1) ∨ (ad = 1 ∧ s = 1)) :
    ∀ (d j i : Nat) (c : Int64) (cn : Int) (f : Nat → Int32), i + d = 40 → d < j → c.toInt = cn → -1 ≤ cn → cn ≤ 1 → mnn f →
    ∃ (o : Int64 × Int32 × (Nat → Int32)) (cn' : Int), f_X_join_L6 K (nI a) (nI b) ad (nI t) 2160 j c (nI i) f = some o ∧ off o.2.2 f t ∧ mnn o.2.2 ∧ (∀ q, q < i → o.2.2 (40 * t + q) = f (40 * t + q)) ∧ (vl (fun q => o.2.2 (40 * t + i + q)) d : Int) + cn' * ((2147483648 ^ d : Nat) : Int) = cn + ((vl (fun q => f (40 * a + i + q)) d : Int) + s * (vl (fun q => f (40 * b + i + q)) d : Nat)) := by
  intro d
  induction d with
  | zero =>
    intro j i c cn f hi hj hc h1 h2 hn
    obtain ⟨j, rfl⟩ : ∃ j', j = j' + 1 := ⟨j - 1, by omega⟩
    refine ⟨(c, nI i, f), cn, by rw [f_X_join_L6, n40, if_pos (nI_le (show 40 ≤ i by omega) (by omega))], fun _ _ => rfl, hn, fun _ _ => rfl, ?_⟩
    simp [vl_0]
  | succ d ih =>
    intro j i c cn f hi hj hc h1 h2 hn
    obtain ⟨j, rfl⟩ : ∃ j', j = j' + 1 := ⟨j - 1, by omega⟩
    have hgo : ∀ (Y : Int64), Y.toInt = s * ((f (40 * b + i)).toNatClampNeg : Int) → ∃ (o : Int64 × Int32 × (Nat → Int32)) (cn' : Int), f_X_join_L6 K (nI a) (nI b) ad (nI t) 2160 j ((((f (40 * a + i)).toInt64 + Y) + c) >>> ((31 : Int32).toInt64 &&& 63)) (nI (i + 1)) (upd f (40 * t + i) (((((f (40 * a + i)).toInt64 + Y) + c) &&& 2147483647).toInt32)) = some o ∧ off o.2.2 f t ∧ mnn o.2.2 ∧ (∀ q, q < i → o.2.2 (40 * t + q) = f (40 * t + q)) ∧ (vl (fun q => o.2.2 (40 * t + i + q)) (d + 1) : Int) + cn' * ((2147483648 ^ (d + 1) : Nat) : Int) = cn + ((vl (fun q => f (40 * a + i + q)) (d + 1) : Int) + s * (vl (fun q => f (40 * b + i + q)) (d + 1) : Nat)) := by
      intro Y hY
      obtain ⟨q1, q2, q3⟩ := jn_step (Y := Y) hc h1 h2 (hn (40 * a + i) (by omega)) (hn (40 * b + i) (by omega)) (by omega) hY
      generalize hT : ((f (40 * a + i)).toInt64 + Y) + c = T at q1
      generalize hnn : cn + (((f (40 * a + i)).toNatClampNeg : Int) + s * ((f (40 * b + i)).toNatClampNeg : Int)) = n at q1 q2 q3
      have hlo : (n % 2147483648).toNat < 2147483648 := by omega
      rw [l_low T, q1]
      have hf' : mnn (upd f (40 * t + i) (nI (n % 2147483648).toNat)) := by
        intro z hz
        by_cases e : z = 40 * t + i
        · rw [e, pk_us]; exact nI_nn hlo
        · rw [pk_un e]; exact hn z hz
      have hsh : (T >>> ((31 : Int32).toInt64 &&& 63)).toInt = n / 2147483648 := by rw [l_shr, q1]
      obtain ⟨o, cn', g1, g2, g3, g4, g5⟩ := ih j (i + 1) _ (n / 2147483648) _ (by omega) (by omega) hsh q2 q3 hf'
      refine ⟨o, cn', g1, fun z hz => by rw [g2 z hz, pk_un (by omega)], g3, fun q hq => by rw [g4 q (by omega), pk_un (by omega)], ?_⟩
      have ei : o.2.2 (40 * t + i) = nI (n % 2147483648).toNat := by rw [g4 i (by omega), pk_us]
      have ca : vl (fun q => upd f (40 * t + i) (nI (n % 2147483648).toNat) (40 * a + (i + 1) + q)) d = vl (fun q => f (40 * a + i + 1 + q)) d := vl_congr d (fun q hq => by rw [pk_un (by omega)]; rfl)
      have cb : vl (fun q => upd f (40 * t + i) (nI (n % 2147483648).toNat) (40 * b + (i + 1) + q)) d = vl (fun q => f (40 * b + i + 1 + q)) d := vl_congr d (fun q hq => by rw [pk_un (by omega)]; rfl)
      rw [ca, cb, show 40 * t + (i + 1) = 40 * t + i + 1 by omega] at g5
      rw [tail1, tail1, tail1, ei, cl_nI hlo, Nat.pow_succ]
      generalize vl (fun q => o.2.2 (40 * t + i + 1 + q)) d = X at g5 ⊢
      generalize vl (fun q => f (40 * a + i + 1 + q)) d = A at g5 ⊢
      generalize vl (fun q => f (40 * b + i + 1 + q)) d = B at g5 ⊢
      generalize (2147483648 : Nat) ^ d = P at g5 ⊢
      have cP : ((P * 2147483648 : Nat) : Int) = 2147483648 * (P : Int) := by omega
      have c2 : (((n % 2147483648).toNat + 2147483648 * X : Nat) : Int) = n % 2147483648 + 2147483648 * (X : Int) := by omega
      have c5 : cn' * (2147483648 * (P : Int)) = 2147483648 * (cn' * P) := by rw [Int.mul_left_comm]
      rw [cP, c2, c5]
      generalize cn' * (P : Int) = QP at *
      have hs2 : s = 1 ∨ s = -1 := by omega
      rcases hs2 with e | e <;> rw [e] at hnn g5 ⊢ <;> omega
    rw [f_X_join_L6, idx40, idx40, idx40, inb_nI (show 40 * a + i < 2160 by omega) (by omega), inb_nI (show 40 * b + i < 2160 by omega) (by omega), inb_nI (show 40 * t + i < 2160 by omega) (by omega), nI_clamp (show 40 * a + i < 2 ^ 31 by omega), nI_clamp (show 40 * b + i < 2 ^ 31 by omega), nI_clamp (show 40 * t + i < 2 ^ 31 by omega), n40, if_neg (nI_ge (show i < 40 by omega) (by omega)), nI_1]
    simp only [cond_true]
    rcases hs with ⟨e1, e2⟩ | ⟨e1, e2⟩
    · rw [if_pos e1]
      exact hgo _ (by rw [l_neg (hn _ (by omega)), e2])
    · rw [if_neg (by rw [e1]; decide)]
      exact hgo _ (by rw [toI_nn (hn _ (by omega)), e2, Int.one_mul])
theorem X_join_ok (K : Nat) {a b t : Nat} {ad : Int32} {s : Int} {f : Nat → Int32} (ha : a < 54) (hb : b < 54) (ht : t < 54) (hK : 200 < K) (hs : (ad = 0 ∧ s = -1) ∨ (ad = 1 ∧ s = 1)) (hn : mnn f) (h0 : 0 ≤ (vl (rg f a) 40 : Int) + s * (vl (rg f b) 40 : Nat)) (hB : (vl (rg f a) 40 : Int) + s * (vl (rg f b) 40 : Nat) < ((2147483648 ^ 40 : Nat) : Int)) :
    ∃ f' : Nat → Int32, f_X_join K 2160 f (nI a) (nI b) ad (nI t) = some f' ∧ off f' f t ∧ mnn f' ∧ (vl (rg f' t) 40 : Int) = (vl (rg f a) 40 : Int) + s * (vl (rg f b) 40 : Nat) := by
  obtain ⟨o, cn', h1, h2, h3, _, h5⟩ := X_join_L6_ok K ha hb ht hs 40 K 0 0 0 f (by omega) (by omega) rfl (by decide) (by decide) hn
  have e : ∀ (g : Nat → Int32) (p : Nat), (fun q => g (40 * p + 0 + q)) = rg g p := fun g p => by funext q; rfl
  rw [e, e, e, Int.zero_add] at h5
  refine ⟨o.2.2, ?_, h2, h3, ?_⟩
  · unfold f_X_join
    rw [show (0 : Int32) = nI 0 from rfl, h1]
    rfl
  · have hl := vl_lt (rg o.2.2 t) 40
    rw [← h5] at h0 hB ⊢
    generalize vl (rg o.2.2 t) 40 = X at *
    generalize (2147483648 : Nat) ^ 40 = P at *
    have : cn' = 0 := by
      rcases Int.lt_trichotomy cn' 0 with q | q | q
      · exfalso
        have : cn' * (P : Int) ≤ -1 * (P : Int) := Int.mul_le_mul_of_nonneg_right (by omega) (by omega)
        omega
      · exact q
      · exfalso
        have : 1 * (P : Int) ≤ cn' * (P : Int) := Int.mul_le_mul_of_nonneg_right (by omega) (by omega)
        omega
    rw [this]; simp
