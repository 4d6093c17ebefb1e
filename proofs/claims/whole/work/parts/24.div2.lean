/-! Pure: the inverse of an odd limb; a multiple taken off; the quotient from the lowest limb on. -/
theorem inv_step (w v : Int32) : 1 - w * (v * (2 - w * v)) = (1 - w * v) * (1 - w * v) := by grind
theorem inv_sq {x u c : Int32} (h : x = c * u) : x * x = (c * c) * (u * u) := by rw [h]; grind
theorem odd_8 {n o : Nat} (hn : n = 2 * o + 1) : ∃ u : Int32, 1 - nI n * nI n = 8 * u := by
  obtain ⟨s, hs⟩ : ∃ s, o * (o + 1) = 2 * s := by
    rcases Nat.mod_two_eq_zero_or_one o with h | h
    · exact ⟨o / 2 * (o + 1), by rw [← Nat.mul_assoc, show 2 * (o / 2) = o by omega]⟩
    · exact ⟨o * ((o + 1) / 2), by rw [Nat.mul_left_comm, show 2 * ((o + 1) / 2) = o + 1 by omega]⟩
  refine ⟨- nI s, ?_⟩
  have e : n * n = 8 * s + 1 := by
    rw [hn]
    have : (2 * o + 1) * (2 * o + 1) = 4 * (o * (o + 1)) + 1 := by grind
    rw [this, hs]; omega
  rw [pk_mul, e, ← nI_1, ← pk_mul]
  have : nI 8 = 8 := rfl
  rw [this]
  grind
theorem S_inverseOf_ok (K : Nat) (hK : 5 ≤ K) {n o : Nat} (hn : n = 2 * o + 1) : ∃ inv : Int32, f_S_inverseOf K (nI n) = some inv ∧ nI n * inv = 1 := by
  obtain ⟨u, hu⟩ := odd_8 hn
  obtain ⟨k, hk⟩ : ∃ k, K = k + 5 := ⟨K - 5, by omega⟩
  generalize nI n = w at hu
  have s1 := inv_step w w
  generalize h1 : w * (2 - w * w) = v1 at s1
  have s2 := inv_step w v1
  generalize h2 : v1 * (2 - w * v1) = v2 at s2
  have s3 := inv_step w v2
  generalize h3 : v2 * (2 - w * v2) = v3 at s3
  have s4 := inv_step w v3
  generalize h4 : v3 * (2 - w * v3) = v4 at s4
  refine ⟨v4, ?_, ?_⟩
  · unfold f_S_inverseOf
    have : f_S_inverseOf_L4 K w K w (0 : Int32) = some (v4, 0 + 1 + 1 + 1 + 1) := by
      conv => lhs; rw [show f_S_inverseOf_L4 K w K w (0 : Int32) = f_S_inverseOf_L4 K w (k + 1 + 1 + 1 + 1 + 1) w (0 : Int32) by rw [hk]]
      rw [f_S_inverseOf_L4, if_neg (by decide), h1, f_S_inverseOf_L4, if_neg (by decide), h2, f_S_inverseOf_L4, if_neg (by decide), h3, f_S_inverseOf_L4, if_neg (by decide), h4, f_S_inverseOf_L4, if_pos (by decide)]
    rw [this]
    rfl
  · have e1 : 1 - w * v1 = (8 * 8) * (u * u) := s1.trans (inv_sq hu)
    have e2 := s2.trans (inv_sq e1)
    have e3 := s3.trans (inv_sq e2)
    have e4 := s4.trans (inv_sq e3)
    have z : ((8 * 8) * (8 * 8) * ((8 * 8) * (8 * 8)) * ((8 * 8) * (8 * 8) * ((8 * 8) * (8 * 8))) : Int32) = 0 := by decide
    rw [z] at e4
    grind
/-- the limb that the inverse gives -/
theorem inv_limb {x d inv : Int32} {q : Nat} (hx : ¬ x < 0) (hd : ¬ d < 0) (hi : d * inv = 1) (hq : q < 2147483648) (hc : x.toNatClampNeg = q * d.toNatClampNeg % 2147483648) : x * inv &&& 2147483647 = nI q := by
  rw [pk_and (x * inv) 31 rfl]
  congr 1
  have ex : x.toBitVec.toNat = x.toNatClampNeg := by
    obtain ⟨j, hj, rfl⟩ := nI_of hx
    rw [pk_tn (by omega), nI_clamp hj]
  have ed : d.toBitVec.toNat = d.toNatClampNeg := by
    obtain ⟨j, hj, rfl⟩ := nI_of hd
    rw [pk_tn (by omega), nI_clamp hj]
  have e1 : (x * inv).toBitVec.toNat = x.toBitVec.toNat * inv.toBitVec.toNat % 2 ^ 32 := by
    rw [show (x * inv).toBitVec = x.toBitVec * inv.toBitVec from rfl, BitVec.toNat_mul]
  have e2 : d.toBitVec.toNat * inv.toBitVec.toNat % 2 ^ 32 = 1 := by
    have : (d * inv).toBitVec.toNat = 1 := by rw [hi]; rfl
    rw [← this, show (d * inv).toBitVec = d.toBitVec * inv.toBitVec from rfl, BitVec.toNat_mul]
  rw [ed] at e2
  rw [e1, ex, hc]
  generalize d.toNatClampNeg = D at *
  generalize inv.toBitVec.toNat = V at *
  have e3 : D * V % 2147483648 = 1 := by omega
  rw [Nat.mod_mod_of_dvd _ (show 2 ^ 31 ∣ 2 ^ 32 from ⟨2, rfl⟩)]
  show q * D % 2147483648 * V % 2147483648 = q
  rw [Nat.mod_mul_mod, Nat.mul_assoc, Nat.mul_mod, e3, Nat.mul_one, Nat.mod_mod, Nat.mod_eq_of_lt hq]
/-- one limb of a difference with a multiple -/
theorem tk_step {b v : Int64} {x g : Int32} {bn : Int} {w : Nat} (hb : b.toInt = bn) (h1 : -2147483648 ≤ bn) (h2 : bn ≤ 0) (hv : v.toInt = w) (hw : w < 2147483648) (hx : ¬ x < 0) (hg : ¬ g < 0) :
    ((b + x.toInt64) - v * g.toInt64).toInt = bn + (x.toNatClampNeg : Int) - ((w * g.toNatClampNeg : Nat) : Int) ∧ -2147483648 ≤ (bn + (x.toNatClampNeg : Int) - ((w * g.toNatClampNeg : Nat) : Int)) / 2147483648 ∧ (bn + (x.toNatClampNeg : Int) - ((w * g.toNatClampNeg : Nat) : Int)) / 2147483648 ≤ 0 := by
  have a := cl_lt x
  have c := cl_lt g
  have m : w * g.toNatClampNeg ≤ 2147483647 * 2147483647 := Nat.mul_le_mul (by omega) (by omega)
  have e1 : (v * g.toInt64).toInt = ((w * g.toNatClampNeg : Nat) : Int) := by
    have : v.toInt * g.toInt64.toInt = ((w * g.toNatClampNeg : Nat) : Int) := by rw [hv, toI_nn hg, Int.natCast_mul]
    rw [l_mul (by rw [this]; omega) (by rw [this]; omega), this]
  have e2 : (b + x.toInt64).toInt = bn + (x.toNatClampNeg : Int) := by
    rw [l_add (by rw [hb, toI_nn hx]; omega) (by rw [hb, toI_nn hx]; omega), hb, toI_nn hx]
  generalize w * g.toNatClampNeg = p at *
  refine ⟨?_, by omega, by omega⟩
  rw [l_sub (by rw [e1, e2]; omega) (by rw [e1, e2]; omega), e1, e2]
theorem tk_step1 {b : Int64} {x : Int32} {bn : Int} (hb : b.toInt = bn) (h1 : -2147483648 ≤ bn) (h2 : bn ≤ 0) (hx : ¬ x < 0) :
    (b + x.toInt64).toInt = bn + (x.toNatClampNeg : Int) ∧ -2147483648 ≤ (bn + (x.toNatClampNeg : Int)) / 2147483648 ∧ (bn + (x.toNatClampNeg : Int)) / 2147483648 ≤ 0 := by
  have a := cl_lt x
  refine ⟨?_, by omega, by omega⟩
  rw [l_add (by rw [hb, toI_nn hx]; omega) (by rw [hb, toI_nn hx]; omega), hb, toI_nn hx]
/-- a divisor's limbs, 0 beyond its size -/
def dz (dv : Nat → Int32) (size : Nat) : Nat → Int32 := fun t => if t < size then dv t else 0
theorem dz_nn {dv : Nat → Int32} {size : Nat} (h : ∀ t, t < size → ¬ dv t < 0) (t : Nat) : ¬ dz dv size t < 0 := by
  unfold dz
  split
  · exact h _ (by assumption)
  · decide
theorem vl_zero : ∀ {f : Nat → Int32} (n : Nat), (∀ t, t < n → f t = 0) → vl f n = 0 := by
  intro f n h
  have := vl_cut (f := f) (n := 0) (N := n) (Nat.zero_le n) (fun t _ ht => h t ht)
  rw [this, vl_0]
theorem tail1 (f : Nat → Int32) (a n : Nat) : vl (fun t => f (a + t)) (n + 1) = (f a).toNatClampNeg + 2147483648 * vl (fun t => f (a + 1 + t)) n := by
  rw [vl_one]
  have : (fun i => f (a + (i + 1))) = fun t => f (a + 1 + t) := by funext t; congr 1; omega
  rw [this]
  rfl
theorem S_takeMultiple_L6_ok (K : Nat) {NP ND a m size w : Nat} {v4 : Int64} {dv : Nat → Int32} (hNP : NP < 1073741824) (hND : ND < 1073741824) (hm : a + m ≤ NP) (hs : size ≤ ND) (hw : v4.toInt = w) (hwB : w < 2147483648) (hd : ∀ t, t < size → ¬ dv t < 0) :
    ∀ (d j i : Nat) (b : Int64) (bn : Int) (r : Nat → Int32), i + d = m → d < j → b.toInt = bn → -2147483648 ≤ bn → bn ≤ 0 → (∀ t, t < NP → ¬ r t < 0) →
    ∃ (o : Int64 × Int32 × (Nat → Int32)), f_S_takeMultiple_L6 K (nI a) (nI (a + m)) (nI size) v4 NP ND dv j b (nI (a + i)) r = some o ∧ (∀ t, t < NP → ¬ o.2.2 t < 0) ∧ (∀ t, t < a + i → o.2.2 t = r t) ∧ (∀ t, a + m ≤ t → o.2.2 t = r t) ∧ ∃ q : Int, (vl (fun t => o.2.2 (a + i + t)) d : Int) = bn + vl (fun t => r (a + i + t)) d - ((w * vl (fun t => dz dv size (i + t)) d : Nat) : Int) + q * ((2147483648 ^ d : Nat) : Int) := by
  intro d
  induction d with
  | zero =>
    intro j i b bn r hi hj hb h1 h2 hr
    obtain ⟨j, rfl⟩ : ∃ j', j = j' + 1 := ⟨j - 1, by omega⟩
    have : i = m := by omega
    subst this
    refine ⟨(b, nI (a + i), r), by rw [f_S_takeMultiple_L6, if_pos nI_le_self], hr, fun _ _ => rfl, fun _ _ => rfl, -bn, ?_⟩
    simp only [vl_0]
    simp
    omega
  | succ d ih =>
    intro j i b bn r hi hj hb h1 h2 hr
    obtain ⟨j, rfl⟩ : ∃ j', j = j' + 1 := ⟨j - 1, by omega⟩
    have hlt : a + i < a + m := by omega
    have hx := hr (a + i) (by omega)
    have hin : inb (nI (a + i)) NP = true := inb_nI (by omega) (by omega)
    have hcl : (nI (a + i)).toNatClampNeg = a + i := nI_clamp (by omega)
    have hsub : nI (a + i) - nI a = nI i := by rw [pk_sub (by omega)]; congr 1; omega
    -- the end of a step, whatever was taken
    have hgo : ∀ (T : Int64) (n : Int), T.toInt = n → n = bn + ((r (a + i)).toNatClampNeg : Int) - ((w * (dz dv size i).toNatClampNeg : Nat) : Int) → -2147483648 ≤ n / 2147483648 → n / 2147483648 ≤ 0 →
        ∃ (o : Int64 × Int32 × (Nat → Int32)), f_S_takeMultiple_L6 K (nI a) (nI (a + m)) (nI size) v4 NP ND dv j (T >>> ((31 : Int32).toInt64 &&& 63)) (nI (a + i + 1)) (upd r (a + i) ((T &&& 2147483647).toInt32)) = some o ∧ (∀ t, t < NP → ¬ o.2.2 t < 0) ∧ (∀ t, t < a + i → o.2.2 t = r t) ∧ (∀ t, a + m ≤ t → o.2.2 t = r t) ∧ ∃ q : Int, (vl (fun t => o.2.2 (a + i + t)) (d + 1) : Int) = bn + vl (fun t => r (a + i + t)) (d + 1) - ((w * vl (fun t => dz dv size (i + t)) (d + 1) : Nat) : Int) + q * ((2147483648 ^ (d + 1) : Nat) : Int) := by
      intro T n hT hn hn1 hn2
      have hlo : (n % 2147483648).toNat < 2147483648 := by omega
      rw [l_low T, hT]
      have hr' : ∀ t, t < NP → ¬ upd r (a + i) (nI (n % 2147483648).toNat) t < 0 := by
        intro t ht
        by_cases e : t = a + i
        · rw [e, pk_us]; exact nI_nn hlo
        · rw [pk_un e]; exact hr t ht
      have hsh : (T >>> ((31 : Int32).toInt64 &&& 63)).toInt = n / 2147483648 := by rw [l_shr, hT]
      obtain ⟨o, g1, g2, g3, g4, q, g5⟩ := ih j (i + 1) _ (n / 2147483648) _ (by omega) (by omega) hsh hn1 hn2 hr'
      refine ⟨o, g1, g2, fun t ht => by rw [g3 t (by omega), pk_un (by omega)], fun t ht => by rw [g4 t ht, pk_un (by omega)], q, ?_⟩
      have ei : o.2.2 (a + i) = nI (n % 2147483648).toNat := by rw [g3 (a + i) (by omega), pk_us]
      have c1 : (fun t => upd r (a + i) (nI (n % 2147483648).toNat) (a + (i + 1) + t)) = fun t => r (a + i + 1 + t) := by
        funext t; rw [pk_un (by omega)]; rfl
      rw [c1] at g5
      rw [tail1, tail1, tail1, ei, cl_nI hlo, Nat.pow_succ]
      rw [show a + (i + 1) = a + i + 1 by omega] at g5
      generalize vl (fun t => o.2.2 (a + i + 1 + t)) d = X at g5 ⊢
      generalize vl (fun t => r (a + i + 1 + t)) d = Y at g5 ⊢
      generalize vl (fun t => dz dv size (i + 1 + t)) d = Z at g5 ⊢
      generalize (2147483648 : Nat) ^ d = P at g5 ⊢
      have cP : ((P * 2147483648 : Nat) : Int) = 2147483648 * (P : Int) := by omega
      have c2 : (((n % 2147483648).toNat + 2147483648 * X : Nat) : Int) = n % 2147483648 + 2147483648 * (X : Int) := by omega
      have c3 : (((r (a + i)).toNatClampNeg + 2147483648 * Y : Nat) : Int) = ((r (a + i)).toNatClampNeg : Int) + 2147483648 * (Y : Int) := by omega
      have c4 : ((w * ((dz dv size i).toNatClampNeg + 2147483648 * Z) : Nat) : Int) = ((w * (dz dv size i).toNatClampNeg : Nat) : Int) + 2147483648 * ((w * Z : Nat) : Int) := by
        have : w * ((dz dv size i).toNatClampNeg + 2147483648 * Z) = w * (dz dv size i).toNatClampNeg + 2147483648 * (w * Z) := by rw [Nat.mul_add, Nat.mul_left_comm]
        rw [this]; omega
      have c5 : q * (2147483648 * (P : Int)) = 2147483648 * (q * P) := by rw [Int.mul_left_comm]
      rw [cP, c2, c3, c4, c5]
      generalize q * (P : Int) = QP at *
      generalize w * Z = wZ at *
      omega
    rw [f_S_takeMultiple_L6, if_neg (nI_ge hlt (by omega)), hsub, hin, hcl, nI_1]
    simp only [cond_true]
    by_cases a1 : i < size
    · have hdz : dz dv size i = dv i := by unfold dz; rw [if_pos a1]
      rw [if_pos (nI_lt a1 (by omega)), if_neg (nI_ge a1 (by omega)), inb_nI (show i < ND by omega) (by omega), nI_clamp (show i < 2 ^ 31 by omega)]
      simp only [cond_true]
      obtain ⟨q1, q2, q3⟩ := tk_step (v := v4) hb h1 h2 hw hwB hx (hd i a1)
      exact hgo _ _ q1 (by rw [hdz]) q2 q3
    · have hdz : dz dv size i = 0 := by unfold dz; rw [if_neg a1]
      rw [if_neg (nI_nlt (show size ≤ i by omega) (by omega))]
      by_cases b1 : bn = 0
      · rw [if_pos (lg0_iff.mpr (by rw [hb, b1]))]
        refine ⟨_, rfl, hr, fun _ _ => rfl, fun _ _ => rfl, 0, ?_⟩
        rw [vl_zero (f := fun t => dz dv size (i + t)) (d + 1) (fun t _ => by show dz dv size (i + t) = 0; unfold dz; rw [if_neg (by omega)]), b1]
        simp
      · rw [if_neg (fun h => b1 (by rw [← hb]; exact lg0_iff.mp h)), if_pos (nI_le (show size ≤ i by omega) (by omega))]
        obtain ⟨q1, q2, q3⟩ := tk_step1 hb h1 h2 hx
        exact hgo _ _ q1 (by rw [hdz]; simp) q2 q3
