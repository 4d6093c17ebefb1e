/-! Pure: the two sides compared, joined with a sign, and cut to their length. -/
theorem nI_pm (i : Nat) : nI i + (-1) = nI i - 1 := by rw [Int32.sub_eq_add_neg]
theorem neg1_lt : (nI 0 - 1 : Int32) < 0 := by decide
theorem S_compareSides_L8_ok (K : Nat) {N : Nat} {pl mi : Nat → Int32} (hN : N < 2147483648) (hp : ∀ t, t < N → ¬ pl t < 0) (hm : ∀ t, t < N → ¬ mi t < 0) :
    ∀ (i j : Nat), i < j → i ≤ N → ∃ o : Bool × Int32 × Int32, f_S_compareSides_L8 K N pl N mi j (nI i - 1) = some o ∧ ((o.1 = true ∧ o.2.1 = 1 ∧ vl mi i < vl pl i) ∨ (o.1 = true ∧ o.2.1 = -1 ∧ vl pl i < vl mi i) ∨ (o.1 = false ∧ vl pl i = vl mi i)) := by
  intro i
  induction i with
  | zero =>
    intro j hj _
    obtain ⟨j, rfl⟩ : ∃ j', j = j' + 1 := ⟨j - 1, by omega⟩
    refine ⟨(false, 0, nI 0 - 1), ?_, Or.inr (Or.inr ⟨rfl, rfl⟩)⟩
    rw [f_S_compareSides_L8, if_pos neg1_lt]
  | succ i ih =>
    intro j hj hi
    obtain ⟨j, rfl⟩ : ∃ j', j = j' + 1 := ⟨j - 1, by omega⟩
    have a := hp i (by omega)
    have b := hm i (by omega)
    have va := vl_lt pl i
    have vb := vl_lt mi i
    rw [f_S_compareSides_L8, nI_pred, if_neg (nI_pos (by omega)), inb_nI (show i < N by omega) (by omega), nI_clamp (show i < 2 ^ 31 by omega)]
    simp only [cond_true]
    by_cases e : pl i = mi i
    · rw [if_pos e, nI_pm]
      obtain ⟨o, h1, h2⟩ := ih j (by omega) (by omega)
      refine ⟨o, h1, ?_⟩
      rw [vl_s, vl_s, e]
      rcases h2 with ⟨x, y, z⟩ | ⟨x, y, z⟩ | ⟨x, z⟩
      · exact Or.inl ⟨x, y, by omega⟩
      · exact Or.inr (Or.inl ⟨x, y, by omega⟩)
      · exact Or.inr (Or.inr ⟨x, by omega⟩)
    · rw [if_neg e]
      have ne : (pl i).toNatClampNeg ≠ (mi i).toNatClampNeg := fun q => e (by rw [nI_cl a, nI_cl b, q])
      have ea := cl_toInt a
      have eb := cl_toInt b
      by_cases hle : pl i ≤ mi i
      · rw [if_pos hle]
        refine ⟨_, rfl, Or.inr (Or.inl ⟨rfl, rfl, ?_⟩)⟩
        have hlt : (pl i).toNatClampNeg + 1 ≤ (mi i).toNatClampNeg := by
          rw [Int32.le_iff_toInt_le] at hle
          omega
        have := Nat.mul_le_mul_right (2147483648 ^ i) hlt
        rw [Nat.add_mul] at this
        rw [vl_s, vl_s]
        omega
      · rw [if_neg hle]
        refine ⟨_, rfl, Or.inl ⟨rfl, rfl, ?_⟩⟩
        have hlt : (mi i).toNatClampNeg + 1 ≤ (pl i).toNatClampNeg := by
          rw [Int32.le_iff_toInt_le] at hle
          omega
        have := Nat.mul_le_mul_right (2147483648 ^ i) hlt
        rw [Nat.add_mul] at this
        rw [vl_s, vl_s]
        omega
theorem S_compareSides_ok (K : Nat) {N : Nat} {pl mi : Nat → Int32} (hN : N < 2147483648) (hK : N < K) (hp : ∀ t, t < N → ¬ pl t < 0) (hm : ∀ t, t < N → ¬ mi t < 0) : f_S_compareSides K N pl N mi = some (sgz ((vl pl N : Int) - vl mi N)) := by
  obtain ⟨o, h1, h2⟩ := S_compareSides_L8_ok K hN hp hm N K hK (Nat.le_refl N)
  unfold f_S_compareSides
  rw [h1]
  simp only [Option.bind_some]
  rcases h2 with ⟨x, y, z⟩ | ⟨x, y, z⟩ | ⟨x, z⟩
  · rw [if_pos x, y, sgz_p (by omega)]
  · rw [if_pos x, y, sgz_n (by omega)]
  · rw [if_neg (by rw [x]; decide), z, Int.sub_self, sgz_0]
theorem S_isZero_ok (K : Nat) {N : Nat} {pl mi : Nat → Int32} (hN : N < 2147483648) (hK : N < K) (hp : ∀ t, t < N → ¬ pl t < 0) (hm : ∀ t, t < N → ¬ mi t < 0) : f_S_isZero K N pl N mi = some (if vl pl N = vl mi N then 1 else 0) := by
  unfold f_S_isZero
  rw [S_compareSides_ok K hN hK hp hm]
  simp only [Option.bind_some]
  by_cases h : vl pl N = vl mi N
  · rw [if_pos h, h, Int.sub_self, sgz_0]; rfl
  · rw [if_neg h, if_neg]
    unfold sgz
    rw [if_neg (by omega)]
    split <;> decide
/-- one limb of a difference with its sign -/
theorem dif_step {b : Int64} {s x y : Int32} {bn sn : Int} (hb : b.toInt = bn) (h1 : -1 ≤ bn) (h2 : bn ≤ 0) (hs : s.toInt = sn) (hsn : sn = 1 ∨ sn = -1 ∨ sn = 0) (hx : ¬ x < 0) (hy : ¬ y < 0) :
    (b + s.toInt64 * (x.toInt64 - y.toInt64)).toInt = bn + sn * ((x.toNatClampNeg : Int) - y.toNatClampNeg) ∧ -2147483648 ≤ bn + sn * ((x.toNatClampNeg : Int) - y.toNatClampNeg) ∧ bn + sn * ((x.toNatClampNeg : Int) - y.toNatClampNeg) < 2147483648 := by
  have a := cl_lt x
  have c := cl_lt y
  have e1 : (x.toInt64 - y.toInt64).toInt = (x.toNatClampNeg : Int) - y.toNatClampNeg := by
    rw [l_sub (by rw [toI_nn hx, toI_nn hy]; omega) (by rw [toI_nn hx, toI_nn hy]; omega), toI_nn hx, toI_nn hy]
  have hb2 : -2147483647 ≤ sn * ((x.toNatClampNeg : Int) - y.toNatClampNeg) ∧ sn * ((x.toNatClampNeg : Int) - y.toNatClampNeg) ≤ 2147483647 := by
    rcases hsn with h | h | h <;> rw [h] <;> omega
  have e2 : (s.toInt64 * (x.toInt64 - y.toInt64)).toInt = sn * ((x.toNatClampNeg : Int) - y.toNatClampNeg) := by
    rw [l_mul (by rw [l_of, hs, e1]; omega) (by rw [l_of, hs, e1]; omega), l_of, hs, e1]
  refine ⟨?_, by omega, by omega⟩
  rw [l_add (by rw [hb, e2]; omega) (by rw [hb, e2]; omega), hb, e2]
theorem S_settle_L12_ok (K : Nat) {N : Nat} {s : Int32} {sn : Int} {mi : Nat → Int32} (hN : N < 2147483648) (hs : s.toInt = sn) (hsn : sn = 1 ∨ sn = -1 ∨ sn = 0) (hm : ∀ t, t < N → ¬ mi t < 0) :
    ∀ (d j i : Nat) (b : Int64) (bn : Int) (r : Nat → Int32), i + d = N → d < j → b.toInt = bn → -1 ≤ bn → bn ≤ 0 → (∀ t, t < N → ¬ r t < 0) →
    ∃ (b' : Int64) (bn' : Int) (r' : Nat → Int32), f_S_settle_L12 K s N N mi j b (nI i) r = some (b', nI N, r') ∧ -1 ≤ bn' ∧ bn' ≤ 0 ∧ (∀ t, t < N → ¬ r' t < 0) ∧ (∀ t, t < i → r' t = r t) ∧ (vl (fun t => r' (i + t)) d : Int) + bn' * (2147483648 ^ d : Nat) = bn + sn * ((vl (fun t => r (i + t)) d : Int) - vl (fun t => mi (i + t)) d) := by
  intro d
  induction d with
  | zero =>
    intro j i b bn r hi hj hb h1 h2 hr
    obtain ⟨j, rfl⟩ : ∃ j', j = j' + 1 := ⟨j - 1, by omega⟩
    have : i = N := by omega
    subst this
    refine ⟨b, bn, r, ?_, h1, h2, hr, fun _ _ => rfl, by simp [vl_0]⟩
    rw [f_S_settle_L12, if_pos nI_le_self]
  | succ d ih =>
    intro j i b bn r hi hj hb h1 h2 hr
    obtain ⟨j, rfl⟩ : ∃ j', j = j' + 1 := ⟨j - 1, by omega⟩
    have hlt : i < N := by omega
    obtain ⟨q1, q2, q3⟩ := dif_step (s := s) hb h1 h2 hs hsn (hr i hlt) (hm i hlt)
    rw [f_S_settle_L12, if_neg (nI_ge hlt (by omega)), inb_nI hlt (by omega), nI_clamp (show i < 2 ^ 31 by omega), nI_1]
    simp only [cond_true]
    generalize hT : b + s.toInt64 * ((r i).toInt64 - (mi i).toInt64) = T at q1
    generalize hn : bn + sn * (((r i).toNatClampNeg : Int) - (mi i).toNatClampNeg) = n at q1 q2 q3
    rw [l_low T, q1]
    have hlo : (n % 2147483648).toNat < 2147483648 := by omega
    have hr' : ∀ t, t < N → ¬ upd r i (nI (n % 2147483648).toNat) t < 0 := by
      intro t ht
      by_cases e : t = i
      · rw [e, pk_us]; exact nI_nn hlo
      · rw [pk_un e]; exact hr t ht
    have hsh : (T >>> ((31 : Int32).toInt64 &&& 63)).toInt = n / 2147483648 := by rw [l_shr, q1]
    obtain ⟨b', bn', r', g1, g2, g3, g4, g5, g6⟩ := ih j (i + 1) _ (n / 2147483648) _ (by omega) (by omega) hsh (by omega) (by omega) hr'
    refine ⟨b', bn', r', g1, g2, g3, g4, fun t ht => by rw [g5 t (by omega), pk_un (by omega)], ?_⟩
    have ei : r' i = nI (n % 2147483648).toNat := by rw [g5 i (by omega), pk_us]
    have c1 : (fun t => upd r i (nI (n % 2147483648).toNat) (i + 1 + t)) = fun t => r (i + 1 + t) := by
      funext t; rw [pk_un (by omega)]
    rw [c1] at g6
    have e0 : ∀ f : Nat → Int32, (fun t => f (i + (t + 1))) = fun t => f (i + 1 + t) := by
      intro f; funext t; congr 1; omega
    rw [vl_one, vl_one (fun t => r (i + t)), vl_one (fun t => mi (i + t)), e0 r', e0 r, e0 mi]
    simp only [Nat.add_zero]
    rw [ei, cl_nI hlo, Nat.pow_succ]
    generalize vl (fun t => r' (i + 1 + t)) d = X at g6 ⊢
    generalize vl (fun t => r (i + 1 + t)) d = Y at g6 ⊢
    generalize vl (fun t => mi (i + 1 + t)) d = Z at g6 ⊢
    generalize (2147483648 : Nat) ^ d = P at g6 ⊢
    have hdm : n = 2147483648 * (n / 2147483648) + n % 2147483648 := (Int.mul_ediv_add_emod n 2147483648).symm
    have cP : ((P * 2147483648 : Nat) : Int) = (P : Int) * 2147483648 := by omega
    have c2 : (((n % 2147483648).toNat + 2147483648 * X : Nat) : Int) = n % 2147483648 + 2147483648 * (X : Int) := by omega
    have c3 : (((r i).toNatClampNeg + 2147483648 * Y : Nat) : Int) = ((r i).toNatClampNeg : Int) + 2147483648 * (Y : Int) := by omega
    have c4 : (((mi i).toNatClampNeg + 2147483648 * Z : Nat) : Int) = ((mi i).toNatClampNeg : Int) + 2147483648 * (Z : Int) := by omega
    have g7 : bn' * ((P : Int) * 2147483648) = 2147483648 * (bn' * P) := by
      rw [Int.mul_comm (P : Int), ← Int.mul_assoc, Int.mul_comm bn', Int.mul_assoc]
    rw [cP, c2, c3, c4, g7]
    have g8 : sn * ((((r i).toNatClampNeg : Int) + 2147483648 * Y) - (((mi i).toNatClampNeg : Int) + 2147483648 * Z)) = sn * (((r i).toNatClampNeg : Int) - (mi i).toNatClampNeg) + 2147483648 * (sn * ((Y : Int) - Z)) := by
      rcases hsn with h | h | h <;> rw [h] <;> omega
    rw [g8]
    omega
theorem S_trimmed_L2_ok (K : Nat) {N : Nat} {r : Nat → Int32} (hN : N < 2147483648) :
    ∀ (i j : Nat), i < j → i ≤ N → ∃ n : Nat, f_S_trimmed_L2 K N r j (nI i) = some (nI n) ∧ n ≤ i ∧ (∀ t, n ≤ t → t < i → r t = 0) ∧ (∀ t, t + 1 = n → ¬ r t = 0) := by
  intro i
  induction i with
  | zero =>
    intro j hj _
    obtain ⟨j, rfl⟩ : ∃ j', j = j' + 1 := ⟨j - 1, by omega⟩
    refine ⟨0, ?_, Nat.le_refl 0, fun t _ h => absurd h (Nat.not_lt_zero t), fun t h => absurd h (by omega)⟩
    rw [f_S_trimmed_L2, if_pos (by decide)]
  | succ i ih =>
    intro j hj hi
    obtain ⟨j, rfl⟩ : ∃ j', j = j' + 1 := ⟨j - 1, by omega⟩
    rw [f_S_trimmed_L2, if_neg (nI_nle (by omega) (by omega)), nI_pred, inb_nI (show i < N by omega) (by omega), nI_clamp (show i < 2 ^ 31 by omega)]
    simp only [cond_true]
    by_cases e : r i = 0
    · rw [if_pos e, pk_m1]
      obtain ⟨n, h1, h2, h3, h4⟩ := ih j (by omega) (by omega)
      refine ⟨n, h1, by omega, fun t a b => ?_, h4⟩
      by_cases q : t = i
      · rw [q, e]
      · exact h3 t a (by omega)
    · rw [if_neg e]
      refine ⟨i + 1, rfl, Nat.le_refl _, fun t a b => absurd a (by omega), fun t h => ?_⟩
      rw [show t = i by omega]; exact e
theorem S_trimmed_ok (K : Nat) {N most : Nat} {r : Nat → Int32} (hN : N < 2147483648) (hK : N < K) (hm : most ≤ N) : ∃ n : Nat, f_S_trimmed K N r (nI most) = some (nI n) ∧ n ≤ most ∧ (∀ t, n ≤ t → t < most → r t = 0) ∧ (∀ t, t + 1 = n → ¬ r t = 0) := by
  obtain ⟨n, h1, h2⟩ := S_trimmed_L2_ok K (r := r) hN most K (by omega) hm
  refine ⟨n, ?_, h2⟩
  unfold f_S_trimmed
  rw [h1]; rfl
theorem vl_cut {f : Nat → Int32} {n N : Nat} (h : n ≤ N) (hz : ∀ t, n ≤ t → t < N → f t = 0) : vl f N = vl f n := by
  have := @vl_z f n (N - n) (fun i hi => hz (n + i) (by omega) (by omega))
  rwa [show n + (N - n) = N by omega] at this
/-- settle: the row holds the size of the difference, its sign and its length beside it -/
theorem S_settle_ok (K : Nat) {N : Nat} {pl mi : Nat → Int32} (hN : N < 2147483648) (hK : N < K) (hp : ∀ t, t < N → ¬ pl t < 0) (hm : ∀ t, t < N → ¬ mi t < 0) :
    ∃ (n : Nat) (r : Nat → Int32), f_S_settle K N pl N mi = some (sgz ((vl pl N : Int) - vl mi N), nI n, r) ∧ n ≤ N ∧ (∀ t, t < N → ¬ r t < 0) ∧ (∀ t, n ≤ t → t < N → r t = 0) ∧ (∀ t, t + 1 = n → ¬ r t = 0) ∧ vl r N = ((vl pl N : Int) - vl mi N).natAbs := by
  have hsn := sgz_toInt ((vl pl N : Int) - vl mi N)
  have hs3 : (sgz ((vl pl N : Int) - vl mi N)).toInt = 1 ∨ (sgz ((vl pl N : Int) - vl mi N)).toInt = -1 ∨ (sgz ((vl pl N : Int) - vl mi N)).toInt = 0 := by
    rw [hsn]
    split
    · exact Or.inr (Or.inr rfl)
    · split
      · exact Or.inl rfl
      · exact Or.inr (Or.inl rfl)
  obtain ⟨b', bn', r', h1, h2, h3, h4, _, h6⟩ := S_settle_L12_ok K (s := sgz ((vl pl N : Int) - vl mi N)) (mi := mi) hN rfl hs3 hm N K 0 0 0 pl (by omega) hK rfl (by decide) (by decide) hp
  have z0 : ∀ f : Nat → Int32, (fun t => f (0 + t)) = f := by intro f; funext t; rw [Nat.zero_add]
  rw [z0, z0, z0, hsn, Int.zero_add] at h6
  obtain ⟨n, t1, t2, t3, t4⟩ := S_trimmed_ok K (r := r') hN hK (Nat.le_refl N)
  have hv := vl_lt r' N
  have hpl := vl_lt pl N
  have hml := vl_lt mi N
  have hval : vl r' N = ((vl pl N : Int) - vl mi N).natAbs := by
    generalize vl r' N = X at h6 hv ⊢
    generalize vl pl N = Y at h6 hpl ⊢
    generalize vl mi N = Z at h6 hml ⊢
    generalize (2147483648 : Nat) ^ N = P at h6 hv hpl hml
    have hb : bn' = 0 ∨ bn' = -1 := by omega
    rcases hb with hb | hb
    · rw [hb, Int.zero_mul, Int.add_zero] at h6
      rw [← Int.natAbs_natCast X, h6]
      split
      · omega
      · split
        · rw [Int.one_mul]
        · omega
    · exfalso
      rw [hb] at h6
      split at h6
      · omega
      · split at h6 <;> omega
  refine ⟨n, r', ?_, t2, h4, t3, t4, hval⟩
  unfold f_S_settle
  rw [S_compareSides_ok K hN hK hp hm]
  simp only [Option.bind_some]
  rw [show (0 : Int32) = nI 0 from rfl, h1]
  simp only [Option.bind_some]
  rw [t1]
  rfl
