/-! Pure: the program's quotient. -/
theorem vl_dz {dv : Nat → Int32} {size m : Nat} : ∃ q : Nat, vl dv size = vl (dz dv size) m + q * 2147483648 ^ m := by
  by_cases h : m ≤ size
  · have e := vl_app dv m (size - m)
    rw [show m + (size - m) = size by omega] at e
    refine ⟨vl (fun i => dv (m + i)) (size - m), ?_⟩
    rw [e, vl_congr (f := dz dv size) (g := dv) m (fun i hi => by unfold dz; rw [if_pos (by omega)]), Nat.mul_comm (2147483648 ^ m)]
  · refine ⟨0, ?_⟩
    rw [vl_cut (f := dz dv size) (n := size) (N := m) (by omega) (fun t h1 _ => by unfold dz; rw [if_neg (by omega)]), vl_congr (f := dz dv size) (g := dv) size (fun i hi => by unfold dz; rw [if_pos hi])]
    simp
/-- takeMultiple: the limbs from a place on lose the multiple, up to what lies beyond the end -/
theorem S_takeMultiple_ok (K : Nat) {NP ND a m size w : Nat} {v4 : Int64} {dv r : Nat → Int32} (hNP : NP < 1073741824) (hND : ND < 1073741824) (hK : NP < K) (hm : a + m ≤ NP) (hs : size ≤ ND) (hw : v4.toInt = w) (hwB : w < 2147483648) (hd : ∀ t, t < size → ¬ dv t < 0) (hr : ∀ t, t < NP → ¬ r t < 0) :
    ∃ r' : Nat → Int32, f_S_takeMultiple K NP r ND dv (nI a) (nI (a + m)) (nI size) v4 = some r' ∧ (∀ t, t < NP → ¬ r' t < 0) ∧ (∀ t, t < a → r' t = r t) ∧ (∀ t, a + m ≤ t → r' t = r t) ∧ ∃ q : Int, (vl (fun t => r' (a + t)) m : Int) = vl (fun t => r (a + t)) m - ((w * vl dv size : Nat) : Int) + q * ((2147483648 ^ m : Nat) : Int) := by
  obtain ⟨o, h1, h2, h3, h4, q, h5⟩ := S_takeMultiple_L6_ok K (a := a) (m := m) (v4 := v4) hNP hND hm hs hw hwB hd m K 0 0 0 r (by omega) (by omega) rfl (by decide) (by decide) hr
  rw [Nat.add_zero] at h1 h3 h5
  refine ⟨o.2.2, ?_, h2, h3, h4, ?_⟩
  · unfold f_S_takeMultiple
    rw [h1]
    rfl
  · obtain ⟨p, hp⟩ := @vl_dz dv size m
    refine ⟨q + ((w * p : Nat) : Int), ?_⟩
    have e0 : (fun t => dz dv size (0 + t)) = dz dv size := by funext t; rw [Nat.zero_add]
    rw [e0] at h5
    rw [h5, hp]
    generalize vl (dz dv size) m = Z
    generalize vl (fun t => r (a + t)) m = Y
    generalize (2147483648 : Nat) ^ m = P
    have c1 : w * (Z + p * P) = w * Z + w * p * P := by rw [Nat.mul_add, Nat.mul_assoc]
    rw [c1, Int.add_mul, Int.natCast_add, Int.natCast_mul (w * p) P]
    omega
theorem mod_of {t D Q c P : Int} (h : t = Q * D + c * P) (hP : P % 2147483648 = 0) : t % 2147483648 = Q % 2147483648 * D % 2147483648 := by
  have : (c * P) % 2147483648 = 0 := by rw [Int.mul_emod, hP]; simp
  rw [h, Int.add_emod, this, Int.add_zero, Int.emod_emod_of_dvd (Q * D) (Int.dvd_refl 2147483648), Int.mul_emod Q D, Int.mul_emod (Q % 2147483648) D, Int.emod_emod_of_dvd Q (Int.dvd_refl 2147483648)]
/-- the loop of the quotient's limbs -/
theorem S_divideByOdd_L24_ok (K : Nat) {NP ND places size Q : Nat} {inv : Int32} {dv : Nat → Int32} (hNP : NP < 1073741824) (hND : ND < 1073741824) (hK : NP < K) (hp : places ≤ NP) (hs : size ≤ ND) (hs0 : 0 < size) (hd : ∀ t, t < size → ¬ dv t < 0) (hinv : dv 0 * inv = 1) (hQ : Q < 2147483648 ^ places) :
    ∀ (d j i : Nat) (r : Nat → Int32), i + d = places → d < j → (∀ t, t < NP → ¬ r t < 0) → (∀ t, t < i → r t = nI (Q / 2147483648 ^ t % 2147483648)) → (∃ c : Int, (vl (fun t => r (i + t)) d : Int) = ((Q / 2147483648 ^ i : Nat) : Int) * (vl dv size : Nat) + c * ((2147483648 ^ d : Nat) : Int)) →
    ∃ r' : Nat → Int32, f_S_divideByOdd_L24 K (nI size) (nI places) inv NP ND dv j (nI i) r = some (nI places, r') ∧ (∀ t, t < NP → ¬ r' t < 0) ∧ (∀ t, t < places → r' t = nI (Q / 2147483648 ^ t % 2147483648)) := by
  intro d
  induction d with
  | zero =>
    intro j i r hi hj hr h1 h2
    obtain ⟨j, rfl⟩ : ∃ j', j = j' + 1 := ⟨j - 1, by omega⟩
    have : i = places := by omega
    subst this
    exact ⟨r, by rw [f_S_divideByOdd_L24, if_pos nI_le_self], hr, h1⟩
  | succ d ih =>
    intro j i r hi hj hr h1 h2
    obtain ⟨j, rfl⟩ : ∃ j', j = j' + 1 := ⟨j - 1, by omega⟩
    obtain ⟨c, hc⟩ := h2
    have hlt : i < places := by omega
    have hx := hr i (by omega)
    have hd0 := hd 0 hs0
    have hB : (0 : Nat) < 2147483648 ^ i := Nat.pow_pos (by decide)
    have hvd : ∃ e, vl dv size = (dv 0).toNatClampNeg + 2147483648 * e := by
      obtain ⟨t, rfl⟩ : ∃ t, size = t + 1 := ⟨size - 1, by omega⟩
      exact ⟨_, vl_one dv t⟩
    obtain ⟨e, he⟩ := hvd
    -- the limb
    have hq : r i * inv &&& 2147483647 = nI (Q / 2147483648 ^ i % 2147483648) := by
      refine inv_limb hx hd0 hinv (mod_lt31 _) ?_
      have t1 := tail1 r i d
      have hm := mod_of hc (by rw [Nat.pow_succ]; omega)
      rw [t1] at hm
      have l := cl_lt (r i)
      rw [he] at hm
      generalize Q / 2147483648 ^ i = Qi at hm ⊢
      generalize vl (fun t => r (i + 1 + t)) d = Y at hm
      have hm2 : (((r i).toNatClampNeg + 2147483648 * Y : Nat) : Int) % 2147483648 = ((r i).toNatClampNeg : Int) := by omega
      rw [hm2] at hm
      have e1 : ((Qi % 2147483648 * ((dv 0).toNatClampNeg + 2147483648 * e) : Nat) : Int) % 2147483648 = ((Qi % 2147483648 * (dv 0).toNatClampNeg % 2147483648 : Nat) : Int) := by
        rw [Nat.mul_add, Nat.mul_left_comm (Qi % 2147483648) 2147483648 e]
        generalize Qi % 2147483648 * (dv 0).toNatClampNeg = p1
        generalize Qi % 2147483648 * e = p2
        omega
      have e2 : ((Qi : Int) % 2147483648) * (((dv 0).toNatClampNeg + 2147483648 * e : Nat) : Int) = ((Qi % 2147483648 * ((dv 0).toNatClampNeg + 2147483648 * e) : Nat) : Int) := by
        rw [Int.natCast_mul]; congr 1
      rw [e2, e1] at hm
      omega
    obtain ⟨r1, g1, g2, g3, g4, q, g5⟩ := S_takeMultiple_ok K (NP := NP) (ND := ND) (a := i) (m := d + 1) (size := size) (w := Q / 2147483648 ^ i % 2147483648) (v4 := (nI (Q / 2147483648 ^ i % 2147483648)).toInt64) (dv := dv) (r := r) hNP hND hK (by omega) hs (by rw [l_of, nI_toInt (by have := mod_lt31 (Q / 2147483648 ^ i); omega)]) (mod_lt31 _) hd hr
    rw [show i + (d + 1) = places by omega] at g1 g4
    have hr2 : ∀ t, t < NP → ¬ upd r1 i (nI (Q / 2147483648 ^ i % 2147483648)) t < 0 := by
      intro t ht
      by_cases e : t = i
      · rw [e, pk_us]; exact nI_nn (mod_lt31 _)
      · rw [pk_un e]; exact g2 t ht
    obtain ⟨r', k1, k2, k3⟩ := ih j (i + 1) (upd r1 i (nI (Q / 2147483648 ^ i % 2147483648))) (by omega) (by omega) hr2 (by
      intro t ht
      by_cases e : t = i
      · rw [e, pk_us]
      · rw [pk_un e, g3 t (by omega)]; exact h1 t (by omega)) (by
      have c1 : (fun t => upd r1 i (nI (Q / 2147483648 ^ i % 2147483648)) (i + 1 + t)) = fun t => r1 (i + 1 + t) := by
        funext t; rw [pk_un (by omega)]
      rw [c1]
      have t1 := tail1 r1 i d
      rw [t1, hc, Nat.pow_succ] at g5
      have hdm : Q / 2147483648 ^ i = 2147483648 * (Q / 2147483648 ^ (i + 1)) + Q / 2147483648 ^ i % 2147483648 := by
        rw [Nat.pow_succ, ← Nat.div_div_eq_div_mul]; omega
      have l := cl_lt (r1 i)
      generalize Q / 2147483648 ^ (i + 1) = Q1 at hdm ⊢
      generalize Q / 2147483648 ^ i % 2147483648 = q0 at hdm g5
      generalize Q / 2147483648 ^ i = Qi at hdm g5
      generalize vl (fun t => r1 (i + 1 + t)) d = Y at g5 ⊢
      generalize vl dv size = D at g5 ⊢
      generalize (2147483648 : Nat) ^ d = P at g5 ⊢
      subst hdm
      have e1 : ((2147483648 * Q1 + q0 : Nat) : Int) * (D : Int) - ((q0 * D : Nat) : Int) = 2147483648 * ((Q1 : Int) * D) := by
        rw [Int.natCast_add, Int.natCast_mul, Int.natCast_mul, Int.add_mul, Int.mul_assoc]; omega
      have e2 : c * ((P * 2147483648 : Nat) : Int) = 2147483648 * (c * P) := by rw [Int.natCast_mul, ← Int.mul_assoc, Int.mul_comm]; rfl
      have e3 : q * ((P * 2147483648 : Nat) : Int) = 2147483648 * (q * P) := by rw [Int.natCast_mul, ← Int.mul_assoc, Int.mul_comm]; rfl
      rw [e2, e3] at g5
      refine ⟨c + q, ?_⟩
      rw [Int.add_mul]
      generalize c * (P : Int) = cP at *
      generalize q * (P : Int) = qP at *
      generalize (Q1 : Int) * D = QD at *
      generalize ((2147483648 * Q1 + q0 : Nat) : Int) * (D : Int) = M1 at *
      generalize ((q0 * D : Nat) : Int) = M2 at *
      omega)
    refine ⟨r', ?_, k2, k3⟩
    rw [f_S_divideByOdd_L24, if_neg (nI_ge hlt (by omega)), inb_nI (show i < NP by omega) (by omega), nI_clamp (show i < 2 ^ 31 by omega), hq, nI_1]
    simp only [cond_true]
    rw [g1]
    simp only [Option.bind_some]
    exact k1
/-- digits that are those of Q: the number is Q -/
theorem vl_digits {r : Nat → Int32} {Q : Nat} : ∀ (n : Nat), (∀ t, t < n → r t = nI (Q / 2147483648 ^ t % 2147483648)) → vl r n = Q % 2147483648 ^ n
  | 0, _ => by rw [vl_0, Nat.pow_zero, Nat.mod_one]
  | n + 1, h => by
    rw [vl_s, vl_digits n (fun t ht => h t (by omega)), h n (by omega), cl_nI (mod_lt31 _), Nat.pow_succ, Nat.mod_mul, Nat.mul_comm]
theorem vl_ge {f : Nat → Int32} {n : Nat} (hf : ∀ t, t < n → ¬ f t < 0) (h : ∀ t, t + 1 = n → ¬ f t = 0) (hn : 0 < n) : 2147483648 ^ (n - 1) ≤ vl f n := by
  obtain ⟨t, rfl⟩ : ∃ t, n = t + 1 := ⟨n - 1, by omega⟩
  rw [vl_s]
  have a := hf t (by omega)
  have b := h t rfl
  have : 1 ≤ (f t).toNatClampNeg := by
    rcases Nat.eq_zero_or_pos (f t).toNatClampNeg with q | q
    · exact absurd (by rw [nI_cl a, q]; rfl) b
    · exact q
  have := Nat.mul_le_mul_right (2147483648 ^ t) this
  rw [show t + 1 - 1 = t by omega]
  omega
/-- divideByOdd: the exact quotient -/
theorem S_divideByOdd_ok (K : Nat) {NP ND size len Q o : Nat} {dv r : Nat → Int32} (hNP : NP < 1073741824) (hND : ND < 1073741824) (hK : NP + 5 < K) (hl : len ≤ NP) (hs : size ≤ ND) (hs0 : 0 < size) (hle : size ≤ len) (hd : ∀ t, t < size → ¬ dv t < 0) (htop : ∀ t, t + 1 = size → ¬ dv t = 0) (hodd : (dv 0).toNatClampNeg = 2 * o + 1) (hr : ∀ t, t < NP → ¬ r t < 0) (hV : vl r len = Q * vl dv size) :
    ∃ (n : Nat) (r' : Nat → Int32), f_S_divideByOdd K NP r ND dv (nI size) (nI len) = some (nI n, r') ∧ n ≤ NP ∧ (∀ t, t < NP → ¬ r' t < 0) ∧ (∀ t, t + 1 = n → ¬ r' t = 0) ∧ vl r' n = Q := by
  have hd0 := hd 0 hs0
  obtain ⟨inv, i1, i2⟩ := S_inverseOf_ok K (by omega) (n := (dv 0).toNatClampNeg) hodd
  rw [← nI_cl hd0] at i1 i2
  obtain ⟨places, hpl⟩ : ∃ p, p = len - size + 1 := ⟨_, rfl⟩
  have hplaces : (if (0 : Int32) < (nI len - nI size) + 1 then (nI len - nI size) + 1 else (0 : Int32)) = nI places := by
    have h0 : (0 : Int32) < nI places := nI_lt (a := 0) (by omega) (by omega)
    rw [pk_sub hle, nI_1, ← hpl, if_pos h0]
  have hge := vl_ge hd htop hs0
  have hrl := vl_lt r len
  have hQ : Q < 2147483648 ^ places := by
    rcases Nat.lt_or_ge Q (2147483648 ^ places) with h | h
    · exact h
    · exfalso
      have : 2147483648 ^ places * 2147483648 ^ (size - 1) ≤ Q * vl dv size := Nat.mul_le_mul h hge
      rw [← Nat.pow_add, show places + (size - 1) = len by omega] at this
      omega
  obtain ⟨r', h1, h2, h3⟩ := S_divideByOdd_L24_ok K (NP := NP) (ND := ND) (places := places) (size := size) (Q := Q) (inv := inv) (dv := dv) hNP hND (by omega) (by omega) hs hs0 hd i2 hQ places K 0 r (by omega) (by omega) hr (fun t ht => absurd ht (Nat.not_lt_zero t)) (by
    have e := vl_app r places (len - places)
    rw [show places + (len - places) = len by omega] at e
    refine ⟨-((vl (fun i => r (places + i)) (len - places) : Nat) : Int), ?_⟩
    have z0 : (fun t => r (0 + t)) = r := by funext t; rw [Nat.zero_add]
    rw [z0, Nat.pow_zero, Nat.div_one, ← Int.natCast_mul, ← hV, e, Nat.mul_comm (2147483648 ^ places), Int.natCast_add, Int.neg_mul, ← Int.natCast_mul]
    omega)
  obtain ⟨n, t1, t2, t3, t4⟩ := S_trimmed_ok K (N := NP) (most := places) (r := r') (by omega) (by omega) (by omega)
  refine ⟨n, r', ?_, by omega, h2, t4, ?_⟩
  · unfold f_S_divideByOdd
    rw [show inb 0 ND = true from inb_nI (j := 0) (by omega) (by omega), show (0 : Int32).toNatClampNeg = 0 by decide, i1]
    simp only [cond_true, Option.bind_some]
    rw [hplaces, show (0 : Int32) = nI 0 from rfl, h1]
    simp only [Option.bind_some]
    rw [t1]
    rfl
  · rw [← vl_cut t2 t3, vl_digits places h3, Nat.mod_eq_of_lt hQ]
