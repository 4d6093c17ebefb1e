/-! Pure: the program's division of a sum by a number in a slot; a sum stored. -/
theorem sgz_ne {z : Int} (h : z ≠ 0) : sgz z * sgz z = 1 := by
  rcases Int.lt_trichotomy z 0 with a | a | a
  · rw [sgz_n a]; rfl
  · exact absurd a h
  · rw [sgz_p a]; rfl
theorem sgz_div {v d z : Int} (h : v = d * z) (hd : d ≠ 0) : sgz v * sgz d = sgz z := by
  rw [h, ← sgz_mul, Int32.mul_comm (sgz d) (sgz z), Int32.mul_assoc, sgz_ne hd, Int32.mul_one]
theorem S_countZeroLimbs_ok (K : Nat) {ND size : Nat} {dv : Nat → Int32} (h0 : 0 < size) (hD : size ≤ ND) (hN : ND < 2147483648) (hK : ND < K) (hne : ∀ t, t + 1 = size → ¬ dv t = 0) : ∃ zl : Nat, f_S_countZeroLimbs K ND dv (nI size) = some (nI zl) ∧ zl < size ∧ (∀ t, t < zl → dv t = 0) ∧ ¬ dv zl = 0 := by
  obtain ⟨t, rfl⟩ : ∃ t, size = t + 1 := ⟨size - 1, by omega⟩
  obtain ⟨zl, h1, h2, h3, h4⟩ := S_countZeroLimbs_L2_ok K (ND := ND) (size := t) (dv := dv) hD hN (hne t rfl) t K 0 (by omega) (by omega) (fun _ h => absurd h (Nat.not_lt_zero _))
  refine ⟨zl, ?_, by omega, h3, h4⟩
  unfold f_S_countZeroLimbs
  rw [show (0 : Int32) = nI 0 from rfl, h1]
  rfl
theorem S_countZeroBits_ok (K : Nat) {w : Nat} (hw : w < 2147483648) (h0 : w ≠ 0) (hK : 30 < K) : ∃ zb o : Nat, f_S_countZeroBits K (nI w) = some (nI zb) ∧ zb ≤ 30 ∧ w = 2 ^ zb * (2 * o + 1) := by
  obtain ⟨zb, o, h1, h2, h3⟩ := S_countZeroBits_L2_ok K (n := 0) hw h0 30 K 0 w (by omega) (by omega) (by simp)
  refine ⟨zb, o, ?_, h2, h3⟩
  unfold f_S_countZeroBits
  rw [show (0 : Int32) = nI 0 from rfl, h1]
  rfl
/-- a nonzero number's low zeros: it is a power of two times an odd one -/
theorem odd_part {f : Nat → Int32} {size zl zb o : Nat} (hz : zl < size) (h0 : ∀ t, t < zl → f t = 0) (hb : zb ≤ 30) (ho : (f zl).toNatClampNeg = 2 ^ zb * (2 * o + 1)) : vl f size = 2147483648 ^ zl * vl (dn f size zl) size ∧ ∃ e : Nat, vl (dn f size zl) size = 2 ^ zb * (2 * e + 1) := by
  have h1 := @vl_dn f size zl (by omega)
  rw [vl_zero zl h0, Nat.zero_add] at h1
  refine ⟨h1, ?_⟩
  obtain ⟨t, rfl⟩ : ∃ t, size = t + 1 := ⟨size - 1, by omega⟩
  rw [vl_one]
  have e0 : dn f (t + 1) zl 0 = f zl := by unfold dn; rw [if_pos (by omega), Nat.zero_add]
  rw [e0, ho]
  generalize vl (fun i => dn f (t + 1) zl (i + 1)) t = Y
  refine ⟨o + 2 ^ (30 - zb) * Y, ?_⟩
  have : 2147483648 = 2 ^ zb * (2 * 2 ^ (30 - zb)) := by
    rw [← Nat.pow_succ', ← Nat.pow_add, show zb + (30 - zb).succ = 31 by omega]
  rw [show 2147483648 * Y = 2 ^ zb * (2 * 2 ^ (30 - zb)) * Y by rw [← this], Nat.mul_assoc, ← Nat.mul_add]
  congr 1
  rw [Nat.mul_add, Nat.mul_assoc]
  omega
theorem S_divideBy_ok (K : Nat) {NP ND R nS n s : Nat} {v zd z : Int} {r dv sg le li : Nat → Int32} (hNP : NP < 1073741824) (hND : ND < 1073741824) (hK : NP + ND + 40 < K) (hRD : R ≤ ND) (hs : s < nS) (hnS : nS < 1073741824) (hnl : nS * R < 1073741824) (hn : n ≤ NP) (hr : ∀ t, t < NP → ¬ r t < 0) (hcut : ∀ t, n ≤ t → t < NP → r t = 0) (htop : ∀ t, t + 1 = n → ¬ r t = 0) (hV : vl r NP = v.natAbs) (hd : nrep R sg le li s zd) (hd0 : zd ≠ 0) (hz : v = zd * z) :
    ∃ (n' : Nat) (r' dv' : Nat → Int32), f_S_divideBy K (sgz v) (nI n) NP r ND dv (nI R) nS sg nS le (nS * R) li (nI s) = some (sgz z, nI n', r', dv') ∧ n' ≤ NP ∧ (∀ t, t < NP → ¬ r' t < 0) ∧ (∀ t, t + 1 = n' → ¬ r' t = 0) ∧ vl r' n' = z.natAbs := by
  obtain ⟨size, d1, d2, d3, d4, -⟩ := id hd
  obtain ⟨size', l1, l2, l3, l4, l5, l6⟩ := nrep_len hd
  have hsR : s * R + R ≤ nS * R := by
    have := Nat.mul_le_mul_right R hs
    rw [Nat.succ_mul] at this
    exact this
  have : size' = size := by
    rw [d1] at l1
    exact ((nI_eq (by omega) (by omega)).mp l1).symm
  subst this
  have hs0 : 0 < size' := by
    rcases Nat.eq_zero_or_pos size' with h | h
    · exact absurd (l6.mp h) hd0
    · exact h
  have hvn : vl r n = v.natAbs := by rw [← hV, vl_cut hn hcut]
  have hrn : ∀ t, t < n → ¬ r t < 0 := fun t ht => hr t (by omega)
  have hge := vl_ge d3 (fun t ht => d4 t ht) hs0
  rw [l4] at hge
  have hlen : f_N_lengthOf nS le (nI s) = some (nI size') := by rw [N_lengthOf_ok hs (by omega), d1]
  have habs : v.natAbs = zd.natAbs * z.natAbs := by rw [hz, Int.natAbs_mul]
  unfold f_S_divideBy
  rw [hlen]
  simp only [Option.bind_some]
  rw [if_neg (nI_ne0 hs0 (by omega))]
  by_cases hc : size' ≤ n
  · rw [if_pos (nI_le hc (by omega))]
    have hn0 : 0 < n := by omega
    have hvpos := vl_ge hrn htop hn0
    have hvp : 0 < v.natAbs := by
      rw [← hvn]
      have : 0 < 2147483648 ^ (n - 1) := Nat.pow_pos (by decide)
      omega
    have hz0 : 0 < z.natAbs := by
      rcases Nat.eq_zero_or_pos z.natAbs with h | h
      · rw [habs, h] at hvp; simp at hvp
      · exact h
    obtain ⟨dv1, a1, a2⟩ := S_divideBy_L22_ok K (ND := ND) (nl := nS * R) (size := size') (sb := nI s) (i0 := nI R) (ali := li) (g := fun i => li (s * R + i)) (by omega) (by omega) (fun i hi => N_limbOf_ok (by omega) (by omega)) size' K 0 dv (by omega) (by omega) (fun _ h => absurd h (Nat.not_lt_zero _))
    have dnn : ∀ t, t < size' → ¬ dv1 t < 0 := fun t ht => by rw [a2 t ht]; exact d3 t ht
    have dtop : ∀ t, t + 1 = size' → ¬ dv1 t = 0 := fun t ht => by rw [a2 t (by omega)]; exact d4 t ht
    have dval : vl dv1 size' = zd.natAbs := by rw [vl_congr size' a2, l4]
    obtain ⟨zl, b1, b2, b3, b4⟩ := S_countZeroLimbs_ok K (ND := ND) hs0 (by omega) (by omega) (by omega) dtop
    have hwne : (dv1 zl).toNatClampNeg ≠ 0 := fun h => b4 (by rw [nI_cl (dnn zl b2), h]; rfl)
    obtain ⟨zb, o, c1, c2, c3⟩ := S_countZeroBits_ok K (cl_lt (dv1 zl)) hwne (by omega)
    rw [← nI_cl (dnn zl b2)] at c1
    obtain ⟨p1, ⟨e, p2⟩⟩ := odd_part b2 b3 c2 c3
    obtain ⟨dvs, g1, g2, g3, g4⟩ := S_shiftDown_ok K (N := ND) (size := size') (zl := zl) (zb := zb) (row := dv1) hND (by omega) (by omega) (by omega) c2 dnn
    obtain ⟨rs, k1, k2, k3, k4⟩ := S_shiftDown_ok K (N := NP) (size := n) (zl := zl) (zb := zb) (row := r) hNP (by omega) hn (by omega) c2 hrn
    have hp2 : 0 < 2 ^ zb := Nat.pow_pos (by decide)
    have hDs : vl dvs size' = 2 * e + 1 := by rw [g4, p2, Nat.mul_div_cancel_left _ hp2]
    -- the sum's own low zeros
    have hVn : vl (dn r n zl) n = 2 ^ zb * (2 * e + 1) * z.natAbs ∧ vl r zl = 0 := by
      have q1 := @vl_dn r n zl (by omega)
      have q2 := vl_lt r zl
      rw [hvn, habs, ← dval, p1, p2] at q1
      have hB : 0 < 2147483648 ^ zl := Nat.pow_pos (by decide)
      generalize vl (dn r n zl) n = X at q1 ⊢
      generalize vl r zl = Y at q1 q2 ⊢
      generalize 2147483648 ^ zl = B at q1 q2 hB
      rw [Nat.mul_assoc B] at q1
      generalize 2 ^ zb * (2 * e + 1) * z.natAbs = M at q1 ⊢
      have m1 : Y % B = Y := Nat.mod_eq_of_lt q2
      have m2 : (Y + B * X) % B = (B * M) % B := by rw [q1]
      rw [Nat.add_mul_mod_self_left, m1, Nat.mul_mod_right] at m2
      refine ⟨?_, m2⟩
      rw [m2, Nat.zero_add] at q1
      exact (Nat.eq_of_mul_eq_mul_left hB q1).symm
    have hRs : vl rs n = z.natAbs * (2 * e + 1) := by
      rw [k4, hVn.1, Nat.mul_assoc, Nat.mul_div_cancel_left _ hp2, Nat.mul_comm]
    obtain ⟨sz, t1, t2, t3, t4⟩ := S_trimmed_ok K (N := ND) (most := size') (r := dvs) (by omega) (by omega) (by omega)
    obtain ⟨ln, u1, u2, u3, u4⟩ := S_trimmed_ok K (N := NP) (most := n) (r := rs) (by omega) (by omega) hn
    have hdsz : vl dvs sz = 2 * e + 1 := by rw [← vl_cut t2 t3, hDs]
    have hrln : vl rs ln = z.natAbs * (2 * e + 1) := by rw [← vl_cut u2 u3, hRs]
    have hsz0 : 0 < sz := by
      rcases Nat.eq_zero_or_pos sz with h | h
      · rw [h, vl_0] at hdsz; omega
      · exact h
    have hle : sz ≤ ln := by
      rcases Nat.lt_or_ge ln sz with h | h
      · exfalso
        have x1 := vl_ge (f := dvs) (n := sz) (fun t ht => g3 t (by omega)) t4 hsz0
        have x2 := vl_lt rs ln
        have x3 : (2147483648 : Nat) ^ ln ≤ 2147483648 ^ (sz - 1) := Nat.pow_le_pow_right (by decide) (by omega)
        have x4 : 1 * (2 * e + 1) ≤ z.natAbs * (2 * e + 1) := Nat.mul_le_mul_right _ hz0
        omega
      · exact h
    have hrs : ∀ t, t < NP → ¬ rs t < 0 := by
      intro t ht
      rcases Nat.lt_or_ge t n with h | h
      · exact k3 t h
      · rw [k2 t h]; exact hr t ht
    have hodd : ∃ o2, (dvs 0).toNatClampNeg = 2 * o2 + 1 := by
      obtain ⟨t, rfl⟩ : ∃ t, sz = t + 1 := ⟨sz - 1, by omega⟩
      rw [vl_one] at hdsz
      exact ⟨((dvs 0).toNatClampNeg - 1) / 2, by omega⟩
    obtain ⟨o2, ho2⟩ := hodd
    obtain ⟨n', r', w1, w2, w3, w4, w5⟩ := S_divideByOdd_ok K (NP := NP) (ND := ND) (size := sz) (len := ln) (Q := z.natAbs) (o := o2) (dv := dvs) (r := rs) hNP hND (by omega) (by omega) (by omega) hsz0 hle (fun t ht => g3 t (by omega)) t4 ho2 hrs (by rw [hrln, hdsz])
    refine ⟨n', r', dvs, ?_, w2, w3, w4, w5⟩
    rw [show (0 : Int32) = nI 0 from rfl, a1]
    simp only [Option.bind_some]
    rw [b1]
    simp only [Option.bind_some]
    rw [inb_nI (show zl < ND by omega) (by omega), nI_clamp (show zl < 2 ^ 31 by omega), c1]
    simp only [cond_true, Option.bind_some]
    rw [g1]
    simp only [Option.bind_some]
    rw [k1]
    simp only [Option.bind_some]
    rw [t1]
    simp only [Option.bind_some]
    rw [u1]
    simp only [Option.bind_some]
    rw [w1]
    simp only [Option.bind_some]
    rw [N_signOf_ok hs (by omega)]
    simp only [Option.bind_some]
    rw [l5, sgz_div hz hd0]
  · rw [if_neg (nI_ge (show n < size' by omega) (by omega))]
    have hz0 : z.natAbs = 0 := by
      rcases Nat.eq_zero_or_pos z.natAbs with h | h
      · exact h
      · exfalso
        have x2 := vl_lt r n
        have x3 : (2147483648 : Nat) ^ n ≤ 2147483648 ^ (size' - 1) := Nat.pow_le_pow_right (by decide) (by omega)
        have x4 : zd.natAbs * 1 ≤ zd.natAbs * z.natAbs := Nat.mul_le_mul_left _ h
        omega
    have hze : z = 0 := by omega
    subst hze
    rw [Int.mul_zero] at hz
    subst hz
    exact ⟨n, r, dv, rfl, hn, hr, htop, by rw [hvn]⟩
