/-! Pure: the lowest bit that is set, and numbers shifted down. -/
theorem sh_alg {x0 W T T' : Nat} (hT : T * T' = 2147483648) (hx : x0 < 2147483648) : (x0 + 2147483648 * W) / T = ((x0 + 2147483648 * (W % 2147483648)) / T) % 2147483648 + 2147483648 * (W / T) := by
  have hT0 : 0 < T := by
    rcases Nat.eq_zero_or_pos T with h | h
    · rw [h] at hT; omega
    · exact h
  have hd : T ∣ 2147483648 := ⟨T', hT.symm⟩
  have e1 : W % 2147483648 % T = W % T := Nat.mod_mod_of_dvd W hd
  have key : ∀ V : Nat, (x0 + 2147483648 * V) / T = (x0 + 2147483648 * (V % T)) / T + 2147483648 * (V / T) := by
    intro V
    have h := Nat.div_add_mod V T
    have h2 : 2147483648 * V = 2147483648 * (T * (V / T)) + 2147483648 * (V % T) := by rw [← Nat.mul_add, h]
    have h3 : 2147483648 * (T * (V / T)) = T * (2147483648 * (V / T)) := by ac_rfl
    have : x0 + 2147483648 * V = (x0 + 2147483648 * (V % T)) + T * (2147483648 * (V / T)) := by omega
    rw [this, Nat.add_mul_div_left _ _ hT0]
  have lt : (x0 + 2147483648 * (W % T)) / T < 2147483648 := by
    rw [Nat.div_lt_iff_lt_mul hT0]
    have h4 : W % T < T := Nat.mod_lt _ hT0
    have h5 : 2147483648 * (W % T + 1) ≤ 2147483648 * T := Nat.mul_le_mul_left _ h4
    omega
  rw [key W, key (W % 2147483648), e1, Nat.add_mul_mod_self_left, Nat.mod_eq_of_lt lt]
theorem vl_mod {f : Nat → Int32} {n : Nat} : vl f (n + 1) % 2147483648 = (f 0).toNatClampNeg := by
  rw [vl_one, Nat.add_mul_mod_self_left, Nat.mod_eq_of_lt (cl_lt _)]
/-- limbs that are each the low part of two neighbours' shift: the number shifted -/
theorem vl_shift {T T' : Nat} (hT : T * T' = 2147483648) : ∀ (m : Nat) (x y : Nat → Int32), x m = 0 → (∀ i, i < m → (y i).toNatClampNeg = ((x i).toNatClampNeg + 2147483648 * (x (i + 1)).toNatClampNeg) / T % 2147483648) → vl y m = vl x m / T
  | 0, x, y, _, _ => by rw [vl_0, vl_0]; simp
  | m + 1, x, y, h0, h => by
    have ih := vl_shift hT m (fun i => x (i + 1)) (fun i => y (i + 1)) h0 (fun i hi => h (i + 1) (by omega))
    rw [vl_one, vl_one x, ih, sh_alg hT (cl_lt _), h 0 (by omega)]
    congr 3
    cases m with
    | zero => rw [vl_0, h0]; rfl
    | succ m => rw [vl_mod]
theorem s_lI : ∀ n, n < 32 → ((nI n &&& 31).toBitVec.smod 32).toNat = n := by decide +kernel
theorem s_lL : ∀ n, n < 32 → (((nI n).toInt64 &&& 63).toBitVec.smod 64).toNat = n := by decide +kernel
theorem l_shrk (x : Int64) (k : Nat) (hk : k < 32) : (x >>> ((nI k).toInt64 &&& 63)).toInt = x.toInt / 2 ^ k := by
  have e : (x >>> ((nI k).toInt64 &&& 63)).toBitVec = x.toBitVec.sshiftRight (((nI k).toInt64 &&& 63).toBitVec.smod 64).toNat := rfl
  have a : (x >>> ((nI k).toInt64 &&& 63)).toInt = (x >>> ((nI k).toInt64 &&& 63)).toBitVec.toInt := rfl
  have b : x.toInt = x.toBitVec.toInt := rfl
  rw [a, e, s_lL k hk, BitVec.toInt_sshiftRight, b, Int.shiftRight_eq_div_pow]
  norm_cast
theorem l_shl31 {x : Int32} (h : ¬ x < 0) : (x.toInt64 <<< ((31 : Int32).toInt64 &&& 63)).toInt = ((2147483648 * x.toNatClampNeg : Nat) : Int) := by
  obtain ⟨j, hj, rfl⟩ := nI_of h
  rw [nI_clamp hj]
  have e : ((nI j).toInt64 <<< ((31 : Int32).toInt64 &&& 63)).toBitVec = (nI j).toInt64.toBitVec <<< (31 : Nat) := rfl
  have hn : (nI j).toInt64.toBitVec.toNat = j := by
    rw [nI_l hj]
    show (BitVec.ofNat 64 j).toNat = j
    rw [BitVec.toNat_ofNat]
    omega
  have a : ((nI j).toInt64 <<< ((31 : Int32).toInt64 &&& 63)).toInt = ((nI j).toInt64 <<< ((31 : Int32).toInt64 &&& 63)).toBitVec.toInt := rfl
  rw [a, e, BitVec.toInt_eq_toNat_cond, BitVec.toNat_shiftLeft, hn, Nat.shiftLeft_eq]
  have h2 : j * 2 ^ 31 % 2 ^ 64 = j * 2 ^ 31 := Nat.mod_eq_of_lt (by omega)
  rw [h2, if_pos (by omega)]
  omega
theorem l_or {hi lo : Int32} (h1 : ¬ hi < 0) (h2 : ¬ lo < 0) : ((hi.toInt64 <<< ((31 : Int32).toInt64 &&& 63)) ||| lo.toInt64).toInt = ((lo.toNatClampNeg + 2147483648 * hi.toNatClampNeg : Nat) : Int) := by
  have s := l_shl31 h1
  have l := toI_nn h2
  have hb := cl_lt lo
  have hc := cl_lt hi
  generalize hi.toInt64 <<< ((31 : Int32).toInt64 &&& 63) = X at s ⊢
  generalize lo.toInt64 = Y at l ⊢
  have hX : X.toBitVec.toNat = 2147483648 * hi.toNatClampNeg := by
    have : X.toInt = X.toBitVec.toInt := rfl
    rw [this, BitVec.toInt_eq_toNat_cond] at s
    have := X.toBitVec.isLt
    split at s <;> omega
  have hY : Y.toBitVec.toNat = lo.toNatClampNeg := by
    have : Y.toInt = Y.toBitVec.toInt := rfl
    rw [this, BitVec.toInt_eq_toNat_cond] at l
    have := Y.toBitVec.isLt
    split at l <;> omega
  have e : (X ||| Y).toBitVec.toNat = lo.toNatClampNeg + 2147483648 * hi.toNatClampNeg := by
    rw [show (X ||| Y).toBitVec = X.toBitVec ||| Y.toBitVec from rfl, BitVec.toNat_or, hX, hY]
    have := Nat.two_pow_add_eq_or_of_lt (i := 31) (show lo.toNatClampNeg < 2 ^ 31 by omega) hi.toNatClampNeg
    rw [show (2147483648 : Nat) = 2 ^ 31 from rfl, ← this]
    omega
  have a : (X ||| Y).toInt = (X ||| Y).toBitVec.toInt := rfl
  rw [a, BitVec.toInt_eq_toNat_cond, e, if_pos (by omega)]
/-- two neighbours shifted down by k bits, the low limb of it -/
theorem l_two {hi lo : Int32} {k : Nat} (h1 : ¬ hi < 0) (h2 : ¬ lo < 0) (hk : k < 31) : ((((hi.toInt64 <<< ((31 : Int32).toInt64 &&& 63)) ||| lo.toInt64) >>> ((nI k).toInt64 &&& 63)) &&& 2147483647).toInt32 = nI ((lo.toNatClampNeg + 2147483648 * hi.toNatClampNeg) / 2 ^ k % 2147483648) := by
  refine cut_low ?_
  rw [l_shrk _ k (by omega), l_or h1 h2]
  norm_cast
