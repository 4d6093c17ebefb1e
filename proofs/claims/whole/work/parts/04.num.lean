/-! Pure: limbs to the base 2^31, and what the machine's longs do with them. -/
def vl (f : Nat → Int32) : Nat → Nat
  | 0 => 0
  | n + 1 => vl f n + (f n).toNatClampNeg * 2147483648 ^ n
theorem vl_0 (f : Nat → Int32) : vl f 0 = 0 := rfl
theorem vl_s (f : Nat → Int32) (n : Nat) : vl f (n + 1) = vl f n + (f n).toNatClampNeg * 2147483648 ^ n := rfl
theorem cl_lt (x : Int32) : x.toNatClampNeg < 2147483648 := by
  have := Int32.toInt_lt x
  unfold Int32.toNatClampNeg
  omega
theorem vl_lt (f : Nat → Int32) : ∀ n, vl f n < 2147483648 ^ n
  | 0 => by rw [vl_0]; decide
  | n + 1 => by
    have h := vl_lt f n
    have c := cl_lt (f n)
    rw [vl_s, Nat.pow_succ]
    have : (f n).toNatClampNeg * 2147483648 ^ n ≤ 2147483647 * 2147483648 ^ n := Nat.mul_le_mul_right _ (by omega)
    omega
theorem vl_congr {f g : Nat → Int32} : ∀ n, (∀ i, i < n → f i = g i) → vl f n = vl g n
  | 0, _ => rfl
  | n + 1, h => by rw [vl_s, vl_s, vl_congr n (fun i hi => h i (by omega)), h n (by omega)]
theorem vl_upd {f : Nat → Int32} {k : Nat} {x : Int32} {n : Nat} (h : n ≤ k) : vl (upd f k x) n = vl f n := vl_congr n (fun i hi => pk_un (by omega))
theorem vl_app (f : Nat → Int32) (a : Nat) : ∀ b, vl f (a + b) = vl f a + 2147483648 ^ a * vl (fun i => f (a + i)) b
  | 0 => by rw [Nat.add_zero, vl_0]; simp
  | b + 1 => by
    rw [← Nat.add_assoc, vl_s, vl_app f a b, vl_s, Nat.mul_add, Nat.pow_add]
    have : 2147483648 ^ a * ((f (a + b)).toNatClampNeg * 2147483648 ^ b) = (f (a + b)).toNatClampNeg * (2147483648 ^ a * 2147483648 ^ b) := by
      rw [← Nat.mul_assoc, ← Nat.mul_assoc, Nat.mul_comm (2147483648 ^ a)]
    rw [this]
    omega
theorem vl_z {f : Nat → Int32} {a : Nat} : ∀ b, (∀ i, i < b → f (a + i) = 0) → vl f (a + b) = vl f a
  | 0, _ => rfl
  | b + 1, h => by
    rw [← Nat.add_assoc, vl_s, vl_z b (fun i hi => h i (by omega)), h b (by omega)]
    have : (0 : Int32).toNatClampNeg = 0 := by decide
    rw [this]; simp
theorem vl_one (f : Nat → Int32) (n : Nat) : vl f (n + 1) = (f 0).toNatClampNeg + 2147483648 * vl (fun i => f (i + 1)) n := by
  have h := vl_app f 1 n
  rw [Nat.add_comm 1 n] at h
  have e : (fun i => f (1 + i)) = fun i => f (i + 1) := by funext i; rw [Nat.add_comm]
  have e1 : vl f 1 = (f 0).toNatClampNeg := by rw [show (1 : Nat) = 0 + 1 from rfl, vl_s, vl_0]; simp
  rw [e, e1] at h
  rw [h]
theorem cl_nI {d : Nat} (h : d < 2147483648) : (nI d).toNatClampNeg = d := nI_clamp (by omega)
theorem nI_cl {x : Int32} (h : ¬ x < 0) : x = nI x.toNatClampNeg := by
  obtain ⟨j, hj, rfl⟩ := nI_of h
  rw [nI_clamp hj]
/-- the limbs are those of the number -/
theorem vl_inj {f g : Nat → Int32} : ∀ n, (∀ i, i < n → ¬ f i < 0) → (∀ i, i < n → ¬ g i < 0) → vl f n = vl g n → ∀ i, i < n → f i = g i
  | 0, _, _, _, i, hi => by omega
  | n + 1, hf, hg, h, i, hi => by
    have a := vl_lt f n
    have b := vl_lt g n
    rw [vl_s, vl_s] at h
    have e : (f n).toNatClampNeg = (g n).toNatClampNeg := by
      have p : 0 < 2147483648 ^ n := Nat.pow_pos (by decide)
      have q : (vl f n + (f n).toNatClampNeg * 2147483648 ^ n) / 2147483648 ^ n = (vl g n + (g n).toNatClampNeg * 2147483648 ^ n) / 2147483648 ^ n := by rw [h]
      rw [Nat.add_mul_div_right _ _ p, Nat.add_mul_div_right _ _ p, Nat.div_eq_of_lt a, Nat.div_eq_of_lt b] at q
      omega
    rcases Nat.lt_or_ge i n with c | c
    · refine vl_inj n (fun i hi => hf i (by omega)) (fun i hi => hg i (by omega)) ?_ i c
      rw [e] at h
      omega
    · have : i = n := by omega
      subst this
      rw [nI_cl (hf i (by omega)), nI_cl (hg i (by omega)), e]
/-- a long's low limb, and the rest behind it -/
theorem l_and (x : Int64) : (x &&& 2147483647).toInt = x.toInt % 2147483648 := by
  have e : (x &&& 2147483647).toBitVec.toNat = x.toBitVec.toNat % 2147483648 := by
    rw [show (x &&& 2147483647).toBitVec = x.toBitVec &&& 2147483647#64 from rfl, BitVec.toNat_and]
    exact Nat.and_two_pow_sub_one_eq_mod _ 31
  have a : (x &&& 2147483647).toInt = (x &&& 2147483647).toBitVec.toInt := rfl
  have b : x.toInt = x.toBitVec.toInt := rfl
  have c := x.toBitVec.isLt
  rw [a, b, BitVec.toInt_eq_toNat_cond, BitVec.toInt_eq_toNat_cond, e]
  split <;> split <;> omega
theorem l_shr (x : Int64) : (x >>> ((31 : Int32).toInt64 &&& 63)).toInt = x.toInt / 2147483648 := by
  have e : (x >>> ((31 : Int32).toInt64 &&& 63)).toBitVec = x.toBitVec.sshiftRight 31 := rfl
  have a : (x >>> ((31 : Int32).toInt64 &&& 63)).toInt = (x >>> ((31 : Int32).toInt64 &&& 63)).toBitVec.toInt := rfl
  have b : x.toInt = x.toBitVec.toInt := rfl
  rw [a, e, BitVec.toInt_sshiftRight, b, Int.shiftRight_eq_div_pow]
  rfl
theorem l_i32 {x : Int64} {n : Nat} (h : x.toInt = n) (hn : n < 2147483648) : x.toInt32 = nI n := by
  apply Int32.toInt_inj.mp
  rw [nI_toInt (by omega), Int64.toInt_toInt32, h]
  exact Int.bmod_eq_of_le (by omega) (by omega)
theorem l_low (x : Int64) : (x &&& 2147483647).toInt32 = nI (x.toInt % 2147483648).toNat := by
  have h := l_and x
  refine l_i32 (n := (x.toInt % 2147483648).toNat) ?_ (by omega)
  rw [h]; omega
theorem l_of (x : Int32) : x.toInt64.toInt = x.toInt := Int32.toInt_toInt64 x
theorem l_add {x y : Int64} (h1 : -9223372036854775808 ≤ x.toInt + y.toInt) (h2 : x.toInt + y.toInt < 9223372036854775808) : (x + y).toInt = x.toInt + y.toInt := by
  rw [Int64.toInt_add]
  exact Int.bmod_eq_of_le (by omega) (by omega)
theorem l_sub {x y : Int64} (h1 : -9223372036854775808 ≤ x.toInt - y.toInt) (h2 : x.toInt - y.toInt < 9223372036854775808) : (x - y).toInt = x.toInt - y.toInt := by
  rw [Int64.toInt_sub]
  exact Int.bmod_eq_of_le (by omega) (by omega)
theorem l_mul {x y : Int64} (h1 : -9223372036854775808 ≤ x.toInt * y.toInt) (h2 : x.toInt * y.toInt < 9223372036854775808) : (x * y).toInt = x.toInt * y.toInt := by
  rw [Int64.toInt_mul]
  exact Int.bmod_eq_of_le (by omega) (by omega)
theorem cl_toInt {x : Int32} (h : ¬ x < 0) : (x.toNatClampNeg : Int) = x.toInt := by
  obtain ⟨j, hj, rfl⟩ := nI_of h
  rw [nI_clamp hj, nI_toInt hj]
