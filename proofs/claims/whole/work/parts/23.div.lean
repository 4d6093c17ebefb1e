/-! Pure: the program's exact division. -/
theorem S_divideBy_L22_ok (K : Nat) {ND nl size : Nat} {sb i0 : Int32} {ali g : Nat → Int32} (hD : size ≤ ND) (hN : ND < 2147483648) (hg : ∀ i, i < size → f_N_limbOf i0 nl ali sb (nI i) = some (g i)) :
    ∀ (d j i : Nat) (dv : Nat → Int32), i + d = size → d < j → (∀ t, t < i → dv t = g t) → ∃ dv' : Nat → Int32, f_S_divideBy_L22 K sb (nI size) ND i0 nl ali j (nI i) dv = some (nI size, dv') ∧ ∀ t, t < size → dv' t = g t := by
  intro d
  induction d with
  | zero =>
    intro j i dv hi hj h
    obtain ⟨j, rfl⟩ : ∃ j', j = j' + 1 := ⟨j - 1, by omega⟩
    have : i = size := by omega
    subst this
    exact ⟨dv, by rw [f_S_divideBy_L22, if_pos nI_le_self], h⟩
  | succ d ih =>
    intro j i dv hi hj h
    obtain ⟨j, rfl⟩ : ∃ j', j = j' + 1 := ⟨j - 1, by omega⟩
    have hlt : i < size := by omega
    obtain ⟨dv', h1, h2⟩ := ih j (i + 1) (upd dv i (g i)) (by omega) (by omega) (by
      intro t ht
      by_cases e : t = i
      · rw [e, pk_us]
      · rw [pk_un e]; exact h t (by omega))
    refine ⟨dv', ?_, h2⟩
    rw [f_S_divideBy_L22, if_neg (nI_ge hlt (by omega)), hg i hlt]
    simp only [Option.bind_some]
    rw [inb_nI (show i < ND by omega) (by omega), nI_clamp (show i < 2 ^ 31 by omega), nI_1]
    exact h1
theorem S_countZeroLimbs_L2_ok (K : Nat) {ND size : Nat} {dv : Nat → Int32} (hD : size + 1 ≤ ND) (hN : ND < 2147483648) (hne : ¬ dv size = 0) :
    ∀ (d j i : Nat), i + d = size → d < j → (∀ t, t < i → dv t = 0) → ∃ zl : Nat, f_S_countZeroLimbs_L2 K (nI (size + 1)) ND dv j (nI i) = some (nI zl) ∧ zl ≤ size ∧ (∀ t, t < zl → dv t = 0) ∧ ¬ dv zl = 0 := by
  intro d
  induction d with
  | zero =>
    intro j i hi hj h
    obtain ⟨j, rfl⟩ : ∃ j', j = j' + 1 := ⟨j - 1, by omega⟩
    have : i = size := by omega
    subst this
    refine ⟨i, ?_, Nat.le_refl i, h, hne⟩
    rw [f_S_countZeroLimbs_L2, nI_pred, if_pos nI_le_self]
  | succ d ih =>
    intro j i hi hj h
    obtain ⟨j, rfl⟩ : ∃ j', j = j' + 1 := ⟨j - 1, by omega⟩
    have hlt : i < size := by omega
    rw [f_S_countZeroLimbs_L2, nI_pred, if_neg (nI_ge hlt (by omega)), inb_nI (show i < ND by omega) (by omega), nI_clamp (show i < 2 ^ 31 by omega), nI_1]
    simp only [cond_true]
    by_cases e : dv i = 0
    · rw [if_pos e]
      exact ih j (i + 1) (by omega) (by omega) (by
        intro t ht
        by_cases q : t = i
        · rw [q, e]
        · exact h t (by omega))
    · rw [if_neg e]
      exact ⟨i, rfl, by omega, h, e⟩
theorem bit_0 {n i : Nat} (hn : n < 2147483648) (hi : i < 32) : ((nI n >>> (nI i &&& 31)) &&& 1 = 0) ↔ n / 2 ^ i % 2 = 0 := by
  rw [pk_shrN (by omega) _ i (s_lI i hi), pk_andN (by have : n / 2 ^ i ≤ n := Nat.div_le_self _ _; omega) 1 rfl]
  have : (0 : Int32) = nI 0 := rfl
  rw [this, nI_eq (by omega) (by omega)]
theorem S_countZeroBits_L2_ok (K : Nat) {w n : Nat} (hw : w < 2147483648) (h0 : w ≠ 0) :
    ∀ (d j i q : Nat), i + d = 30 → d < j → w = 2 ^ i * q → ∃ zb o : Nat, f_S_countZeroBits_L2 K (nI w) j (nI i) = some (nI zb) ∧ zb ≤ 30 ∧ w = 2 ^ zb * (2 * o + 1) := by
  intro d
  induction d with
  | zero =>
    intro j i q hi hj h
    obtain ⟨j, rfl⟩ : ∃ j', j = j' + 1 := ⟨j - 1, by omega⟩
    have : i = 30 := by omega
    subst this
    refine ⟨30, 0, ?_, Nat.le_refl _, by omega⟩
    rw [f_S_countZeroBits_L2, if_pos (by decide)]
  | succ d ih =>
    intro j i q hi hj h
    obtain ⟨j, rfl⟩ : ∃ j', j = j' + 1 := ⟨j - 1, by omega⟩
    have hlt : i < 30 := by omega
    have hp : 0 < 2 ^ i := Nat.pow_pos (by decide)
    have hq : w / 2 ^ i = q := by rw [h, Nat.mul_div_cancel_left _ hp]
    rw [f_S_countZeroBits_L2, if_neg (show ¬ (30 : Int32) ≤ nI i from nI_ge (b := 30) hlt (by omega)), nI_1]
    by_cases e : q % 2 = 0
    · rw [if_pos ((bit_0 hw (by omega)).mpr (by rw [hq]; exact e))]
      exact ih j (i + 1) (q / 2) (by omega) (by omega) (by rw [Nat.pow_succ, Nat.mul_assoc, show 2 * (q / 2) = q by omega]; exact h)
    · rw [if_neg (fun x => e (by rw [← hq]; exact (bit_0 hw (by omega)).mp x))]
      exact ⟨i, q / 2, rfl, by omega, by rw [show 2 * (q / 2) + 1 = q by omega]; exact h⟩
/-- the limbs of a row, moved down by zl limbs within its size -/
def dn (r : Nat → Int32) (size zl : Nat) : Nat → Int32 := fun t => if t + zl < size then r (t + zl) else 0
theorem dn_nn {r : Nat → Int32} {size zl : Nat} (h : ∀ t, t < size → ¬ r t < 0) (t : Nat) : ¬ dn r size zl t < 0 := by
  unfold dn
  split
  · exact h _ (by assumption)
  · decide
theorem S_shiftDown_L3_ok (K : Nat) {N size zl zb : Nat} {row : Nat → Int32} (hN : N < 1073741824) (hs : size ≤ N) (hzl : zl < 1073741824) (hzb : zb ≤ 30) (hr : ∀ t, t < size → ¬ row t < 0) :
    ∀ (d j i : Nat) (r : Nat → Int32), i + d = size → d < j → (∀ t, i ≤ t → r t = row t) → (∀ t, t < i → r t = nI (((dn row size zl t).toNatClampNeg + 2147483648 * (dn row size zl (t + 1)).toNatClampNeg) / 2 ^ zb % 2147483648)) →
    ∃ r' : Nat → Int32, f_S_shiftDown_L3 K (nI size) (nI zl) (nI zb) N j (nI i) r = some (nI size, r') ∧ (∀ t, size ≤ t → r' t = row t) ∧ (∀ t, t < size → r' t = nI (((dn row size zl t).toNatClampNeg + 2147483648 * (dn row size zl (t + 1)).toNatClampNeg) / 2 ^ zb % 2147483648)) := by
  intro d
  induction d with
  | zero =>
    intro j i r hi hj h1 h2
    obtain ⟨j, rfl⟩ : ∃ j', j = j' + 1 := ⟨j - 1, by omega⟩
    have : i = size := by omega
    subst this
    exact ⟨r, by rw [f_S_shiftDown_L3, if_pos nI_le_self], h1, h2⟩
  | succ d ih =>
    intro j i r hi hj h1 h2
    obtain ⟨j, rfl⟩ : ∃ j', j = j' + 1 := ⟨j - 1, by omega⟩
    have hlt : i < size := by omega
    have key := l_two (hi := dn row size zl (i + 1)) (lo := dn row size zl i) (k := zb) (dn_nn hr _) (dn_nn hr _) (by omega)
    have z0 : ((0 : Int32).toInt64) = (0 : Int64) := rfl
    have hgo : ∀ X : Int32, X = nI (((dn row size zl i).toNatClampNeg + 2147483648 * (dn row size zl (i + 1)).toNatClampNeg) / 2 ^ zb % 2147483648) → ∃ r' : Nat → Int32, f_S_shiftDown_L3 K (nI size) (nI zl) (nI zb) N j (nI (i + 1)) (upd r i X) = some (nI size, r') ∧ (∀ t, size ≤ t → r' t = row t) ∧ (∀ t, t < size → r' t = nI (((dn row size zl t).toNatClampNeg + 2147483648 * (dn row size zl (t + 1)).toNatClampNeg) / 2 ^ zb % 2147483648)) := by
      intro X hX
      refine ih j (i + 1) (upd r i X) (by omega) (by omega) (fun t ht => by rw [pk_un (by omega)]; exact h1 t (by omega)) ?_
      intro t ht
      by_cases e : t = i
      · rw [e, pk_us, hX]
      · rw [pk_un e]; exact h2 t (by omega)
    rw [f_S_shiftDown_L3, if_neg (nI_ge hlt (by omega)), nI_add, nI_1, nI_1, inb_nI (show i < N by omega) (by omega), nI_clamp (show i < 2 ^ 31 by omega)]
    simp only [cond_true]
    unfold dn at key
    by_cases a : i + zl < size
    · rw [if_neg (nI_ge a (by omega)), inb_nI (show i + zl < N by omega) (by omega), nI_clamp (show i + zl < 2 ^ 31 by omega), h1 (i + zl) (by omega)]
      simp only [cond_true]
      rw [if_pos a] at key
      by_cases b : i + zl + 1 < size
      · rw [if_neg (nI_ge b (by omega)), inb_nI (show i + zl + 1 < N by omega) (by omega), nI_clamp (show i + zl + 1 < 2 ^ 31 by omega), h1 (i + zl + 1) (by omega)]
        simp only [cond_true]
        rw [if_pos (show i + 1 + zl < size by omega), show i + 1 + zl = i + zl + 1 by omega] at key
        refine hgo _ ?_
        rw [key]
        unfold dn
        rw [if_pos a, if_pos (show i + 1 + zl < size by omega), show i + 1 + zl = i + zl + 1 by omega]
      · rw [if_pos (nI_le (show size ≤ i + zl + 1 by omega) (by omega))]
        rw [if_neg (show ¬ i + 1 + zl < size by omega), z0] at key
        refine hgo _ ?_
        rw [key]
        unfold dn
        rw [if_pos a, if_neg (show ¬ i + 1 + zl < size by omega)]
    · rw [if_pos (nI_le (show size ≤ i + zl by omega) (by omega)), if_pos (nI_le (show size ≤ i + zl + 1 by omega) (by omega))]
      rw [if_neg a, if_neg (show ¬ i + 1 + zl < size by omega), z0] at key
      refine hgo _ ?_
      rw [key]
      unfold dn
      rw [if_neg a, if_neg (show ¬ i + 1 + zl < size by omega)]
theorem vl_dn {r : Nat → Int32} {size zl : Nat} (hz : zl ≤ size) : vl r size = vl r zl + 2147483648 ^ zl * vl (dn r size zl) size := by
  have h := vl_app r zl (size - zl)
  rw [show zl + (size - zl) = size by omega] at h
  rw [h]
  congr 2
  rw [vl_cut (f := dn r size zl) (n := size - zl) (N := size) (by omega) (fun t h1 h2 => by unfold dn; rw [if_neg (by omega)])]
  refine vl_congr _ (fun i hi => ?_)
  unfold dn
  rw [if_pos (by omega), Nat.add_comm]
/-- shiftDown: the row divided by the power of two, its own size on -/
theorem S_shiftDown_ok (K : Nat) {N size zl zb : Nat} {row : Nat → Int32} (hN : N < 1073741824) (hK : N < K) (hs : size ≤ N) (hzl : zl < 1073741824) (hzb : zb ≤ 30) (hr : ∀ t, t < size → ¬ row t < 0) :
    ∃ r' : Nat → Int32, f_S_shiftDown K N row (nI size) (nI zl) (nI zb) = some r' ∧ (∀ t, size ≤ t → r' t = row t) ∧ (∀ t, t < size → ¬ r' t < 0) ∧ vl r' size = vl (dn row size zl) size / 2 ^ zb := by
  obtain ⟨r', h1, h2, h3⟩ := S_shiftDown_L3_ok K (zl := zl) (zb := zb) (row := row) hN hs hzl hzb hr size K 0 row (by omega) (by omega) (fun _ _ => rfl) (fun t ht => absurd ht (Nat.not_lt_zero t))
  refine ⟨r', ?_, h2, fun t ht => by rw [h3 t ht]; exact nI_nn (mod_lt31 _), ?_⟩
  · unfold f_S_shiftDown
    rw [show (0 : Int32) = nI 0 from rfl, h1]
    rfl
  · refine vl_shift (T := 2 ^ zb) (T' := 2 ^ (31 - zb)) (by rw [← Nat.pow_add, show zb + (31 - zb) = 31 by omega]) size (dn row size zl) r' ?_ ?_
    · unfold dn; rw [if_neg (by omega)]
    · intro i hi
      rw [h3 i hi, cl_nI (mod_lt31 _)]
