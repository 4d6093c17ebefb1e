/-! The program's elimination step, whole. -/
def fpv (M : Nat → Nat → Int) (k : Nat) : Nat → Nat → Option Nat
  | 0, _ => none
  | d + 1, i => if M i k = 0 then fpv M k d (i + 1) else some i
theorem fpv_some {M : Nat → Nat → Int} {k : Nat} : ∀ (d i q : Nat), fpv M k d i = some q → i ≤ q ∧ q < i + d ∧ M q k ≠ 0
  | 0, i, q, h => by rw [fpv] at h; cases h
  | d + 1, i, q, h => by
    rw [fpv] at h
    split at h
    · have := fpv_some d (i + 1) q h
      omega
    · rename_i h0
      cases h
      exact ⟨Nat.le_refl _, by omega, h0⟩
def mswap (M : Nat → Nat → Int) (i k : Nat) : Nat → Nat → Int := fun a b => if a = k then M i b else if a = i then M k b else M a b
def rswap (rw : Nat → Nat) (i k : Nat) : Nat → Nat := fun a => if a = k then rw i else if a = i then rw k else rw a
theorem sgz_zero {z : Int} : sgz z = 0 ↔ z = 0 := by
  constructor
  · intro h
    rcases Int.lt_trichotomy z 0 with a | a | a
    · rw [sgz_n a] at h; exact absurd h (by decide)
    · exact a
    · rw [sgz_p a] at h; exact absurd h (by decide)
  · rintro rfl; rfl
theorem nrep_sg {R s : Nat} {sg le li : Nat → Int32} {z : Int} (h : nrep R sg le li s z) : sg s = sgz z := by
  obtain ⟨_, _, _, _, _, h5, _⟩ := nrep_len h
  exact h5
theorem M_findPivotRow_L2_ok (K : Nat) {n R kk : Nat} {M : Nat → Nat → Int} {Z : Nat → Int} {sg le li ra : Nat → Int32} {rw : Nat → Nat} (hn : n ≤ 6) (hk : kk < n) (hr : rok n ra rw) (hst : nst R (n * (n + 1)) sg le li Z) (hcm : cm n rw Z M) :
    ∀ (d f i : Nat), i + d = n → d < f → ∃ o : Bool × Int32 × Int32, f_M_findPivotRow_L2 K (nI kk) (nI n) (n * (n + 1)) sg n ra f (nI i) = some o ∧ ((fpv M kk d i = none ∧ o.1 = false) ∨ ∃ q, fpv M kk d i = some q ∧ o.1 = true ∧ o.2.1 = nI q) := by
  have hnS : n * (n + 1) ≤ 42 := by
    have := Nat.mul_le_mul hn (show n + 1 ≤ 7 by omega)
    omega
  intro d
  induction d with
  | zero =>
    intro f i hi hf
    obtain ⟨f, rfl⟩ : ∃ j', f = j' + 1 := ⟨f - 1, by omega⟩
    refine ⟨(false, 0, nI i), ?_, Or.inl ⟨by rw [fpv], rfl⟩⟩
    rw [f_M_findPivotRow_L2, if_pos (nI_le (show n ≤ i by omega) (by omega))]
  | succ d ih =>
    intro f i hi hf
    obtain ⟨f, rfl⟩ : ∃ j', f = j' + 1 := ⟨f - 1, by omega⟩
    have L := cell_lt (hr.1 i (by omega)).2 (show kk ≤ n by omega)
    rw [f_M_findPivotRow_L2, if_neg (nI_ge (show i < n by omega) (by omega)), M_slotAt_ok (ra := ra) (rw := rw) (by omega) (by omega) (by omega) hr.1]
    simp only [Option.bind_some]
    rw [N_signOf_ok L (by omega), nrep_sg (hst _ L), hcm i (by omega) kk (by omega), fpv]
    simp only [Option.bind_some]
    by_cases h0 : M i kk = 0
    · rw [if_pos h0, if_pos (sgz_zero.mpr h0), nI_1]
      exact ih f (i + 1) (by omega) (by omega)
    · rw [if_neg h0, if_neg (fun h => h0 (sgz_zero.mp h))]
      exact ⟨_, rfl, Or.inr ⟨i, rfl, rfl, rfl⟩⟩
theorem rok_swap {n i k : Nat} {ra : Nat → Int32} {rw : Nat → Nat} (hr : rok n ra rw) (hi : i < n) (hk : k < n) : rok n (upd (upd ra k (ra i)) i (ra k)) (rswap rw i k) := by
  refine ⟨fun t ht => ?_, fun a b ha hb h => ?_⟩
  · unfold rswap
    by_cases e : t = i
    · subst e
      rw [pk_us]
      by_cases e2 : t = k
      · subst e2; rw [if_pos rfl]; exact hr.1 t ht
      · rw [if_neg e2, if_pos rfl]; exact hr.1 k hk
    · rw [pk_un e]
      by_cases e2 : t = k
      · subst e2; rw [pk_us, if_pos rfl]; exact hr.1 i hi
      · rw [pk_un e2, if_neg e2, if_neg e]; exact hr.1 t ht
  · have e : ∀ a, rswap rw i k a = rw (if a = k then i else if a = i then k else a) := by
      intro a
      unfold rswap
      split
      · rfl
      · split <;> rfl
    have lt : ∀ a, a < n → (if a = k then i else if a = i then k else a) < n := by
      intro a h9
      split
      · exact hi
      · split
        · exact hk
        · exact h9
    rw [e, e] at h
    have h8 := hr.2 _ _ (lt a ha) (lt b hb) h
    repeat' split at h8
    all_goals omega
theorem cm_swap {n i k : Nat} {rw : Nat → Nat} {Z : Nat → Int} {M : Nat → Nat → Int} (hi : i < n) (hk : k < n) (h : cm n rw Z M) : cm n (rswap rw i k) Z (mswap M i k) := by
  intro a ha b hb
  unfold rswap mswap
  by_cases e : a = k
  · rw [if_pos e, if_pos e]; exact h i hi b hb
  · rw [if_neg e, if_neg e]
    by_cases e2 : a = i
    · rw [if_pos e2, if_pos e2]; exact h k hk b hb
    · rw [if_neg e2, if_neg e2]; exact h a ha b hb
/-- the pivot before column k -/
def pvt (M : Nat → Nat → Int) (k : Nat) : Int := if k = 0 then 1 else M (k - 1) (k - 1)
/-- a column's step: its answer, the matrix, the rows' places, whether rows changed places an odd number of times, how many pivots are made -/
def spE (n R k : Nat) (M : Nat → Nat → Int) (rw : Nat → Nat) (odd : Bool) (piv : Nat) : Int32 × (Nat → Nat → Int) × (Nat → Nat) × Bool × Nat :=
  match fpv M k (n - k) k with
  | none => (2, M, rw, odd, piv)
  | some i => (if (spI R k n (pvt M k) (n - 1 - k) (k + 1) (mswap M i k)).1 = true then 0 else 3, (spI R k n (pvt M k) (n - 1 - k) (k + 1) (mswap M i k)).2, rswap rw i k, if i = k then odd else !odd, k + 1)
def b2i (b : Bool) : Int32 := if b = true then 1 else 0
theorem rswap_self {rw : Nat → Nat} {k : Nat} : rswap rw k k = rw := by
  funext a
  unfold rswap
  split
  · rename_i h; rw [h]
  · rfl
theorem mswap_self {M : Nat → Nat → Int} {k : Nat} : mswap M k k = M := by
  funext a b
  unfold mswap
  split
  · rename_i h; rw [h]
  · rfl
theorem M_eliminateColumn_ok (K : Nat) {n R kk piv : Nat} {odd : Bool} {pv ss sl : Int32} {M : Nat → Nat → Int} {Z : Nat → Int} {sg le li pl mi dv ra : Nat → Int32} {rw : Nat → Nat} (hn : n ≤ 6) (hR : R ≤ 16) (hR0 : 0 < R) (hK : 200 < K) (hk : kk < n) (hr : rok n ra rw) (hst : nst R (n * (n + 1)) sg le li Z) (hcm : cm n rw Z M) (hpv : pv = nI piv) (hp0 : pvt M kk ≠ 0)
    (hdiv : ∀ i, kk ≤ i → i < n → M i kk ≠ 0 → ∀ a, kk < a → a < n → ∀ c, kk < c → c ≤ n → pvt M kk ∣ mswap M i kk kk kk * mswap M i kk a c - mswap M i kk a kk * mswap M i kk kk c) :
    ∃ (x pv' od' ss' sl' : Int32) (sg' le' li' pl' mi' dv' ra' : Nat → Int32) (Z' : Nat → Int), f_M_eliminateColumn K (nI n) pv (b2i odd) (nI R) (n * (n + 1)) sg (n * (n + 1)) le (n * (n + 1) * R) li (nI R) ss sl (2 * R + 1) pl (2 * R + 1) mi R dv n ra (nI kk) = some (x, pv', od', sg', le', li', ss', sl', pl', mi', dv', ra') ∧ x = (spE n R kk M rw odd piv).1 ∧ pv' = nI (spE n R kk M rw odd piv).2.2.2.2 ∧ od' = b2i (spE n R kk M rw odd piv).2.2.2.1 ∧ rok n ra' (spE n R kk M rw odd piv).2.2.1 ∧ nst R (n * (n + 1)) sg' le' li' Z' ∧ cm n (spE n R kk M rw odd piv).2.2.1 Z' (spE n R kk M rw odd piv).2.1 := by
  obtain ⟨o, f1, f2⟩ := M_findPivotRow_L2_ok K hn hk hr hst hcm (n - kk) K kk (by omega) (by omega)
  have hfp : f_M_findPivotRow K (nI n) (n * (n + 1)) sg n ra (nI kk) = some (if o.1 = true then o.2.1 else -1) := by
    unfold f_M_findPivotRow
    rw [f1]
    simp only [Option.bind_some]
    split <;> rfl
  unfold f_M_eliminateColumn spE
  rw [hfp]
  simp only [Option.bind_some]
  rcases f2 with ⟨q1, q2⟩ | ⟨q, q1, q2, q3⟩
  · rw [q1, if_neg (show ¬ o.1 = true by rw [q2]; decide), if_pos rfl]
    exact ⟨_, _, _, _, _, _, _, _, _, _, _, _, Z, rfl, rfl, hpv, rfl, hr, hst, hcm⟩
  · obtain ⟨g1, g2, g3⟩ := fpv_some _ _ _ q1
    rw [q1, if_pos q2, q3, if_neg (fun h => by have := nI_pos (n := q) (by omega); rw [h] at this; exact this (by decide))]
    have hqn : q < n := by omega
    simp only
    by_cases e : q = kk
    · subst e
      rw [if_pos rfl, if_pos rfl, rswap_self, mswap_self]
      have hd := hdiv q (Nat.le_refl q) hk g3
      rw [mswap_self] at hd
      obtain ⟨b, v, v3, ss2, sl2, sg2, le2, li2, pl2, mi2, dv2, Z2, k1, k2, k3, k4, k5⟩ := M_elim_L35_ok K (p := pvt M q) hn hR hR0 hK hk hr hp0 (n - 1 - q) K (q + 1) M Z sg le li pl mi dv ss sl (by omega) (by omega) (by omega) hst hcm rfl (fun a ha1 ha2 => hd a (by omega) ha2)
      rw [nI_1, k1]
      simp only [Option.bind_some]
      by_cases hb : (spI R q n (pvt M q) (n - 1 - q) (q + 1) M).1 = true
      · rw [if_pos hb]
        rw [hb] at k2
        rw [if_neg (by rw [k2]; decide)]
        exact ⟨_, _, _, _, _, _, _, _, _, _, _, _, Z2, rfl, rfl, rfl, rfl, hr, k4, k5⟩
      · rw [if_neg hb]
        have hbt : b = true := by rw [k2]; cases hq : (spI R q n (pvt M q) (n - 1 - q) (q + 1) M).1 with
          | false => rfl
          | true => exact absurd hq hb
        rw [if_pos hbt]
        exact ⟨_, _, _, _, _, _, _, _, _, _, _, _, Z2, rfl, k3 hbt, rfl, rfl, hr, k4, k5⟩
    · rw [if_neg e, if_neg (fun h => e ((nI_eq (by omega) (by omega)).mp h))]
      have hr2 := rok_swap hr hqn hk
      have hsw : f_M_swapRows (b2i odd) n ra (nI kk) (nI q) = some (b2i (!odd), upd (upd ra kk (ra q)) q (ra kk)) := by
        unfold f_M_swapRows
        rw [inb_nI hk (by omega), inb_nI hqn (by omega), nI_clamp (show kk < 2 ^ 31 by omega), nI_clamp (show q < 2 ^ 31 by omega)]
        simp only [cond_true]
        cases odd with
        | false => rfl
        | true => rfl
      rw [hsw]
      simp only [Option.bind_some]
      have hpm : pvt M kk = (if kk = 0 then 1 else mswap M q kk (kk - 1) (kk - 1)) := by
        unfold pvt
        by_cases h0 : kk = 0
        · rw [if_pos h0, if_pos h0]
        · rw [if_neg h0, if_neg h0]
          unfold mswap
          rw [if_neg (by omega), if_neg (by omega)]
      obtain ⟨b, v, v3, ss2, sl2, sg2, le2, li2, pl2, mi2, dv2, Z2, k1, k2, k3, k4, k5⟩ := M_elim_L35_ok K (p := pvt M kk) hn hR hR0 hK hk hr2 hp0 (n - 1 - kk) K (kk + 1) (mswap M q kk) Z sg le li pl mi dv ss sl (by omega) (by omega) (by omega) hst (cm_swap hqn hk hcm) hpm (fun a ha1 ha2 => hdiv q g1 hqn g3 a (by omega) ha2)
      rw [nI_1, k1]
      simp only [Option.bind_some]
      by_cases hb : (spI R kk n (pvt M kk) (n - 1 - kk) (kk + 1) (mswap M q kk)).1 = true
      · rw [if_pos hb]
        rw [hb] at k2
        rw [if_neg (by rw [k2]; decide)]
        exact ⟨_, _, _, _, _, _, _, _, _, _, _, _, Z2, rfl, rfl, rfl, rfl, hr2, k4, k5⟩
      · rw [if_neg hb]
        have hbt : b = true := by rw [k2]; cases hq : (spI R kk n (pvt M kk) (n - 1 - kk) (kk + 1) (mswap M q kk)).1 with
          | false => rfl
          | true => exact absurd hq hb
        rw [if_pos hbt]
        exact ⟨_, _, _, _, _, _, _, _, _, _, _, _, Z2, rfl, k3 hbt, rfl, rfl, hr2, k4, k5⟩
