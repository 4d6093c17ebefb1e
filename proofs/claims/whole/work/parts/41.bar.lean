/-! Why each step divides without a rest, and what the numerators are. -/
def tr (n k : Nat) (x : Nat → Int) : Nat → Int := fun j => if j < k ∨ n < j then 0 else x j
def frm (A : Nat → Nat → Int) : Nat → List Nat → Int
  | 0 => fun l => if l = [] then 1 else 0
  | k + 1 => fun l => wd (A k) l (frm A k)
theorem frm_s (A : Nat → Nat → Int) (k : Nat) : frm A (k + 1) = fun l => wd (A k) l (frm A k) := by rw [frm]
theorem frm_congr {A B : Nat → Nat → Int} : ∀ k, (∀ a, a < k → A a = B a) → frm A k = frm B k
  | 0, _ => by rw [frm, frm]
  | k + 1, h => by rw [frm_s, frm_s, frm_congr k (fun a ha => h a (by omega)), h k (by omega)]
theorem tr_in {n k j : Nat} {x : Nat → Int} (h1 : k ≤ j) (h2 : j ≤ n) : tr n k x j = x j := by unfold tr; rw [if_neg (by omega)]
theorem tr_lo {n k j : Nat} {x : Nat → Int} (h1 : j < k) : tr n k x j = 0 := by unfold tr; rw [if_pos (Or.inl h1)]
theorem tr_hi {n k j : Nat} {x : Nat → Int} (h1 : n < j) : tr n k x j = 0 := by unfold tr; rw [if_pos (Or.inr h1)]
/-- after k columns -/
def BI (n k : Nat) (A M : Nat → Nat → Int) : Prop :=
  (∀ c, c < k → M c c ≠ 0) ∧ (∃ s : Int, (s = 1 ∨ s = -1) ∧ frm A k (List.range k) = s * pvt M k) ∧ (∀ i, k ≤ i → i < n → ∀ l, wd (tr n k (M i)) l (frm A k) = pvt M k * wd (A i) l (frm A k)) ∧ (∀ i, i < k → ∀ l, wd (tr n i (M i)) l (frm A k) = 0)
theorem BI_pvt {n k : Nat} {A M : Nat → Nat → Int} (h : BI n k A M) : pvt M k ≠ 0 := by
  unfold pvt
  by_cases e : k = 0
  · rw [if_pos e]; decide
  · rw [if_neg e]; exact h.1 _ (by omega)
theorem BI_start {n : Nat} {A M : Nat → Nat → Int} (h : ∀ i, i < n → A i = tr n 0 (M i)) : BI n 0 A M := by
  have hp : pvt M 0 = 1 := by unfold pvt; rw [if_pos rfl]
  refine ⟨fun c hc => absurd hc (Nat.not_lt_zero c), ⟨1, Or.inl rfl, ?_⟩, fun i _ hi l => ?_, fun c hc => absurd hc (Nat.not_lt_zero c)⟩
  · rw [hp, frm]; rfl
  · rw [hp, Int.one_mul, h i hi]
theorem mswap_k {M : Nat → Nat → Int} {i k : Nat} : mswap M i k k = M i := by funext b; unfold mswap; rw [if_pos rfl]
theorem mswap_i {M : Nat → Nat → Int} {i k : Nat} (h : i ≠ k) : mswap M i k i = M k := by funext b; unfold mswap; rw [if_neg h, if_pos rfl]
theorem mswap_o {M : Nat → Nat → Int} {i k a : Nat} (h1 : a ≠ k) (h2 : a ≠ i) : mswap M i k a = M a := by funext b; unfold mswap; rw [if_neg h1, if_neg h2]
theorem pvt_swap {M : Nat → Nat → Int} {i k : Nat} (h : k ≤ i) : pvt (mswap M i k) k = pvt M k := by
  unfold pvt
  by_cases e : k = 0
  · rw [if_pos e, if_pos e]
  · rw [if_neg e, if_neg e, mswap_o (by omega) (by omega)]
theorem BI_swap {n k i : Nat} {A M : Nat → Nat → Int} (h : BI n k A M) (hk : k ≤ i) (hi : i < n) : BI n k (mswap A i k) (mswap M i k) := by
  obtain ⟨h1, ⟨s, s1, s2⟩, h3, h4⟩ := h
  have hf : frm (mswap A i k) k = frm A k := frm_congr k (fun a ha => mswap_o (by omega) (by omega))
  refine ⟨fun c hc => ?_, ⟨s, s1, ?_⟩, fun a ha1 ha2 l => ?_, fun a ha l => ?_⟩
  · rw [mswap_o (by omega) (by omega)]; exact h1 c hc
  · rw [hf, pvt_swap hk]; exact s2
  · rw [hf, pvt_swap hk]
    by_cases e1 : a = k
    · rw [e1, mswap_k, mswap_k]; exact h3 i hk hi l
    · by_cases e2 : a = i
      · subst e2
        rw [mswap_i e1, mswap_i e1]; exact h3 k (Nat.le_refl k) (by omega) l
      · rw [mswap_o e1 e2, mswap_o e1 e2]; exact h3 a ha1 ha2 l
  · rw [hf, mswap_o (by omega) (by omega)]; exact h4 a ha l
theorem BI_div {n k : Nat} {A M : Nat → Nat → Int} (h : BI n k A M) {a c : Nat} (hka : k < a) (ha : a < n) (hkc : k < c) (hc : c ≤ n) : pvt M k ∣ M k k * M a c - M a k * M k c := by
  have hp := BI_pvt h
  obtain ⟨h1, ⟨s, s1, s2⟩, h3, h4⟩ := h
  obtain ⟨z, hz⟩ := bar_div hp s1 s2 (h3 k (Nat.le_refl k) (by omega)) (h3 a (by omega) ha) (fun t ht => tr_lo (List.mem_range.mp ht)) (fun t ht => tr_lo (List.mem_range.mp ht)) k c
  rw [tr_in (Nat.le_refl k) (by omega), tr_in (Nat.le_of_lt hkc) hc, tr_in (Nat.le_refl k) (by omega), tr_in (Nat.le_of_lt hkc) hc] at hz
  exact ⟨z, hz⟩
theorem BI_next {n k : Nat} {A M M' : Nat → Nat → Int} (h : BI n k A M) (hk : k < n) (hp0 : M k k ≠ 0) (hv : ∀ i, k < i → i < n → ∀ j, k < j → j ≤ n → pvt M k * M' i j = M k k * M i j - M i k * M k j) (hkeep : ∀ a b, (a ≤ k ∨ b ≤ k) → M' a b = M a b) : BI n (k + 1) A M' := by
  have hp := BI_pvt h
  obtain ⟨h1, ⟨s, s1, s2⟩, h3, h4⟩ := h
  have hk0 := h3 k (Nat.le_refl k) hk
  have hpv : pvt M' (k + 1) = M k k := by
    unfold pvt
    rw [if_neg (by omega), Nat.add_sub_cancel, hkeep k k (Or.inl (Nat.le_refl k))]
  have hrow : ∀ a, a ≤ k → M' a = M a := fun a ha => funext fun b => hkeep a b (Or.inl ha)
  refine ⟨fun c hc => ?_, ⟨sgn k * s, ?_, ?_⟩, fun i hi1 hi2 l => ?_, fun i hi l => ?_⟩
  · rw [hkeep c c (Or.inl (by omega))]
    by_cases e : c = k
    · rw [e]; exact hp0
    · exact h1 c (by omega)
  · rcases sgn_pm k with q | q <;> rcases s1 with r | r <;> rw [q, r] <;> simp
  · have := bar_piv (k := k) hp s2 hk0 (fun t ht => tr_lo (List.mem_range.mp ht))
    rw [List.length_range, tr_in (Nat.le_refl k) (by omega)] at this
    rw [frm_s, List.range_succ, hpv]
    exact this
  · rw [frm_s, hpv]
    have ha : ∀ j, pvt M k * tr n (k + 1) (M' i) j = tr n k (M k) k * tr n k (M i) j - tr n k (M i) k * tr n k (M k) j := by
      intro j
      rw [tr_in (j := k) (Nat.le_refl k) (by omega), tr_in (j := k) (Nat.le_refl k) (by omega)]
      rcases Nat.lt_or_ge j k with q | q
      · rw [tr_lo (by omega), tr_lo q, tr_lo q]; simp
      · rcases Nat.lt_or_ge n j with r | r
        · rw [tr_hi r, tr_hi r, tr_hi r]; simp
        · rw [tr_in (x := M i) q r, tr_in (x := M k) q r]
          rcases Nat.eq_or_lt_of_le q with e | e
          · subst e
            rw [tr_lo (by omega), Int.mul_comm (M i k)]; omega
          · rw [tr_in (by omega) r]
            exact hv i (by omega) hi2 j e r
    have := bar_next (k := k) hp hk0 (h3 i (by omega) hi2) ha l
    rw [tr_in (Nat.le_refl k) (by omega)] at this
    exact this
  · rw [frm_s, hrow i (by omega)]
    by_cases e : i = k
    · rw [e]; exact bar_self hk0 l
    · rw [wd_anti, show (fun l => wd (tr n i (M i)) l (frm A k)) = fun _ => 0 from funext (h4 i (by omega)), wd_zero]; rfl
/-- what a step leaves when it goes through -/
theorem spJ_val {R k i : Nat} {p : Int} (hki : k ≠ i) : ∀ (d j : Nat) (M : Nat → Nat → Int), k < j → (spJ R k i p d j M).1 = true → ∀ c, j ≤ c → c < j + d → (spJ R k i p d j M).2 i c = minr M p k i c
  | 0, j, M, _, _, c, h1, h2 => by omega
  | d + 1, j, M, hj, h, c, h1, h2 => by
    rw [spJ] at h ⊢
    by_cases e : (minr M p k i j).natAbs < 2147483648 ^ R
    · rw [if_pos e] at h ⊢
      by_cases ec : c = j
      · subst ec
        rw [spJ_keep d (c + 1) _ i c (by omega), mset_s]
      · rw [spJ_val hki d (j + 1) _ (by omega) h c (by omega) (by omega)]
        unfold minr
        rw [mset_n (by omega), mset_n (by omega), mset_n (by omega), mset_n (by omega)]
    · rw [if_neg e] at h
      exact Bool.noConfusion h
theorem spI_val {R k n : Nat} {p : Int} : ∀ (d i : Nat) (M : Nat → Nat → Int), k < i → k < n → (spI R k n p d i M).1 = true → ∀ a, i ≤ a → a < i + d → ∀ c, k < c → c ≤ n → (spI R k n p d i M).2 a c = minr M p k a c
  | 0, i, M, _, _, _, a, h1, h2, _, _, _ => by omega
  | d + 1, i, M, hi, hkn, h, a, h1, h2, c, h3, h4 => by
    rw [spI] at h ⊢
    by_cases e : (spJ R k i p (n - k) (k + 1) M).1 = true
    · rw [if_pos e] at h ⊢
      by_cases ea : a = i
      · subst ea
        rw [spI_keep d (a + 1) _ a c (by omega), spJ_val (by omega) (n - k) (k + 1) M (by omega) e c (by omega) (by omega)]
      · rw [spI_val d (i + 1) _ (by omega) hkn h a (by omega) (by omega) c h3 h4]
        unfold minr
        rw [spJ_keep _ _ _ k k (by omega), spJ_keep _ _ _ a c (by omega), spJ_keep _ _ _ a k (by omega), spJ_keep _ _ _ k c (by omega)]
    · rw [if_neg e] at h
      exact Bool.noConfusion h
/-- the rows as they were loaded, in the places that they have now -/
def ldd (n : Nat) (rw : Nat → Nat) (ZL : Nat → Int) : Nat → Nat → Int := fun a b => if n < b then 0 else ZL (rw a * (n + 1) + b)
theorem ldd_swap {n i k : Nat} {rw : Nat → Nat} {ZL : Nat → Int} : ldd n (rswap rw i k) ZL = mswap (ldd n rw ZL) i k := by
  funext a b
  unfold ldd mswap rswap
  by_cases e1 : a = k
  · rw [if_pos e1, if_pos e1]
  · rw [if_neg e1, if_neg e1]
    by_cases e2 : a = i
    · rw [if_pos e2, if_pos e2]
    · rw [if_neg e2, if_neg e2]
/-- every row is somewhere -/
def onto (n : Nat) (rw : Nat → Nat) : Prop := ∀ r, r < n → ∃ a, a < n ∧ rw a = r
theorem onto_swap {n i k : Nat} {rw : Nat → Nat} (h : onto n rw) (hi : i < n) (hk : k < n) : onto n (rswap rw i k) := by
  intro r hr
  obtain ⟨a, ha, e⟩ := h r hr
  by_cases e1 : a = k
  · by_cases e2 : i = k
    · exact ⟨a, ha, by unfold rswap; rw [if_pos e1, e2, ← e1]; exact e⟩
    · exact ⟨i, hi, by unfold rswap; rw [if_neg e2, if_pos rfl, ← e1]; exact e⟩
  · by_cases e2 : a = i
    · exact ⟨k, hk, by unfold rswap; rw [if_pos rfl, ← e2]; exact e⟩
    · exact ⟨a, ha, by unfold rswap; rw [if_neg e1, if_neg e2]; exact e⟩
theorem spE_hdiv {n k : Nat} {A M : Nat → Nat → Int} (h : BI n k A M) : ∀ i, k ≤ i → i < n → M i k ≠ 0 → ∀ a, k < a → a < n → ∀ c, k < c → c ≤ n → pvt M k ∣ mswap M i k k k * mswap M i k a c - mswap M i k a k * mswap M i k k c := by
  intro i hk hi _ a ha1 ha2 c hc1 hc2
  have := BI_div (BI_swap h hk hi) ha1 ha2 hc1 hc2
  rw [pvt_swap hk] at this
  exact this
theorem spE_ok {n R k piv : Nat} {odd : Bool} {M : Nat → Nat → Int} {rw : Nat → Nat} {ZL : Nat → Int} (hk : k < n) (h : BI n k (ldd n rw ZL) M) (ho : onto n rw) (hpv : piv ≤ n) :
    onto n (spE n R k M rw odd piv).2.2.1 ∧ (spE n R k M rw odd piv).2.2.2.2 ≤ n ∧ (((spE n R k M rw odd piv).1 = 0 ∧ BI n (k + 1) (ldd n (spE n R k M rw odd piv).2.2.1 ZL) (spE n R k M rw odd piv).2.1 ∧ (spE n R k M rw odd piv).2.2.2.2 = k + 1) ∨ (spE n R k M rw odd piv).1 = 2 ∨ (spE n R k M rw odd piv).1 = 3) := by
  have hd := spE_hdiv h
  unfold spE
  cases hf : fpv M k (n - k) k with
  | none => exact ⟨ho, hpv, Or.inr (Or.inl rfl)⟩
  | some i =>
    obtain ⟨g1, g2, g3⟩ := fpv_some _ _ _ hf
    have hin : i < n := by omega
    refine ⟨onto_swap ho hin hk, hk, ?_⟩
    by_cases e : (spI R k n (pvt M k) (n - 1 - k) (k + 1) (mswap M i k)).1 = true
    · refine Or.inl ⟨by dsimp only; rw [if_pos e], ?_, rfl⟩
      have hs := BI_swap h g1 hin
      rw [← ldd_swap] at hs
      refine BI_next hs hk (by rw [mswap_k]; exact g3) (fun a ha1 ha2 c hc1 hc2 => ?_) (fun a b hab => spI_keep _ _ _ a b (by omega))
      dsimp only
      rw [pvt_swap g1, spI_val _ _ _ (by omega) hk e a (by omega) (by omega) c hc1 hc2]
      unfold minr
      exact Int.mul_ediv_cancel' (hd i g1 hin g3 a ha1 ha2 c hc1 hc2)
    · refine Or.inr (Or.inr ?_)
      dsimp only
      rw [if_neg e]
/-- columns one by one -/
def un (m : Nat) : Nat → Int := fun j => if j = m then 1 else 0
theorem wd_zx (L : List Nat) (g : List Nat → Int) : wd (fun _ => 0) L g = 0 := by
  have h := wd_sm 0 (fun _ => 0) L g
  simp only [Int.zero_mul] at h
  exact h
theorem sumN_congrM {M M' : Nat → Nat → Int} {N : Nat → Int} {i i' : Nat} : ∀ (d j : Nat), (∀ c, j ≤ c → c < j + d → M i c = M' i' c) → sumN M N i d j = sumN M' N i' d j
  | 0, j, _ => by rw [sumN, sumN]
  | d + 1, j, h => by
    rw [sumN, sumN, h j (Nat.le_refl j) (by omega), sumN_congrM d (j + 1) (fun c h1 h2 => h c (by omega) (by omega))]
theorem sumN_last {M : Nat → Nat → Int} {N : Nat → Int} {i : Nat} : ∀ (d j : Nat), sumN M N i (d + 1) j = sumN M N i d j + M i (j + d) * N (j + d)
  | 0, j => by rw [sumN, sumN, sumN, Nat.add_zero]; omega
  | d + 1, j => by rw [sumN, sumN_last d (j + 1), sumN, show j + 1 + d = j + (d + 1) by omega]; omega
theorem sumN_mul {M : Nat → Nat → Int} {N : Nat → Int} {i : Nat} {a : Int} : ∀ (d j : Nat), sumN M (fun c => a * N c) i d j = a * sumN M N i d j
  | 0, j => by rw [sumN, sumN, Int.mul_zero]
  | d + 1, j => by rw [sumN, sumN, sumN_mul d (j + 1), Int.mul_add, ← Int.mul_assoc, Int.mul_comm (M i j), Int.mul_assoc]
theorem wd_sum {n : Nat} (L : List Nat) (g : List Nat → Int) : ∀ (d m : Nat) (v : Nat → Int), m + d = n + 1 → (∀ t, t < m → v t = 0) → (∀ t, n < t → v t = 0) → wd v L g = sumN (fun _ => v) (fun j => wd (un j) L g) 0 d m
  | 0, m, v, h, h1, h2 => by
    have : v = fun _ => 0 := funext fun t => by
      rcases Nat.lt_or_ge t m with q | q
      · exact h1 t q
      · exact h2 t (by omega)
    rw [this, wd_zx, sumN]
  | d + 1, m, v, h, h1, h2 => by
    obtain ⟨v', hv'⟩ : ∃ v' : Nat → Int, v' = fun t => if t = m then 0 else v t := ⟨_, rfl⟩
    have hv : v = fun j => 1 * v' j - (-(v m)) * un m j := funext fun t => by
      rw [hv']
      unfold un
      dsimp only
      by_cases e : t = m
      · rw [if_pos e, if_pos e, e]; omega
      · rw [if_neg e, if_neg e]; omega
    have ih := wd_sum (n := n) L g d (m + 1) v' (by omega) (fun t ht => by
      rw [hv']
      dsimp only
      by_cases e : t = m
      · rw [if_pos e]
      · rw [if_neg e]; exact h1 t (by omega)) (fun t ht => by
      rw [hv']
      dsimp only
      rw [if_neg (by omega)]; exact h2 t ht)
    have e2 : sumN (fun _ => v') (fun j => wd (un j) L g) 0 d (m + 1) = sumN (fun _ => v) (fun j => wd (un j) L g) 0 d (m + 1) := sumN_congrM d (m + 1) (fun c hc _ => by
      rw [hv']
      dsimp only
      rw [if_neg (by omega)])
    rw [sumN, ← e2, ← ih]
    conv => lhs; rw [hv]
    rw [wd_lin, Int.neg_mul, Int.one_mul]
    omega
theorem frm_alt {A : Nat → Nat → Int} {i : Nat} : ∀ (k : Nat), i < k → ∀ l, wd (A i) l (frm A k) = 0
  | 0, h, _ => absurd h (Nat.not_lt_zero i)
  | k + 1, h, l => by
    rw [frm_s]
    by_cases e : i = k
    · rw [e]; exact wd_alt _ _ _
    · rw [wd_anti, show (fun l => wd (A i) l (frm A k)) = fun _ => 0 from funext (frm_alt k (by omega)), wd_zero]; rfl
theorem cramer {n : Nat} {A M : Nat → Nat → Int} (h : BI n n A M) (hn : 0 < n) (hA : ∀ i t, n < t → A i t = 0) : ∃ N : Nat → Int, (∀ i, i < n → sumN M N i (n - i) i = M i n * M (n - 1) (n - 1)) ∧ (∀ i, i < n → sumN A N i n 0 = A i n * M (n - 1) (n - 1)) := by
  obtain ⟨h1, ⟨s, s1, s2⟩, h3, h4⟩ := h
  have hpv : pvt M n = M (n - 1) (n - 1) := by unfold pvt; rw [if_neg (by omega)]
  rw [hpv] at s2
  obtain ⟨D, hD⟩ : ∃ D, D = M (n - 1) (n - 1) := ⟨_, rfl⟩
  rw [← hD] at s2 ⊢
  obtain ⟨F, hF⟩ : ∃ F, F = frm A n := ⟨_, rfl⟩
  rw [← hF] at s2 h4
  have hcn : wd (un n) (List.range (n + 1)) F = sgn n * (s * D) := by
    rw [List.range_succ, wd_pre (un n) (List.range n) [n] F (fun c hc => by unfold un; rw [if_neg (by have := List.mem_range.mp hc; omega)]), wd_one, List.length_range, List.append_nil, s2]
    unfold un
    rw [if_pos rfl, Int.one_mul]
  have key : ∀ (m : Nat) (v : Nat → Int), m ≤ n → (∀ t, t < m → v t = 0) → (∀ t, n < t → v t = 0) → wd v (List.range (n + 1)) F = 0 → sumN (fun _ => v) (fun j => -(sgn n * s) * wd (un j) (List.range (n + 1)) F) 0 (n - m) m = v n * D := by
    intro m v hm hv1 hv2 hw
    have e := wd_sum (n := n) (List.range (n + 1)) F (n - m + 1) m v (by omega) hv1 hv2
    rw [hw, sumN_last, show m + (n - m) = n by omega, hcn] at e
    rw [sumN_mul]
    generalize sumN (fun _ => v) (fun j => wd (un j) (List.range (n + 1)) F) 0 (n - m) m = S at *
    rcases sgn_pm n with q | q <;> rcases s1 with r | r <;> rw [q, r] at e ⊢ <;> grind
  refine ⟨fun j => -(sgn n * s) * wd (un j) (List.range (n + 1)) F, fun i hi => ?_, fun i hi => ?_⟩
  · have := key i (tr n i (M i)) (by omega) (fun t ht => tr_lo ht) (fun t ht => tr_hi ht) (h4 i hi _)
    rw [tr_in (by omega) (Nat.le_refl n)] at this
    rw [← this]
    exact sumN_congrM _ _ (fun c c1 c2 => (tr_in c1 (by omega)).symm)
  · have := key 0 (A i) (Nat.zero_le n) (fun t ht => absurd ht (Nat.not_lt_zero t)) (hA i) (by rw [hF]; exact frm_alt n hi _)
    rw [← this]
    exact sumN_congrM _ _ (fun c c1 c2 => rfl)
