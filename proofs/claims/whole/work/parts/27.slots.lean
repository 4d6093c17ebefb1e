/-! Pure: slots of numbers: filled, stored, cleared, copied, told. -/
theorem fill_L5_ok (K : Nat) {n : Nat} {val : Int32} (hn : n < 2147483648) : ∀ (d j i : Nat) (r : Nat → Int32), i + d = n → d < j → (∀ t, t < i → r t = val) → ∃ r' : Nat → Int32, f_fill_L5 K val (nI n) n j (nI i) r = some (nI n, r') ∧ (∀ t, t < n → r' t = val) := by
  intro d
  induction d with
  | zero =>
    intro j i r hi hj h
    obtain ⟨j, rfl⟩ : ∃ j', j = j' + 1 := ⟨j - 1, by omega⟩
    have : i = n := by omega
    subst this
    exact ⟨r, by rw [f_fill_L5, if_pos nI_le_self], h⟩
  | succ d ih =>
    intro j i r hi hj h
    obtain ⟨j, rfl⟩ : ∃ j', j = j' + 1 := ⟨j - 1, by omega⟩
    have hlt : i < n := by omega
    obtain ⟨r', h1, h2⟩ := ih j (i + 1) (upd r i val) (by omega) (by omega) (by
      intro t ht
      by_cases e : t = i
      · rw [e, pk_us]
      · rw [pk_un e]; exact h t (by omega))
    refine ⟨r', ?_, h2⟩
    rw [f_fill_L5, if_neg (nI_ge hlt (by omega)), inb_nI hlt (by omega), nI_clamp (show i < 2 ^ 31 by omega), nI_1]
    exact h1
theorem fill_ok (K : Nat) {n : Nat} {val : Int32} {r : Nat → Int32} (hn : n < 2147483648) (hK : n < K) : ∃ r' : Nat → Int32, f_fill K n r val = some r' ∧ ∀ t, t < n → r' t = val := by
  obtain ⟨r', h1, h2⟩ := fill_L5_ok K (val := val) hn n K 0 r (by omega) hK (fun _ h => absurd h (Nat.not_lt_zero _))
  refine ⟨r', ?_, h2⟩
  unfold f_fill
  rw [show (0 : Int32) = nI 0 from rfl, h1]
  rfl
theorem S_clear_ok (K : Nat) {n : Nat} {pl mi : Nat → Int32} (hn : n < 2147483648) (hK : n < K) : ∃ pl' mi' : Nat → Int32, f_S_clear K n pl n mi = some (0, 0, pl', mi') ∧ (∀ t, t < n → pl' t = 0) ∧ (∀ t, t < n → mi' t = 0) := by
  obtain ⟨p, h1, h2⟩ := fill_ok K (val := 0) (r := pl) hn hK
  obtain ⟨m, g1, g2⟩ := fill_ok K (val := 0) (r := mi) hn hK
  refine ⟨p, m, ?_, h2, g2⟩
  unfold f_S_clear
  rw [h1]
  simp only [Option.bind_some]
  rw [g1]
  rfl
/-- the two sides of a sum: rows of N limbs, none below 0 -/
def sid (N : Nat) (pl mi : Nat → Int32) : Prop := (∀ t, t < N → ¬ pl t < 0) ∧ (∀ t, t < N → ¬ mi t < 0)
theorem z_nn {r : Nat → Int32} {n : Nat} (h : ∀ t, t < n → r t = 0) : ∀ t, t < n → ¬ r t < 0 := fun t ht => by rw [h t ht]; decide
/-- every slot holds its number -/
def nst (R nS : Nat) (sg le li : Nat → Int32) (Z : Nat → Int) : Prop := ∀ s, s < nS → nrep R sg le li s (Z s)
theorem slot_le {s nS R : Nat} (h : s < nS) : s * R + R ≤ nS * R := by
  have := Nat.mul_le_mul_right R h
  rw [Nat.succ_mul] at this
  exact this
/-- one slot's number changed -/
def zset (Z : Nat → Int) (s : Nat) (z : Int) : Nat → Int := fun t => if t = s then z else Z t
theorem zset_s {Z : Nat → Int} {s : Nat} {z : Int} : zset Z s z s = z := by unfold zset; rw [if_pos rfl]
theorem zset_n {Z : Nat → Int} {s t : Nat} {z : Int} (h : ¬ t = s) : zset Z s z t = Z t := by unfold zset; rw [if_neg h]
theorem nrep_keep {R s : Nat} {sg le li sg' le' li' : Nat → Int32} {z : Int} (h : nrep R sg le li s z) (h1 : sg' s = sg s) (h2 : le' s = le s) (h3 : ∀ i, i < R → li' (s * R + i) = li (s * R + i)) : nrep R sg' le' li' s z := by
  obtain ⟨len, a, b, c, d, e⟩ := h
  have ev : vl (fun i => li' (s * R + i)) len = vl (fun i => li (s * R + i)) len := vl_congr len (fun i hi => h3 i (by omega))
  refine ⟨len, by rw [h2, a], b, fun i hi => by rw [h3 i (by omega)]; exact c i hi, fun i hi => by rw [h3 i (by omega)]; exact d i hi, ?_⟩
  rw [h1, ev]
  exact e
theorem nrep_mk {R s n : Nat} {sg le li : Nat → Int32} {z : Int} (h1 : sg s = sgz z) (h2 : le s = nI n) (h3 : n ≤ R) (h4 : ∀ i, i < n → ¬ li (s * R + i) < 0) (h5 : ∀ i, i + 1 = n → ¬ li (s * R + i) = 0) (h6 : vl (fun i => li (s * R + i)) n = z.natAbs) : nrep R sg le li s z := by
  refine ⟨n, h2, h3, h4, h5, ?_⟩
  rcases Nat.eq_zero_or_pos n with h | h
  · subst h
    rw [vl_0] at h6
    have : z = 0 := by omega
    subst this
    exact Or.inl ⟨h1, rfl, rfl⟩
  · have hg := vl_ge (f := fun i => li (s * R + i)) h4 h5 h
    have : 0 < 2147483648 ^ (n - 1) := Nat.pow_pos (by decide)
    rcases Int.lt_trichotomy z 0 with a | a | a
    · exact Or.inr (Or.inr ⟨by rw [h1, sgz_n a], h, by rw [h6]; omega⟩)
    · exfalso; subst a; rw [h6] at hg; simp at hg
    · exact Or.inr (Or.inl ⟨by rw [h1, sgz_p a], h, by rw [h6]; omega⟩)
theorem S_storeIn_ok {NP R nS n s : Nat} {z : Int} {r sg le li : Nat → Int32} {Z : Nat → Int} (hNP : NP < 1073741824) (hR : R < 1073741824) (hs : s < nS) (hnS : nS < 1073741824) (hnl : nS * R < 1073741824) (hn : n ≤ NP) (hr : ∀ t, t < NP → ¬ r t < 0) (htop : ∀ t, t + 1 = n → ¬ r t = 0) (hV : vl r n = z.natAbs) (hst : nst R nS sg le li Z) :
    (z.natAbs < 2147483648 ^ R → ∃ sg' le' li' : Nat → Int32, f_S_storeIn (nI R) (sgz z) (nI n) NP r (nI R) nS sg nS le (nS * R) li (nI s) = some (1, sg', le', li') ∧ nst R nS sg' le' li' (zset Z s z)) ∧ (¬ z.natAbs < 2147483648 ^ R → f_S_storeIn (nI R) (sgz z) (nI n) NP r (nI R) nS sg nS le (nS * R) li (nI s) = some (0, sg, le, li)) := by
  have hsl := slot_le (R := R) hs
  constructor
  · intro hz
    have hnR : n ≤ R := by
      rcases Nat.lt_or_ge R n with h | h
      · exfalso
        have x1 := vl_ge (f := r) (n := n) (fun t ht => hr t (by omega)) htop (by omega)
        have x3 : (2147483648 : Nat) ^ R ≤ 2147483648 ^ (n - 1) := Nat.pow_le_pow_right (by decide) (by omega)
        omega
      · exact h
    refine ⟨upd sg s (sgz z), upd le s (nI n), va_cpy r li 0 (s * R) n, ?_, ?_⟩
    · unfold f_S_storeIn
      rw [if_pos (nI_le hnR (by omega))]
      unfold f_N_put
      have hcp : cpb (0 : Int32) (nI s * nI R) (nI n) NP (nS * R) = true := by
        rw [pk_mul]
        unfold cpb
        rw [nI_clamp (show s * R < 2 ^ 31 by omega), nI_clamp (show n < 2 ^ 31 by omega), show (0 : Int32).toNatClampNeg = 0 by decide]
        simp only [Bool.and_eq_true, decide_eq_true_eq]
        exact ⟨by decide, nI_pos (by omega), nI_pos (by omega), by omega, by omega⟩
      rw [hcp, inb_nI hs (by omega), pk_mul, nI_clamp (show s * R < 2 ^ 31 by omega), nI_clamp (show n < 2 ^ 31 by omega), nI_clamp (show s < 2 ^ 31 by omega), show (0 : Int32).toNatClampNeg = 0 by decide]
      rfl
    · intro t ht
      by_cases e : t = s
      · subst e
        rw [zset_s]
        have cp : ∀ i, i < n → va_cpy r li 0 (t * R) n (t * R + i) = r i := by
          intro i hi
          rw [pk_cpy_in (by omega) (by omega)]
          congr 1; omega
        refine nrep_mk (n := n) pk_us pk_us hnR (fun i hi => by rw [cp i hi]; exact hr i (by omega)) (fun i hi => by rw [cp i (by omega)]; exact htop i hi) ?_
        rw [vl_congr n cp, hV]
      · rw [zset_n e]
        refine nrep_keep (hst t ht) (pk_un e) (pk_un e) (fun i hi => ?_)
        refine pk_cpy_out ?_
        rcases Nat.lt_or_gt_of_ne e with a | a
        · have := slot_le (R := R) a
          left; omega
        · have := slot_le (R := R) a
          right; omega
  · intro hz
    have hnR : R < n := by
      rcases Nat.lt_or_ge R n with h | h
      · exact h
      · exfalso
        have x2 := vl_lt r n
        have x3 : (2147483648 : Nat) ^ n ≤ 2147483648 ^ R := Nat.pow_le_pow_right (by decide) h
        omega
    unfold f_S_storeIn
    rw [if_neg (nI_ge hnR (by omega))]
/-- how many limbs a number has -/
def lenz (a : Nat) : Nat := if a = 0 then 0 else a.log2 / 31 + 1
theorem lenz_of {f : Nat → Int32} {n : Nat} (hf : ∀ t, t < n → ¬ f t < 0) (h : ∀ t, t + 1 = n → ¬ f t = 0) : lenz (vl f n) = n := by
  unfold lenz
  rcases Nat.eq_zero_or_pos n with q | q
  · subst q; rw [vl_0]; rfl
  · have g := vl_ge hf h q
    have l := vl_lt f n
    have p : 0 < 2147483648 ^ (n - 1) := Nat.pow_pos (by decide)
    have ne : vl f n ≠ 0 := by omega
    rw [if_neg ne]
    have e1 : (2147483648 : Nat) ^ (n - 1) = 2 ^ (31 * (n - 1)) := by rw [Nat.pow_mul]
    have e2 : (2147483648 : Nat) ^ n = 2 ^ (31 * n) := by rw [Nat.pow_mul]
    have a : (vl f n).log2 < 31 * n := (Nat.log2_lt ne).mpr (by rw [← e2]; exact l)
    have b : 31 * (n - 1) ≤ (vl f n).log2 := (Nat.le_log2 ne).mpr (by rw [← e1]; exact g)
    omega
/-- what is told of a number -/
def ansz (z : Int) (what : Int32) : Int32 := if what = (-2) then sgz z else if what = (-1) then nI (lenz z.natAbs) else if what < 0 then -1 else if nI (lenz z.natAbs) ≤ what then -1 else nI (z.natAbs / 2147483648 ^ what.toNatClampNeg % 2147483648)
theorem vl_digit {f : Nat → Int32} : ∀ {n i : Nat}, (∀ t, t < n → ¬ f t < 0) → i < n → f i = nI (vl f n / 2147483648 ^ i % 2147483648)
  | 0, i, _, h => absurd h (Nat.not_lt_zero i)
  | n + 1, 0, hf, _ => by
    rw [Nat.pow_zero, Nat.div_one, vl_mod, ← nI_cl (hf 0 (by omega))]
  | n + 1, i + 1, hf, h => by
    have ih := @vl_digit (fun t => f (t + 1)) n i (fun t ht => hf (t + 1) (by omega)) (by omega)
    rw [ih, vl_one, Nat.pow_succ, Nat.mul_comm (2147483648 ^ i), ← Nat.div_div_eq_div_mul, Nat.add_mul_div_left _ _ (by decide), Nat.div_eq_of_lt (cl_lt _), Nat.zero_add]
theorem N_tell_ok {R nS s : Nat} {sg le li : Nat → Int32} {z : Int} {what : Int32} (hs : s < nS) (hnS : nS < 1073741824) (hnl : nS * R < 1073741824) (hR : R < 1073741824) (h : nrep R sg le li s z) : f_N_tell (nI R) nS sg nS le (nS * R) li (nI s) what = some (ansz z what) := by
  have hsl := slot_le (R := R) hs
  obtain ⟨len, d1, d2, d3, d4, -⟩ := id h
  obtain ⟨len', l1, l2, l3, l4, l5, -⟩ := nrep_len h
  have : len' = len := by
    rw [d1] at l1
    exact ((nI_eq (by omega) (by omega)).mp l1).symm
  subst this
  have hz : lenz z.natAbs = len' := by rw [← l4]; exact lenz_of (f := fun i => li (s * R + i)) d3 d4
  unfold f_N_tell ansz
  rw [inb_nI hs (by omega), nI_clamp (show s < 2 ^ 31 by omega), l5, d1, hz]
  simp only [cond_true]
  split
  · rfl
  · split
    · rfl
    · split
      · rfl
      · split
        · rfl
        · rename_i h1 h2 h3 h4
          obtain ⟨j, hj, rfl⟩ := nI_of h3
          have hlt : j < len' := by
            rcases Nat.lt_or_ge j len' with q | q
            · exact q
            · exact absurd (nI_le q hj) h4
          rw [N_limbOf_ok (by omega) (by omega), nI_clamp hj, ← l4]
          simp only [Option.bind_some]
          rw [vl_digit (f := fun i => li (s * R + i)) d3 hlt]
