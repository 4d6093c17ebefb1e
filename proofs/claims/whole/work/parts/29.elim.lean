/-! The steps over whole numbers, which program and model both keep; the program's elimination. -/
def mset (M : Nat → Nat → Int) (i j : Nat) (z : Int) : Nat → Nat → Int := fun a b => if a = i ∧ b = j then z else M a b
theorem mset_s {M : Nat → Nat → Int} {i j : Nat} {z : Int} : mset M i j z i j = z := by unfold mset; rw [if_pos ⟨rfl, rfl⟩]
theorem mset_n {M : Nat → Nat → Int} {i j a b : Nat} {z : Int} (h : ¬ (a = i ∧ b = j)) : mset M i j z a b = M a b := by unfold mset; rw [if_neg h]
def minr (M : Nat → Nat → Int) (p : Int) (k i j : Nat) : Int := (M k k * M i j - M i k * M k j) / p
def spJ (R k i : Nat) (p : Int) : Nat → Nat → (Nat → Nat → Int) → Bool × (Nat → Nat → Int)
  | 0, _, M => (true, M)
  | d + 1, j, M => if (minr M p k i j).natAbs < 2147483648 ^ R then spJ R k i p d (j + 1) (mset M i j (minr M p k i j)) else (false, M)
def spI (R k n : Nat) (p : Int) : Nat → Nat → (Nat → Nat → Int) → Bool × (Nat → Nat → Int)
  | 0, _, M => (true, M)
  | d + 1, i, M => if (spJ R k i p (n - k) (k + 1) M).1 = true then spI R k n p d (i + 1) (spJ R k i p (n - k) (k + 1) M).2 else (false, (spJ R k i p (n - k) (k + 1) M).2)
/-- what the row loop leaves alone -/
theorem spJ_keep {R k i : Nat} {p : Int} : ∀ (d j : Nat) (M : Nat → Nat → Int) (a b : Nat), (¬ a = i ∨ b < j) → (spJ R k i p d j M).2 a b = M a b
  | 0, j, M, a, b, _ => by rw [spJ]
  | d + 1, j, M, a, b, h => by
    rw [spJ]
    split
    · rw [spJ_keep d (j + 1) _ a b (by omega), mset_n (by omega)]
    · rfl
theorem spI_keep {R k n : Nat} {p : Int} : ∀ (d i : Nat) (M : Nat → Nat → Int) (a b : Nat), (a < i ∨ b ≤ k) → (spI R k n p d i M).2 a b = M a b
  | 0, i, M, a, b, _ => by rw [spI]
  | d + 1, i, M, a, b, h => by
    rw [spI]
    split
    · rw [spI_keep d (i + 1) _ a b (by omega), spJ_keep _ _ _ a b (by omega)]
    · rw [spJ_keep _ _ _ a b (by omega)]
/-- the matrix's slots by the rows' places: Z says M -/
def cm (n : Nat) (rw : Nat → Nat) (Z : Nat → Int) (M : Nat → Nat → Int) : Prop := ∀ a, a < n → ∀ b, b ≤ n → Z (rw a * (n + 1) + b) = M a b
def rok (n : Nat) (ra : Nat → Int32) (rw : Nat → Nat) : Prop := (∀ t, t < n → ra t = nI (rw t) ∧ rw t < n) ∧ ∀ a b, a < n → b < n → rw a = rw b → a = b
theorem cell_inj {n a b c d : Nat} (hb : b ≤ n) (hd : d ≤ n) (h : a * (n + 1) + b = c * (n + 1) + d) : a = c ∧ b = d := by
  rcases Nat.lt_trichotomy a c with q | q | q
  · have := slot_le (R := n + 1) q
    omega
  · subst q; exact ⟨rfl, by omega⟩
  · have := slot_le (R := n + 1) q
    omega
theorem cm_set {n i j : Nat} {ra : Nat → Int32} {rw : Nat → Nat} {Z : Nat → Int} {M : Nat → Nat → Int} {z : Int} (hr : rok n ra rw) (hi : i < n) (hj : j ≤ n) (h : cm n rw Z M) : cm n rw (zset Z (rw i * (n + 1) + j) z) (mset M i j z) := by
  intro a ha b hb
  by_cases e : a = i ∧ b = j
  · obtain ⟨rfl, rfl⟩ := e
    rw [zset_s, mset_s]
  · rw [mset_n e, zset_n, h a ha b hb]
    intro q
    obtain ⟨q1, q2⟩ := cell_inj hb hj q
    exact e ⟨hr.2 a i ha hi q1, q2⟩
theorem M_elim_L48_ok (K : Nat) {n R kk i : Nat} {p : Int} {ra : Nat → Int32} {rw : Nat → Nat} (hn : n ≤ 6) (hR : R ≤ 16) (hR0 : 0 < R) (hK : 200 < K) (hk : kk < i) (hi : i < n) (hr : rok n ra rw) (hp0 : p ≠ 0) :
    ∀ (d f j : Nat) (M : Nat → Nat → Int) (Z : Nat → Int) (sg le li pl mi dv : Nat → Int32) (ss sl : Int32), kk < j → j + d = n + 1 → d < f → nst R (n * (n + 1)) sg le li Z → cm n rw Z M → p = (if kk = 0 then 1 else M (kk - 1) (kk - 1)) → (∀ c, j ≤ c → c ≤ n → p ∣ M kk kk * M i c - M i kk * M kk c) →
    ∃ (b : Bool) (v v4 ss' sl' : Int32) (sg' le' li' pl' mi' dv' : Nat → Int32) (Z' : Nat → Int), f_M_eliminateColumn_L48 K (nI kk) (nI i) (nI n) (nI R) (n * (n + 1)) (n * (n + 1)) (n * (n + 1) * R) (nI R) (2 * R + 1) (2 * R + 1) R n ra f (nI j) sg le li ss sl pl mi dv = some (b, v, v4, sg', le', li', ss', sl', pl', mi', dv') ∧ (b = !(spJ R kk i p d j M).1) ∧ (b = true → v = 3) ∧ nst R (n * (n + 1)) sg' le' li' Z' ∧ cm n rw Z' (spJ R kk i p d j M).2 := by
  intro d
  induction d with
  | zero =>
    intro f j M Z sg le li pl mi dv ss sl hkj hj hf hst hcm hp hdiv
    obtain ⟨f, rfl⟩ : ∃ j', f = j' + 1 := ⟨f - 1, by omega⟩
    refine ⟨false, 0, nI j, ss, sl, sg, le, li, pl, mi, dv, Z, ?_, ?_, fun h => absurd h (by decide), hst, ?_⟩
    · rw [f_M_eliminateColumn_L48, if_pos (nI_lt (show n < j by omega) (by omega))]
    · rw [spJ]; rfl
    · rw [spJ]; exact hcm
  | succ d ih =>
    intro f j M Z sg le li pl mi dv ss sl hkj hj hf hst hcm hp hdiv
    obtain ⟨f, rfl⟩ : ∃ j', f = j' + 1 := ⟨f - 1, by omega⟩
    obtain ⟨z, hz⟩ := hdiv j (Nat.le_refl j) (by omega)
    have hmz : minr M p kk i j = z := by unfold minr; rw [hz, Int.mul_ediv_cancel_left _ hp0]
    obtain ⟨x, ss', sl', sg', le', li', pl', mi', dv', h1, h2⟩ := M_makeMinor_ok K (n := n) (R := R) (kk := kk) (i := i) (j := j) (Z := Z) (z := z) (sg := sg) (le := le) (li := li) (pl := pl) (mi := mi) (dv := dv) (ra := ra) (rw := rw) hn hR hR0 hK (by omega) hi (by omega) hr.1 hst (by
      by_cases h0 : kk = 0
      · exact Or.inl h0
      · right
        rw [hcm (kk - 1) (by omega) (kk - 1) (by omega)]
        rw [if_neg h0] at hp
        rw [← hp]; exact hp0) (by
      rw [hcm kk (by omega) kk (by omega), hcm i hi j (by omega), hcm i hi kk (by omega), hcm kk (by omega) j (by omega), hz, hp]
      congr 1
      by_cases h0 : kk = 0
      · rw [if_pos h0, if_pos h0]
      · rw [if_neg h0, if_neg h0, hcm (kk - 1) (by omega) (kk - 1) (by omega)])
    rw [spJ, hmz]
    rcases h2 with ⟨hx, hlt, hn2⟩ | ⟨hx, hlt, e1, e2, e3⟩
    · rw [if_pos hlt]
      obtain ⟨b, v, v4, ss2, sl2, sg2, le2, li2, pl2, mi2, dv2, Z2, g1, g2, g3, g4, g5⟩ := ih f (j + 1) (mset M i j z) (zset Z (rw i * (n + 1) + j) z) sg' le' li' pl' mi' dv' ss' sl' (by omega) (by omega) (by omega) hn2 (cm_set hr hi (by omega) hcm) (by
        rw [hp]
        by_cases h0 : kk = 0
        · rw [if_pos h0, if_pos h0]
        · rw [if_neg h0, if_neg h0, mset_n (by omega)]) (by
        intro c hc1 hc2
        rw [mset_n (by omega), mset_n (by omega), mset_n (by omega), mset_n (by omega)]
        exact hdiv c (by omega) hc2)
      refine ⟨b, v, v4, ss2, sl2, sg2, le2, li2, pl2, mi2, dv2, Z2, ?_, g2, g3, g4, g5⟩
      rw [f_M_eliminateColumn_L48, if_neg (nI_nlt (show j ≤ n by omega) (by omega)), h1]
      simp only [Option.bind_some]
      rw [if_neg (by rw [hx]; decide), nI_1]
      exact g1
    · rw [if_neg hlt]
      subst e1; subst e2; subst e3
      refine ⟨true, 3, nI j, ss', sl', sg', le', li', pl', mi', dv', Z, ?_, rfl, fun _ => rfl, hst, hcm⟩
      rw [f_M_eliminateColumn_L48, if_neg (nI_nlt (show j ≤ n by omega) (by omega)), h1]
      simp only [Option.bind_some]
      rw [if_pos hx]
theorem M_elim_L35_ok (K : Nat) {n R kk : Nat} {p : Int} {ra : Nat → Int32} {rw : Nat → Nat} (hn : n ≤ 6) (hR : R ≤ 16) (hR0 : 0 < R) (hK : 200 < K) (hkn : kk < n) (hr : rok n ra rw) (hp0 : p ≠ 0) :
    ∀ (d f i : Nat) (M : Nat → Nat → Int) (Z : Nat → Int) (sg le li pl mi dv : Nat → Int32) (ss sl : Int32), kk < i → i + d = n → d < f → nst R (n * (n + 1)) sg le li Z → cm n rw Z M → p = (if kk = 0 then 1 else M (kk - 1) (kk - 1)) → (∀ a, i ≤ a → a < n → ∀ c, kk < c → c ≤ n → p ∣ M kk kk * M a c - M a kk * M kk c) →
    ∃ (b : Bool) (v v3 ss' sl' : Int32) (sg' le' li' pl' mi' dv' : Nat → Int32) (Z' : Nat → Int), f_M_eliminateColumn_L35 K (nI kk) (nI n) (nI R) (n * (n + 1)) (n * (n + 1)) (n * (n + 1) * R) (nI R) (2 * R + 1) (2 * R + 1) R n ra f (nI i) sg le li ss sl pl mi dv = some (b, v, v3, sg', le', li', ss', sl', pl', mi', dv') ∧ (b = !(spI R kk n p d i M).1) ∧ (b = true → v = 3) ∧ nst R (n * (n + 1)) sg' le' li' Z' ∧ cm n rw Z' (spI R kk n p d i M).2 := by
  intro d
  induction d with
  | zero =>
    intro f i M Z sg le li pl mi dv ss sl hki hi hf hst hcm hp hdiv
    obtain ⟨f, rfl⟩ : ∃ j', f = j' + 1 := ⟨f - 1, by omega⟩
    refine ⟨false, 0, nI i, ss, sl, sg, le, li, pl, mi, dv, Z, ?_, ?_, fun h => absurd h (by decide), hst, ?_⟩
    · rw [f_M_eliminateColumn_L35, if_pos (nI_le (show n ≤ i by omega) (by omega))]
    · rw [spI]; rfl
    · rw [spI]; exact hcm
  | succ d ih =>
    intro f i M Z sg le li pl mi dv ss sl hki hi hf hst hcm hp hdiv
    obtain ⟨f, rfl⟩ : ∃ j', f = j' + 1 := ⟨f - 1, by omega⟩
    obtain ⟨b, v, v4, ss1, sl1, sg1, le1, li1, pl1, mi1, dv1, Z1, h1, h2, h3, h4, h5⟩ := M_elim_L48_ok K (n := n) (R := R) (kk := kk) (i := i) (p := p) (ra := ra) (rw := rw) hn hR hR0 hK hki (by omega) hr hp0 (n - kk) K (kk + 1) M Z sg le li pl mi dv ss sl (by omega) (by omega) (by omega) hst hcm hp (fun c hc1 hc2 => hdiv i (Nat.le_refl i) (by omega) c (by omega) hc2)
    rw [spI]
    by_cases hb : (spJ R kk i p (n - kk) (kk + 1) M).1 = true
    · rw [if_pos hb]
      rw [hb] at h2
      have hbf : b = false := h2
      have keep := fun (a c : Nat) (h : ¬ a = i ∨ c < kk + 1) => spJ_keep (R := R) (k := kk) (i := i) (p := p) (n - kk) (kk + 1) M a c h
      obtain ⟨b2, v2, v3, ss2, sl2, sg2, le2, li2, pl2, mi2, dv2, Z2, g1, g2, g3, g4, g5⟩ := ih f (i + 1) _ Z1 sg1 le1 li1 pl1 mi1 dv1 ss1 sl1 (by omega) (by omega) (by omega) h4 h5 (by
        by_cases h0 : kk = 0
        · rw [if_pos h0] at hp ⊢; exact hp
        · rw [if_neg h0] at hp ⊢; rw [keep (kk - 1) (kk - 1) (by omega)]; exact hp) (by
        intro a ha1 ha2 c hc1 hc2
        rw [keep kk kk (by omega), keep a c (by omega), keep a kk (by omega), keep kk c (by omega)]
        exact hdiv a (by omega) ha2 c hc1 hc2)
      refine ⟨b2, v2, v3, ss2, sl2, sg2, le2, li2, pl2, mi2, dv2, Z2, ?_, g2, g3, g4, g5⟩
      rw [f_M_eliminateColumn_L35, if_neg (nI_ge (show i < n by omega) (by omega)), nI_1, h1]
      simp only [Option.bind_some]
      rw [if_neg (by rw [hbf]; decide), nI_1]
      exact g1
    · rw [if_neg hb]
      have hbt : b = true := by rw [h2]; cases hq : (spJ R kk i p (n - kk) (kk + 1) M).1 with
        | false => rfl
        | true => exact absurd hq hb
      refine ⟨true, v, 0, ss1, sl1, sg1, le1, li1, pl1, mi1, dv1, Z1, ?_, rfl, fun _ => h3 hbt, h4, h5⟩
      rw [f_M_eliminateColumn_L35, if_neg (nI_ge (show i < n by omega) (by omega)), nI_1, h1]
      simp only [Option.bind_some]
      rw [if_pos hbt]
