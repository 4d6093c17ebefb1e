/-! Pure: the program's sums of products over limbs. -/
/-- the sign of a number, as the program tells it -/
def sgz (z : Int) : Int32 := if z = 0 then 0 else if 0 < z then 1 else -1
theorem sgz_0 : sgz 0 = 0 := rfl
theorem sgz_p {z : Int} (h : 0 < z) : sgz z = 1 := by unfold sgz; rw [if_neg (by omega), if_pos h]
theorem sgz_n {z : Int} (h : z < 0) : sgz z = -1 := by unfold sgz; rw [if_neg (by omega), if_neg (by omega)]
theorem sgz_toInt (z : Int) : (sgz z).toInt = if z = 0 then 0 else if 0 < z then 1 else -1 := by
  unfold sgz
  split
  · rfl
  · split <;> rfl
theorem vl_set {f : Nat → Int32} {k : Nat} {x : Int32} : ∀ {n : Nat}, k < n → vl (upd f k x) n + (f k).toNatClampNeg * 2147483648 ^ k = vl f n + x.toNatClampNeg * 2147483648 ^ k
  | 0, h => absurd h (Nat.not_lt_zero k)
  | n + 1, h => by
    rw [vl_s, vl_s]
    by_cases e : k = n
    · subst e
      rw [vl_upd (Nat.le_refl k), pk_us]
      omega
    · have ih := @vl_set f k x n (by omega)
      rw [pk_un (fun q => e q.symm)]
      omega
theorem toI_nn {x : Int32} (h : ¬ x < 0) : x.toInt64.toInt = (x.toNatClampNeg : Int) := by rw [l_of, cl_toInt h]
theorem nI_nn {n : Nat} (h : n < 2147483648) : ¬ nI n < 0 := nI_pos (by omega)
theorem nI_le_self {n : Nat} : nI n ≤ nI n := Int32.le_refl _
/-- one limb of a sum with carry: nothing is lost -/
theorem lim_step {c v : Int64} {s g : Int32} {cn w : Nat} (hc : c.toInt = cn) (hcB : cn < 2147483648) (hv : v.toInt = w) (hw : w < 2147483648) (hs : ¬ s < 0) (hg : ¬ g < 0) :
    (c + (s.toInt64 + v * g.toInt64)).toInt = ((cn + (s.toNatClampNeg + w * g.toNatClampNeg) : Nat) : Int) ∧ cn + (s.toNatClampNeg + w * g.toNatClampNeg) < 4611686018427387904 := by
  have a := cl_lt s
  have b := cl_lt g
  have m : w * g.toNatClampNeg ≤ 2147483647 * 2147483647 := Nat.mul_le_mul (by omega) (by omega)
  have e1 : (v * g.toInt64).toInt = ((w * g.toNatClampNeg : Nat) : Int) := by
    have : v.toInt * g.toInt64.toInt = ((w * g.toNatClampNeg : Nat) : Int) := by rw [hv, toI_nn hg]; push_cast; rfl
    rw [l_mul (by rw [this]; omega) (by rw [this]; omega), this]
  have e2 : (s.toInt64 + v * g.toInt64).toInt = ((s.toNatClampNeg + w * g.toNatClampNeg : Nat) : Int) := by
    rw [l_add (by rw [toI_nn hs, e1]; omega) (by rw [toI_nn hs, e1]; omega), toI_nn hs, e1]; push_cast; rfl
  refine ⟨?_, by omega⟩
  rw [l_add (by rw [hc, e2]; omega) (by rw [hc, e2]; omega), hc, e2]; push_cast; rfl
theorem cut_low {t : Int64} {n : Nat} (h : t.toInt = n) : (t &&& 2147483647).toInt32 = nI (n % 2147483648) := by
  rw [l_low, h]
  congr 1
theorem cut_high {t : Int64} {n : Nat} (h : t.toInt = n) : (t >>> ((31 : Int32).toInt64 &&& 63)).toInt = ((n / 2147483648 : Nat) : Int) := by
  rw [l_shr, h]; omega
theorem mod_lt31 (n : Nat) : n % 2147483648 < 2147483648 := Nat.mod_lt _ (by decide)
theorem carry_alg {V V1 P s n cn wg hi lo : Nat} (hv : V1 + s * P = V + lo * P) (hn : cn + (s + wg) = n) (hd : 2147483648 * hi + lo = n) : V1 + hi * (P * 2147483648) = V + cn * P + wg * P := by
  have k2 : n * P = (2147483648 * hi) * P + lo * P := by rw [← Nat.add_mul, hd]
  have k4 : n * P = cn * P + (s * P + wg * P) := by rw [← hn, Nat.add_mul, Nat.add_mul]
  have k3 : (2147483648 * hi) * P = hi * (P * 2147483648) := by rw [Nat.mul_comm 2147483648 hi, Nat.mul_assoc, Nat.mul_comm 2147483648 P]
  omega
theorem S_addMultiple_L13_ok (K : Nat) {a lb N nl w : Nat} {v3 i0 : Int32} {v4 : Int64} {ab g : Nat → Int32} (hN : N < 2147483648) (hw : v4.toInt = w) (hwB : w < 2147483648) (hfit : a + lb ≤ N) (hg : ∀ i, i < lb → f_N_limbOf i0 nl ab v3 (nI i) = some (g i) ∧ ¬ g i < 0) :
    ∀ (d j i cn : Nat) (c : Int64) (r : Nat → Int32), i + d = lb → d < j → c.toInt = cn → cn < 2147483648 → (∀ t, t < N → ¬ r t < 0) →
    ∃ (c' : Int64) (r' : Nat → Int32) (cn' : Nat), f_S_addMultiple_L13 K (nI a) v3 v4 (nI lb) N i0 nl ab j c (nI i) r = some (c', nI lb, r') ∧ c'.toInt = cn' ∧ cn' < 2147483648 ∧ (∀ t, t < N → ¬ r' t < 0) ∧ vl r' N + cn' * 2147483648 ^ (a + lb) + w * 2147483648 ^ a * vl g i = vl r N + cn * 2147483648 ^ (a + i) + w * 2147483648 ^ a * vl g lb := by
  intro d
  induction d with
  | zero =>
    intro j i cn c r hi hj hc hcB hr
    obtain ⟨j, rfl⟩ : ∃ j', j = j' + 1 := ⟨j - 1, by omega⟩
    have : i = lb := by omega
    subst this
    refine ⟨c, r, cn, ?_, hc, hcB, hr, rfl⟩
    rw [f_S_addMultiple_L13, if_pos nI_le_self]
  | succ d ih =>
    intro j i cn c r hi hj hc hcB hr
    obtain ⟨j, rfl⟩ : ∃ j', j = j' + 1 := ⟨j - 1, by omega⟩
    have hlt : i < lb := by omega
    obtain ⟨e1, e2⟩ := hg i hlt
    have hin : inb (nI a + nI i) N = true := by rw [nI_add]; exact inb_nI (by omega) (by omega)
    have hcl : (nI a + nI i).toNatClampNeg = a + i := by rw [nI_add]; exact nI_clamp (by omega)
    rw [f_S_addMultiple_L13, if_neg (nI_ge hlt (by omega)), hin, e1, hcl, nI_1]
    simp only [cond_true, Option.bind_some]
    have hs := hr (a + i) (by omega)
    obtain ⟨q1, q2⟩ := lim_step (v := v4) hc hcB hw hwB hs e2
    generalize hT : c + ((r (a + i)).toInt64 + v4 * (g i).toInt64) = T at q1
    generalize hn : cn + ((r (a + i)).toNatClampNeg + w * (g i).toNatClampNeg) = n at q1 q2
    rw [cut_low q1]
    have hr' : ∀ t, t < N → ¬ upd r (a + i) (nI (n % 2147483648)) t < 0 := by
      intro t ht
      by_cases e : t = a + i
      · rw [e, pk_us]; exact nI_nn (mod_lt31 n)
      · rw [pk_un e]; exact hr t ht
    obtain ⟨c', r', cn', h1, h2, h3, h4, h5⟩ := ih j (i + 1) (n / 2147483648) _ _ (by omega) (by omega) (cut_high q1) (by omega) hr'
    refine ⟨c', r', cn', h1, h2, h3, h4, ?_⟩
    have hv := @vl_set r (a + i) (nI (n % 2147483648)) N (by omega)
    rw [cl_nI (mod_lt31 n)] at hv
    rw [vl_s, ← Nat.add_assoc, Nat.pow_succ] at h5
    have e3 : (2147483648 : Nat) ^ (a + i) = 2147483648 ^ a * 2147483648 ^ i := Nat.pow_add ..
    have k0 := carry_alg hv hn (Nat.div_add_mod n 2147483648)
    have k1 : w * 2147483648 ^ a * ((g i).toNatClampNeg * 2147483648 ^ i) = w * (g i).toNatClampNeg * 2147483648 ^ (a + i) := by rw [e3]; ac_rfl
    rw [Nat.mul_add, k1] at h5
    omega
theorem lg0_iff {x : Int64} : lg_cmp x (0 : Int64) = 0 ↔ x.toInt = 0 := by
  unfold lg_cmp
  simp only [gt_iff_lt, Int64.lt_iff_toInt_lt, ← Int64.toInt_inj]
  have : (0 : Int64).toInt = 0 := rfl
  rw [this]
  split
  · constructor
    · intro h; exact absurd h (by decide)
    · intro h; omega
  · split
    · constructor
      · intro _; assumption
      · intro _; rfl
    · constructor
      · intro h; exact absurd h (by decide)
      · intro h; omega
theorem lim_step1 {c : Int64} {s : Int32} {cn : Nat} (hc : c.toInt = cn) (hcB : cn < 2147483648) (hs : ¬ s < 0) : (c + s.toInt64).toInt = ((cn + (s.toNatClampNeg + 0) : Nat) : Int) ∧ cn + (s.toNatClampNeg + 0) < 4294967296 := by
  have a := cl_lt s
  refine ⟨?_, by omega⟩
  rw [l_add (by rw [hc, toI_nn hs]; omega) (by rw [hc, toI_nn hs]; omega), hc, toI_nn hs]; push_cast; rfl
theorem S_addMultiple_L76_ok (K : Nat) {N : Nat} (hN : N < 2147483648) :
    ∀ (d j i cn : Nat) (c : Int64) (r : Nat → Int32), i + d = N → d < j → c.toInt = cn → cn < 2147483648 → (∀ t, t < N → ¬ r t < 0) → vl r N + cn * 2147483648 ^ i < 2147483648 ^ N →
    ∃ (c' : Int64) (i' : Int32) (r' : Nat → Int32), f_S_addMultiple_L76 K N j c (nI i) r = some (c', i', r') ∧ (∀ t, t < N → ¬ r' t < 0) ∧ vl r' N = vl r N + cn * 2147483648 ^ i := by
  intro d
  induction d with
  | zero =>
    intro j i cn c r hi hj hc hcB hr hV
    obtain ⟨j, rfl⟩ : ∃ j', j = j' + 1 := ⟨j - 1, by omega⟩
    have : i = N := by omega
    subst this
    have h0 : cn = 0 := by
      rcases Nat.eq_zero_or_pos cn with h | h
      · exact h
      · have : 1 * 2147483648 ^ i ≤ cn * 2147483648 ^ i := Nat.mul_le_mul_right _ h
        omega
    subst h0
    refine ⟨c, nI i, r, ?_, hr, by simp⟩
    rw [f_S_addMultiple_L76, if_pos (lg0_iff.mpr (by rw [hc]; rfl))]
  | succ d ih =>
    intro j i cn c r hi hj hc hcB hr hV
    obtain ⟨j, rfl⟩ : ∃ j', j = j' + 1 := ⟨j - 1, by omega⟩
    by_cases h0 : cn = 0
    · subst h0
      refine ⟨c, nI i, r, ?_, hr, by simp⟩
      rw [f_S_addMultiple_L76, if_pos (lg0_iff.mpr (by rw [hc]; rfl))]
    · have hlt : i < N := by omega
      have hcl : (nI i).toNatClampNeg = i := nI_clamp (by omega)
      rw [f_S_addMultiple_L76, if_neg (fun h => h0 (by have := lg0_iff.mp h; rw [hc] at this; omega)), if_neg (nI_ge hlt (by omega)), inb_nI hlt (by omega), hcl, nI_1]
      simp only [cond_true]
      have hs := hr i hlt
      obtain ⟨q1, q2⟩ := lim_step1 hc hcB hs
      generalize hT : c + (r i).toInt64 = T at q1
      generalize hn : cn + ((r i).toNatClampNeg + 0) = n at q1 q2
      rw [cut_low q1]
      have hr' : ∀ t, t < N → ¬ upd r i (nI (n % 2147483648)) t < 0 := by
        intro t ht
        by_cases e : t = i
        · rw [e, pk_us]; exact nI_nn (mod_lt31 n)
        · rw [pk_un e]; exact hr t ht
      have hv := @vl_set r i (nI (n % 2147483648)) N (by omega)
      rw [cl_nI (mod_lt31 n)] at hv
      have k0 := carry_alg hv hn (Nat.div_add_mod n 2147483648)
      rw [Nat.zero_mul, Nat.add_zero, ← Nat.pow_succ] at k0
      obtain ⟨c', i', r', h1, h4, h5⟩ := ih j (i + 1) (n / 2147483648) _ _ (by omega) (by omega) (cut_high q1) (by omega) hr' (by rw [k0]; exact hV)
      exact ⟨c', i', r', h1, h4, by rw [h5, k0]⟩
/-- addMultiple: the row grows by the word times the number, from a place on -/
theorem S_addMultiple_ok (K : Nat) {a lb N nl nlen w : Nat} {sb i0 : Int32} {v4 : Int64} {ab al g r : Nat → Int32} (hN : N < 2147483648) (hK : N < K) (hw : v4.toInt = w) (hwB : w < 2147483648) (hfit : a + lb ≤ N) (hlen : f_N_lengthOf nlen al sb = some (nI lb)) (hg : ∀ i, i < lb → f_N_limbOf i0 nl ab sb (nI i) = some (g i) ∧ ¬ g i < 0) (hr : ∀ t, t < N → ¬ r t < 0) (hV : vl r N + w * 2147483648 ^ a * vl g lb < 2147483648 ^ N) :
    ∃ r' : Nat → Int32, f_S_addMultiple K N r (nI a) i0 nlen al nl ab sb v4 = some r' ∧ (∀ t, t < N → ¬ r' t < 0) ∧ vl r' N = vl r N + w * 2147483648 ^ a * vl g lb := by
  obtain ⟨c, r1, cn, h1, h2, h3, h4, h5⟩ := S_addMultiple_L13_ok K (a := a) (w := w) (v4 := v4) hN hw hwB hfit hg lb K 0 0 0 r (by omega) (by omega) rfl (by decide) hr
  rw [vl_0, Nat.mul_zero, Nat.zero_mul, Nat.add_zero, Nat.add_zero] at h5
  obtain ⟨c', i', r', g1, g2, g3⟩ := S_addMultiple_L76_ok K (N := N) hN (N - (a + lb)) K (a + lb) cn c r1 (by omega) (by omega) h2 h3 h4 (by rw [h5]; exact hV)
  refine ⟨r', ?_, g2, by rw [g3, h5]⟩
  unfold f_S_addMultiple
  rw [hlen]
  simp only [Option.bind_some]
  rw [show (0 : Int32) = nI 0 from rfl, h1]
  simp only [Option.bind_some]
  rw [nI_add, g1]
  rfl
theorem S_addProduct_L44b_eq {k : Nat} {v2 v4 : Int32} {N : Nat} {i0 i1 : Int32} {nal nli nbl nlb : Nat} {al ali bl bli : Nat → Int32} : ∀ (j : Nat) (v : Int32) (r : Nat → Int32), f_S_addProduct_L44b k v2 v4 N i0 nal al nli ali i1 nbl bl nlb bli j v r = f_S_addProduct_L44 k v2 v4 N i0 nal al nli ali i1 nbl bl nlb bli j v r
  | 0, v, r => by rw [f_S_addProduct_L44b, f_S_addProduct_L44]
  | j + 1, v, r => by
    rw [f_S_addProduct_L44b, f_S_addProduct_L44]
    simp only [S_addProduct_L44b_eq j]
theorem S_addProductSame_L44_eq {k : Nat} {v2 v4 : Int32} {N : Nat} {i0 : Int32} {nal nli : Nat} {al ali : Nat → Int32} : ∀ (j : Nat) (v : Int32) (r : Nat → Int32), f_S_addProductSame_L44 k v2 v4 N i0 nal al nli ali j v r = f_S_addProduct_L44 k v2 v4 N i0 nal al nli ali i0 nal al nli ali j v r
  | 0, v, r => by rw [f_S_addProductSame_L44, f_S_addProduct_L44]
  | j + 1, v, r => by
    rw [f_S_addProductSame_L44, f_S_addProduct_L44]
    simp only [S_addProductSame_L44_eq j]
theorem S_addProductSame_L44b_eq {k : Nat} {v2 v4 : Int32} {N : Nat} {i0 : Int32} {nal nli : Nat} {al ali : Nat → Int32} : ∀ (j : Nat) (v : Int32) (r : Nat → Int32), f_S_addProductSame_L44b k v2 v4 N i0 nal al nli ali j v r = f_S_addProduct_L44 k v2 v4 N i0 nal al nli ali i0 nal al nli ali j v r
  | 0, v, r => by rw [f_S_addProductSame_L44b, f_S_addProduct_L44]
  | j + 1, v, r => by
    rw [f_S_addProductSame_L44b, f_S_addProduct_L44]
    simp only [S_addProductSame_L44b_eq j]
theorem S_addProductSame_eq {k Np Nm : Nat} {pl mi : Nat → Int32} {i0 : Int32} {ns nal nli : Nat} {sg al ali : Nat → Int32} {sA sB fa : Int32} : f_S_addProductSame k Np pl Nm mi i0 ns sg nal al nli ali sA sB fa = f_S_addProduct k Np pl Nm mi i0 ns sg nal al nli ali sA i0 ns sg nal al nli ali sB fa := by
  unfold f_S_addProductSame f_S_addProduct
  simp only [S_addProductSame_L44_eq, S_addProductSame_L44b_eq, S_addProduct_L44b_eq]
/-- the loop over a number's limbs: the row grows by the product -/
theorem S_addProduct_L44_ok (K : Nat) {N la lb nal nla nbl nlb : Nat} {sA sB i0 i1 : Int32} {al ali bl bli ga gb : Nat → Int32} (hN : N < 2147483648) (hK : N < K) (hfit : la + lb ≤ N) (hlenA : f_N_lengthOf nal al sA = some (nI la)) (hlenB : f_N_lengthOf nbl bl sB = some (nI lb)) (hga : ∀ i, i < la → f_N_limbOf i0 nla ali sA (nI i) = some (ga i) ∧ ¬ ga i < 0) (hgb : ∀ i, i < lb → f_N_limbOf i1 nlb bli sB (nI i) = some (gb i) ∧ ¬ gb i < 0) :
    ∀ (d j i : Nat) (r : Nat → Int32), i + d = la → d < j → (∀ t, t < N → ¬ r t < 0) → vl r N + vl ga la * vl gb lb < 2147483648 ^ N + vl ga i * vl gb lb →
    ∃ r' : Nat → Int32, f_S_addProduct_L44 K sA sB N i0 nal al nla ali i1 nbl bl nlb bli j (nI i) r = some (nI la, r') ∧ (∀ t, t < N → ¬ r' t < 0) ∧ vl r' N + vl ga i * vl gb lb = vl r N + vl ga la * vl gb lb := by
  intro d
  induction d with
  | zero =>
    intro j i r hi hj hr hV
    obtain ⟨j, rfl⟩ : ∃ j', j = j' + 1 := ⟨j - 1, by omega⟩
    have : i = la := by omega
    subst this
    refine ⟨r, ?_, hr, rfl⟩
    rw [f_S_addProduct_L44, hlenA]
    simp only [Option.bind_some]
    rw [if_pos nI_le_self]
  | succ d ih =>
    intro j i r hi hj hr hV
    obtain ⟨j, rfl⟩ : ∃ j', j = j' + 1 := ⟨j - 1, by omega⟩
    have hlt : i < la := by omega
    obtain ⟨e1, e2⟩ := hga i hlt
    have mono : vl ga (i + 1) ≤ vl ga la := by
      have := vl_app ga (i + 1) (la - (i + 1))
      rw [show i + 1 + (la - (i + 1)) = la by omega] at this
      omega
    have mono2 : vl ga (i + 1) * vl gb lb ≤ vl ga la * vl gb lb := Nat.mul_le_mul_right _ mono
    have hs : vl ga (i + 1) * vl gb lb = vl ga i * vl gb lb + (ga i).toNatClampNeg * 2147483648 ^ i * vl gb lb := by rw [vl_s, Nat.add_mul]
    obtain ⟨r1, h1, h2, h3⟩ := S_addMultiple_ok K (a := i) (w := (ga i).toNatClampNeg) (v4 := (ga i).toInt64) (r := r) hN hK (toI_nn e2) (cl_lt _) (by omega) hlenB hgb hr (by omega)
    obtain ⟨r', g1, g2, g3⟩ := ih j (i + 1) r1 (by omega) (by omega) h2 (by omega)
    refine ⟨r', ?_, g2, by omega⟩
    rw [f_S_addProduct_L44, hlenA]
    simp only [Option.bind_some]
    rw [if_neg (nI_ge hlt (by omega)), e1]
    simp only [Option.bind_some]
    rw [h1]
    simp only [Option.bind_some]
    rw [nI_1, g1]
/-- a number in a slot: its sign, its length, its limbs -/
def nrep (R : Nat) (sg le li : Nat → Int32) (s : Nat) (z : Int) : Prop := ∃ len : Nat, le s = nI len ∧ len ≤ R ∧ (∀ i, i < len → ¬ li (s * R + i) < 0) ∧ (∀ i, i + 1 = len → ¬ li (s * R + i) = 0) ∧ ((sg s = 0 ∧ len = 0 ∧ z = 0) ∨ (sg s = 1 ∧ 0 < len ∧ z = (vl (fun i => li (s * R + i)) len : Nat)) ∨ (sg s = -1 ∧ 0 < len ∧ z = -((vl (fun i => li (s * R + i)) len : Nat) : Int)))
theorem N_signOf_ok {n s : Nat} {sg : Nat → Int32} (h : s < n) (hn : n < 2147483648) : f_N_signOf n sg (nI s) = some (sg s) := by
  unfold f_N_signOf
  rw [inb_nI h (by omega), nI_clamp (by omega)]
  rfl
theorem N_lengthOf_ok {n s : Nat} {le : Nat → Int32} (h : s < n) (hn : n < 2147483648) : f_N_lengthOf n le (nI s) = some (le s) := by
  unfold f_N_lengthOf
  rw [inb_nI h (by omega), nI_clamp (by omega)]
  rfl
theorem N_limbOf_ok {n s R i : Nat} {li : Nat → Int32} (h : s * R + i < n) (hn : n < 2147483648) : f_N_limbOf (nI R) n li (nI s) (nI i) = some (li (s * R + i)) := by
  unfold f_N_limbOf
  rw [pk_mul, nI_add, inb_nI h (by omega), nI_clamp (by omega)]
  rfl
theorem nrep_len {R s : Nat} {sg le li : Nat → Int32} {z : Int} (h : nrep R sg le li s z) : ∃ len : Nat, le s = nI len ∧ len ≤ R ∧ (∀ i, i < len → ¬ li (s * R + i) < 0) ∧ vl (fun i => li (s * R + i)) len = z.natAbs ∧ sg s = sgz z ∧ (len = 0 ↔ z = 0) := by
  obtain ⟨len, h1, h2, h3, h4, h5⟩ := h
  refine ⟨len, h1, h2, h3, ?_⟩
  have pos : 0 < len → 0 < vl (fun i => li (s * R + i)) len := by
    intro hl
    obtain ⟨t, rfl⟩ : ∃ t, len = t + 1 := ⟨len - 1, by omega⟩
    rw [vl_s]
    have a := h3 t (by omega)
    have b := h4 t rfl
    have : 0 < (li (s * R + t)).toNatClampNeg := by
      rcases Nat.eq_zero_or_pos (li (s * R + t)).toNatClampNeg with q | q
      · exact absurd (by rw [nI_cl a, q]; rfl) b
      · exact q
    have := Nat.mul_pos this (Nat.pow_pos (n := t) (show 0 < 2147483648 by decide))
    omega
  rcases h5 with ⟨a, b, c⟩ | ⟨a, b, c⟩ | ⟨a, b, c⟩
  · subst b; subst c
    exact ⟨rfl, a, by simp⟩
  · have := pos b
    refine ⟨by omega, ?_, by omega⟩
    rw [a, sgz_p (by omega)]
  · have := pos b
    refine ⟨by omega, ?_, by omega⟩
    rw [a, sgz_n (by omega)]
theorem sgz_mul (a b : Int) : sgz a * sgz b = sgz (a * b) := by
  rcases Int.lt_trichotomy a 0 with h | h | h <;> rcases Int.lt_trichotomy b 0 with g | g | g
  · rw [sgz_n h, sgz_n g, sgz_p (Int.mul_pos_of_neg_of_neg h g)]; rfl
  · subst g; rw [Int.mul_zero, sgz_0]; simp
  · rw [sgz_n h, sgz_p g, sgz_n (Int.mul_neg_of_neg_of_pos h g)]; rfl
  · subst h; rw [Int.zero_mul, sgz_0]; simp
  · subst h; rw [Int.zero_mul, sgz_0]; simp
  · subst h; rw [Int.zero_mul, sgz_0]; simp
  · rw [sgz_p h, sgz_n g, sgz_n (Int.mul_neg_of_pos_of_neg h g)]; rfl
  · subst g; rw [Int.mul_zero, sgz_0]; simp
  · rw [sgz_p h, sgz_p g, sgz_p (Int.mul_pos h g)]; rfl
