/-! The model's numbers: 54 slots of 40 limbs. -/
def rg (f : Nat → Int32) (p : Nat) : Nat → Int32 := fun i => f (40 * p + i)
def off (f' f : Nat → Int32) (p : Nat) : Prop := ∀ t, (t < 40 * p ∨ 40 * p + 40 ≤ t) → f' t = f t
def mnn (f : Nat → Int32) : Prop := ∀ t, t < 2160 → ¬ f t < 0
def mst (f g : Nat → Int32) (Z : Nat → Int) : Prop := mnn f ∧ ∀ p, p < 54 → p ≠ 50 → p ≠ 51 → vl (rg f p) 40 = (Z p).natAbs ∧ g p = sgz (Z p)
theorem rg_off {f f' : Nat → Int32} {p q : Nat} (h : off f' f p) (hq : q ≠ p) : ∀ i, i < 40 → rg f' q i = rg f q i := fun i hi => h _ (by omega)
theorem mnn_off {f f' : Nat → Int32} {p : Nat} (h : mnn f) (ho : off f' f p) (hn : ∀ i, i < 40 → ¬ f' (40 * p + i) < 0) : mnn f' := by
  intro t ht
  by_cases e : t < 40 * p ∨ 40 * p + 40 ≤ t
  · rw [ho t e]; exact h t ht
  · have := hn (t - 40 * p) (by omega)
    rwa [show 40 * p + (t - 40 * p) = t by omega] at this
theorem mst_set {f f' g g' : Nat → Int32} {Z : Nat → Int} {p : Nat} {z : Int} (h : mst f g Z) (ho : off f' f p) (hn : ∀ i, i < 40 → ¬ f' (40 * p + i) < 0) (hv : vl (rg f' p) 40 = z.natAbs) (hg : g' p = sgz z) (hq : ∀ q, q ≠ p → g' q = g q) : mst f' g' (zset Z p z) := by
  refine ⟨mnn_off h.1 ho hn, fun q h1 h2 h3 => ?_⟩
  by_cases e : q = p
  · subst e; rw [zset_s]; exact ⟨hv, hg⟩
  · rw [zset_n e, vl_congr 40 (rg_off ho e), hq q e]; exact h.2 q h1 h2 h3
theorem mst_scr {f f' g g' : Nat → Int32} {Z : Nat → Int} {p : Nat} (h : mst f g Z) (hp : p = 50 ∨ p = 51) (ho : off f' f p) (hn : ∀ i, i < 40 → ¬ f' (40 * p + i) < 0) (hq : ∀ q, q ≠ p → g' q = g q) : mst f' g' Z := by
  refine ⟨mnn_off h.1 ho hn, fun q h1 h2 h3 => ?_⟩
  rw [vl_congr 40 (rg_off ho (by omega)), hq q (by omega)]; exact h.2 q h1 h2 h3
theorem n40 : (40 : Int32) = nI 40 := rfl
theorem idx40 {p i : Nat} : (40 : Int32) * nI p + nI i = nI (40 * p + i) := by rw [n40, pk_mul, nI_add]
theorem X_clear_L2_ok (K : Nat) {p : Nat} (hp : p < 54) : ∀ (d j i : Nat) (f : Nat → Int32), i + d = 40 → d < j → ∃ (v : Int32) (f' : Nat → Int32), f_X_clear_L2 K (nI p) 2160 j (nI i) f = some (v, f') ∧ off f' f p ∧ (∀ t, t < i → f' (40 * p + t) = f (40 * p + t)) ∧ (∀ t, i ≤ t → t < 40 → f' (40 * p + t) = 0) := by
  intro d
  induction d with
  | zero =>
    intro j i f hi hj
    obtain ⟨j, rfl⟩ : ∃ j', j = j' + 1 := ⟨j - 1, by omega⟩
    exact ⟨nI i, f, by rw [f_X_clear_L2, n40, if_pos (nI_le (show 40 ≤ i by omega) (by omega))], fun _ _ => rfl, fun _ _ => rfl, fun t h1 h2 => by omega⟩
  | succ d ih =>
    intro j i f hi hj
    obtain ⟨j, rfl⟩ : ∃ j', j = j' + 1 := ⟨j - 1, by omega⟩
    obtain ⟨v, f', h1, h2, h3, h4⟩ := ih j (i + 1) (upd f (40 * p + i) 0) (by omega) (by omega)
    refine ⟨v, f', ?_, fun t ht => by rw [h2 t ht, pk_un (by omega)], fun t ht => by rw [h3 t (by omega), pk_un (by omega)], fun t ht1 ht2 => ?_⟩
    · rw [f_X_clear_L2, idx40, inb_nI (show 40 * p + i < 2160 by omega) (by omega), nI_clamp (show 40 * p + i < 2 ^ 31 by omega), n40, if_neg (nI_ge (show i < 40 by omega) (by omega)), nI_1]
      exact h1
    · by_cases e : t = i
      · rw [h3 t (by omega), e, pk_us]
      · exact h4 t (by omega) ht2
theorem X_clear_ok (K : Nat) {p : Nat} {f g : Nat → Int32} (hp : p < 54) (hK : 200 < K) : ∃ f' : Nat → Int32, f_X_clear K 2160 f 54 g (nI p) = some (f', upd g p 0) ∧ off f' f p ∧ ∀ i, i < 40 → f' (40 * p + i) = 0 := by
  obtain ⟨v, f', h1, h2, _, h4⟩ := X_clear_L2_ok K hp 40 K 0 f (by omega) (by omega)
  refine ⟨f', ?_, h2, fun i hi => h4 i (Nat.zero_le i) hi⟩
  unfold f_X_clear
  rw [show (0 : Int32) = nI 0 from rfl, h1]
  simp only [Option.bind_some]
  rw [inb_nI hp (by omega), nI_clamp (show p < 2 ^ 31 by omega)]
  rfl
theorem X_copy_L2_ok (K : Nat) {a b : Nat} {f0 : Nat → Int32} (ha : a < 54) (hb : b < 54) : ∀ (d j i : Nat) (f : Nat → Int32), i + d = 40 → d < j → off f f0 b → (∀ t, t < i → f (40 * b + t) = f0 (40 * a + t)) → (∀ t, i ≤ t → t < 40 → f (40 * b + t) = f0 (40 * b + t)) → ∃ (v : Int32) (f' : Nat → Int32), f_X_copy_L2 K (nI a) (nI b) 2160 j (nI i) f = some (v, f') ∧ off f' f0 b ∧ (∀ t, t < 40 → f' (40 * b + t) = f0 (40 * a + t)) := by
  intro d
  induction d with
  | zero =>
    intro j i f hi hj ho h1 h2
    obtain ⟨j, rfl⟩ : ∃ j', j = j' + 1 := ⟨j - 1, by omega⟩
    exact ⟨nI i, f, by rw [f_X_copy_L2, n40, if_pos (nI_le (show 40 ≤ i by omega) (by omega))], ho, fun t ht => h1 t (by omega)⟩
  | succ d ih =>
    intro j i f hi hj ho h1 h2
    obtain ⟨j, rfl⟩ : ∃ j', j = j' + 1 := ⟨j - 1, by omega⟩
    have hval : f (40 * a + i) = f0 (40 * a + i) := by
      by_cases e : a = b
      · subst e; exact h2 i (Nat.le_refl i) (by omega)
      · exact ho _ (by omega)
    obtain ⟨v, f', g1, g2, g3⟩ := ih j (i + 1) (upd f (40 * b + i) (f (40 * a + i))) (by omega) (by omega) (fun t ht => by rw [pk_un (by omega)]; exact ho t ht) (fun t ht => by
      by_cases e : t = i
      · rw [e, pk_us, hval]
      · rw [pk_un (by omega)]; exact h1 t (by omega)) (fun t ht1 ht2 => by rw [pk_un (by omega)]; exact h2 t (by omega) ht2)
    refine ⟨v, f', ?_, g2, g3⟩
    rw [f_X_copy_L2, idx40, idx40, inb_nI (show 40 * a + i < 2160 by omega) (by omega), inb_nI (show 40 * b + i < 2160 by omega) (by omega), nI_clamp (show 40 * a + i < 2 ^ 31 by omega), nI_clamp (show 40 * b + i < 2 ^ 31 by omega), n40, if_neg (nI_ge (show i < 40 by omega) (by omega)), nI_1]
    exact g1
theorem X_copy_ok (K : Nat) {a b : Nat} {f g : Nat → Int32} (ha : a < 54) (hb : b < 54) (hK : 200 < K) : ∃ f' : Nat → Int32, f_X_copy K 2160 f 54 g (nI a) (nI b) = some (f', upd g b (g a)) ∧ off f' f b ∧ ∀ i, i < 40 → f' (40 * b + i) = f (40 * a + i) := by
  obtain ⟨v, f', h1, h2, h3⟩ := X_copy_L2_ok K (f0 := f) ha hb 40 K 0 f (by omega) (by omega) (fun _ _ => rfl) (fun t h => absurd h (Nat.not_lt_zero t)) (fun _ _ _ => rfl)
  refine ⟨f', ?_, h2, h3⟩
  unfold f_X_copy
  rw [show (0 : Int32) = nI 0 from rfl, h1]
  simp only [Option.bind_some]
  rw [inb_nI ha (by omega), inb_nI hb (by omega), nI_clamp (show a < 2 ^ 31 by omega), nI_clamp (show b < 2 ^ 31 by omega)]
  rfl
/-- a number copied to another slot -/
theorem X_copyZ (K : Nat) {a b : Nat} {f g : Nat → Int32} {Z : Nat → Int} (ha : a < 54) (ha2 : a ≠ 50) (ha3 : a ≠ 51) (hb : b < 54) (hK : 200 < K) (h : mst f g Z) : ∃ f' g' : Nat → Int32, f_X_copy K 2160 f 54 g (nI a) (nI b) = some (f', g') ∧ mst f' g' (zset Z b (Z a)) := by
  obtain ⟨f', h1, h2, h3⟩ := X_copy_ok K (f := f) (g := g) ha hb hK
  refine ⟨f', _, h1, mst_set h h2 (fun i hi => by rw [h3 i hi]; exact h.1 _ (by omega)) ?_ (by rw [pk_us]; exact (h.2 a ha ha2 ha3).2) (fun q hq => pk_un hq)⟩
  rw [← (h.2 a ha ha2 ha3).1]
  exact vl_congr 40 (fun i hi => h3 i hi)
theorem X_count_L3_ok (K : Nat) {p : Nat} {f : Nat → Int32} (hp : p < 54) : ∀ (i j : Nat), i < j → i ≤ 40 → ∃ n : Nat, f_X_count_L3 K (nI p) 2160 f j (nI i) = some (nI n) ∧ n ≤ i ∧ (∀ t, n ≤ t → t < i → f (40 * p + t) = 0) ∧ (∀ t, t + 1 = n → ¬ f (40 * p + t) = 0) := by
  intro i
  induction i with
  | zero =>
    intro j hj _
    obtain ⟨j, rfl⟩ : ∃ j', j = j' + 1 := ⟨j - 1, by omega⟩
    refine ⟨0, ?_, Nat.le_refl 0, fun t _ h => absurd h (Nat.not_lt_zero t), fun t h => absurd h (by omega)⟩
    rw [f_X_count_L3, if_pos (by decide)]
  | succ i ih =>
    intro j hj hi
    obtain ⟨j, rfl⟩ : ∃ j', j = j' + 1 := ⟨j - 1, by omega⟩
    rw [f_X_count_L3, if_neg (nI_nle (by omega) (by omega)), idx40, ← Nat.add_assoc, nI_pred, inb_nI (show 40 * p + i < 2160 by omega) (by omega), nI_clamp (show 40 * p + i < 2 ^ 31 by omega)]
    simp only [cond_true]
    by_cases e : f (40 * p + i) = 0
    · rw [if_pos e, pk_m1]
      obtain ⟨n, h1, h2, h3, h4⟩ := ih j (by omega) (by omega)
      refine ⟨n, h1, by omega, fun t a b => ?_, h4⟩
      by_cases q : t = i
      · rw [q, e]
      · exact h3 t a (by omega)
    · rw [if_neg e]
      refine ⟨i + 1, rfl, Nat.le_refl _, fun t a b => absurd a (by omega), fun t h => ?_⟩
      rw [show t = i by omega]; exact e
theorem X_count_ok (K : Nat) {p : Nat} {f : Nat → Int32} (hp : p < 54) (hK : 200 < K) (hn : mnn f) : ∃ n : Nat, f_X_count K 2160 f (nI p) = some (nI n) ∧ n ≤ 40 ∧ (∀ t, n ≤ t → t < 40 → f (40 * p + t) = 0) ∧ vl (rg f p) n = vl (rg f p) 40 ∧ n = lenz (vl (rg f p) 40) := by
  obtain ⟨n, h1, h2, h3, h4⟩ := X_count_L3_ok K (f := f) hp 40 K (by omega) (Nat.le_refl _)
  have hv : vl (rg f p) 40 = vl (rg f p) n := vl_cut h2 h3
  refine ⟨n, ?_, h2, h3, hv.symm, ?_⟩
  · unfold f_X_count
    rw [n40, h1]; rfl
  · rw [hv, lenz_of (f := rg f p) (fun t ht => hn _ (by omega)) h4]
theorem lenz_lt {a R : Nat} : lenz a ≤ R ↔ a < 2147483648 ^ R := by
  unfold lenz
  by_cases h : a = 0
  · subst h
    simp
    exact Nat.pow_pos (by decide)
  · rw [if_neg h]
    have e2 : (2147483648 : Nat) ^ R = 2 ^ (31 * R) := by rw [Nat.pow_mul]
    rw [e2, ← Nat.log2_lt h]
    omega
theorem lim_stepX {c : Int64} {s x y : Int32} {cn : Nat} (hc : c.toInt = cn) (hcB : cn < 2147483648) (hs : ¬ s < 0) (hx : ¬ x < 0) (hy : ¬ y < 0) :
    (((x.toInt64 * y.toInt64) + s.toInt64) + c).toInt = ((cn + (s.toNatClampNeg + x.toNatClampNeg * y.toNatClampNeg) : Nat) : Int) ∧ cn + (s.toNatClampNeg + x.toNatClampNeg * y.toNatClampNeg) < 4611686018427387904 := by
  have a := cl_lt s
  have b := cl_lt x
  have d := cl_lt y
  have m : x.toNatClampNeg * y.toNatClampNeg ≤ 2147483647 * 2147483647 := Nat.mul_le_mul (by omega) (by omega)
  have e1 : (x.toInt64 * y.toInt64).toInt = ((x.toNatClampNeg * y.toNatClampNeg : Nat) : Int) := by
    have : x.toInt64.toInt * y.toInt64.toInt = ((x.toNatClampNeg * y.toNatClampNeg : Nat) : Int) := by rw [toI_nn hx, toI_nn hy, Int.natCast_mul]
    rw [l_mul (by rw [this]; omega) (by rw [this]; omega), this]
  generalize x.toNatClampNeg * y.toNatClampNeg = p at *
  have e2 : ((x.toInt64 * y.toInt64) + s.toInt64).toInt = ((p + s.toNatClampNeg : Nat) : Int) := by
    rw [l_add (by rw [toI_nn hs, e1]; omega) (by rw [toI_nn hs, e1]; omega), toI_nn hs, e1]; omega
  refine ⟨?_, by omega⟩
  rw [l_add (by rw [hc, e2]; omega) (by rw [hc, e2]; omega), hc, e2]; omega
theorem lg0_le {x : Int64} {n : Nat} (h : x.toInt = n) : lg_cmp x (0 : Int64) ≤ 0 ↔ n = 0 := by
  unfold lg_cmp
  have z : (0 : Int64).toInt = 0 := rfl
  simp only [gt_iff_lt, Int64.lt_iff_toInt_lt, ← Int64.toInt_inj, z, h]
  by_cases q : n = 0
  · subst q
    simp
  · rw [if_pos (by omega)]
    constructor
    · intro r; exact absurd r (by decide)
    · intro r; exact absurd r q
theorem X_mul_L31_ok (K : Nat) {a b i lb : Nat} (ha : a < 48) (hb : b < 48) (hi : i + lb ≤ 40) (hi2 : i < 40) :
    ∀ (d j t cn : Nat) (c : Int64) (f : Nat → Int32), i + t + d = 40 → d < j → c.toInt = cn → cn < 2147483648 → mnn f → (∀ q, lb ≤ q → q < 40 → f (40 * b + q) = 0) → vl (rg f 48) 40 + cn * 2147483648 ^ (i + t) + (f (40 * a + i)).toNatClampNeg * 2147483648 ^ i * vl (rg f b) 40 < 2147483648 ^ 40 + (f (40 * a + i)).toNatClampNeg * 2147483648 ^ i * vl (rg f b) t →
    ∃ (o : Int64 × Int32 × (Nat → Int32)), f_X_multiply_L31 K (nI a) (nI b) (nI lb) (nI i) 2160 j c (nI t) f = some o ∧ off o.2.2 f 48 ∧ (∀ q, q < 40 → ¬ o.2.2 (1920 + q) < 0) ∧ vl (rg o.2.2 48) 40 + (f (40 * a + i)).toNatClampNeg * 2147483648 ^ i * vl (rg f b) t = vl (rg f 48) 40 + cn * 2147483648 ^ (i + t) + (f (40 * a + i)).toNatClampNeg * 2147483648 ^ i * vl (rg f b) 40 := by
  intro d
  induction d with
  | zero =>
    intro j t cn c f hd hj hc hcB hn hz hV
    obtain ⟨j, rfl⟩ : ∃ j', j = j' + 1 := ⟨j - 1, by omega⟩
    have ht : lb ≤ t := by omega
    have hvb : vl (rg f b) 40 = vl (rg f b) t := vl_cut (by omega) (fun q h1 h2 => hz q (by omega) h2)
    have h0 : cn = 0 := by
      rcases Nat.eq_zero_or_pos cn with h | h
      · exact h
      · have : 1 * 2147483648 ^ (i + t) ≤ cn * 2147483648 ^ (i + t) := Nat.mul_le_mul_right _ h
        rw [show i + t = 40 by omega] at *
        rw [hvb] at hV
        omega
    subst h0
    refine ⟨(c, nI t, f), ?_, fun _ _ => rfl, fun q hq => hn _ (by omega), ?_⟩
    · rw [f_X_multiply_L31, if_neg (nI_nlt ht (by omega)), if_pos ((lg0_le hc).mpr rfl)]
    · dsimp only
      rw [hvb]; omega
  | succ d ih =>
    intro j t cn c f hd hj hc hcB hn hz hV
    obtain ⟨j, rfl⟩ : ∃ j', j = j' + 1 := ⟨j - 1, by omega⟩
    have h1920 : (1920 : Int32) + nI i + nI t = nI (1920 + (i + t)) := by
      rw [show (1920 : Int32) = nI 1920 from rfl, nI_add, nI_add, Nat.add_assoc]
    have hin : inb (nI (1920 + (i + t))) 2160 = true := inb_nI (by omega) (by omega)
    have hina : inb (nI (40 * a + i)) 2160 = true := inb_nI (by omega) (by omega)
    have hinb : inb (nI (40 * b + t)) 2160 = true := inb_nI (by omega) (by omega)
    have hcl : (nI (1920 + (i + t))).toNatClampNeg = 1920 + (i + t) := nI_clamp (by omega)
    have hcla : (nI (40 * a + i)).toNatClampNeg = 40 * a + i := nI_clamp (by omega)
    have hclb : (nI (40 * b + t)).toNatClampNeg = 40 * b + t := nI_clamp (by omega)
    obtain ⟨q1, q2⟩ := lim_stepX hc hcB (hn (1920 + (i + t)) (by omega)) (hn (40 * a + i) (by omega)) (hn (40 * b + t) (by omega))
    have hgo : ∀ T : Int64, T = (((f (40 * a + i)).toInt64 * (f (40 * b + t)).toInt64) + (f (1920 + (i + t))).toInt64) + c → ∃ (o : Int64 × Int32 × (Nat → Int32)), f_X_multiply_L31 K (nI a) (nI b) (nI lb) (nI i) 2160 j (T >>> ((31 : Int32).toInt64 &&& 63)) (nI (t + 1)) (upd f (1920 + (i + t)) ((T &&& 2147483647).toInt32)) = some o ∧ off o.2.2 f 48 ∧ (∀ q, q < 40 → ¬ o.2.2 (1920 + q) < 0) ∧ vl (rg o.2.2 48) 40 + (f (40 * a + i)).toNatClampNeg * 2147483648 ^ i * vl (rg f b) t = vl (rg f 48) 40 + cn * 2147483648 ^ (i + t) + (f (40 * a + i)).toNatClampNeg * 2147483648 ^ i * vl (rg f b) 40 := by
      intro T hT
      rw [← hT] at q1
      generalize hnn : cn + ((f (1920 + (i + t))).toNatClampNeg + (f (40 * a + i)).toNatClampNeg * (f (40 * b + t)).toNatClampNeg) = n at q1 q2
      rw [cut_low q1]
      have hf' : mnn (upd f (1920 + (i + t)) (nI (n % 2147483648))) := by
        intro s hs
        by_cases e : s = 1920 + (i + t)
        · rw [e, pk_us]; exact nI_nn (mod_lt31 n)
        · rw [pk_un e]; exact hn s hs
      have rgb : ∀ s, s ≤ 40 → vl (rg (upd f (1920 + (i + t)) (nI (n % 2147483648))) b) s = vl (rg f b) s := fun s hs => vl_congr s (fun q hq => by show upd f _ _ (40 * b + q) = f (40 * b + q); rw [pk_un (by omega)])
      have hua : upd f (1920 + (i + t)) (nI (n % 2147483648)) (40 * a + i) = f (40 * a + i) := pk_un (by omega)
      have hset : rg (upd f (1920 + (i + t)) (nI (n % 2147483648))) 48 = upd (rg f 48) (i + t) (nI (n % 2147483648)) := by
        funext s
        show upd f (1920 + (i + t)) _ (40 * 48 + s) = upd (rg f 48) (i + t) _ s
        by_cases e : s = i + t
        · rw [e, pk_us, pk_us]
        · rw [pk_un e, pk_un (by omega)]; rfl
      have hv := @vl_set (rg f 48) (i + t) (nI (n % 2147483648)) 40 (by omega)
      rw [cl_nI (mod_lt31 n)] at hv
      have k0 := carry_alg hv hnn (Nat.div_add_mod n 2147483648)
      have e3 : (2147483648 : Nat) ^ (i + t) = 2147483648 ^ i * 2147483648 ^ t := Nat.pow_add ..
      have k1 : (f (40 * a + i)).toNatClampNeg * 2147483648 ^ i * ((f (40 * b + t)).toNatClampNeg * 2147483648 ^ t) = (f (40 * a + i)).toNatClampNeg * (f (40 * b + t)).toNatClampNeg * 2147483648 ^ (i + t) := by rw [e3]; ac_rfl
      have hs1 : (f (40 * a + i)).toNatClampNeg * 2147483648 ^ i * vl (rg f b) (t + 1) = (f (40 * a + i)).toNatClampNeg * 2147483648 ^ i * vl (rg f b) t + (f (40 * a + i)).toNatClampNeg * (f (40 * b + t)).toNatClampNeg * 2147483648 ^ (i + t) := by
        rw [vl_s, Nat.mul_add]
        show _ + (f (40 * a + i)).toNatClampNeg * 2147483648 ^ i * ((f (40 * b + t)).toNatClampNeg * 2147483648 ^ t) = _
        rw [k1]
      obtain ⟨o, g1, g2, g3, g4⟩ := ih j (t + 1) (n / 2147483648) _ _ (by omega) (by omega) (cut_high q1) (by omega) hf' (fun q h1 h2 => by rw [pk_un (by omega)]; exact hz q h1 h2) (by
        rw [hset, hua, rgb 40 (Nat.le_refl _), rgb (t + 1) (by omega), hs1, ← Nat.add_assoc i t 1, Nat.pow_succ]
        omega)
      refine ⟨o, g1, fun s hs => by rw [g2 s hs, pk_un (by omega)], g3, ?_⟩
      rw [hset, hua, rgb 40 (Nat.le_refl _), rgb (t + 1) (by omega), hs1, ← Nat.add_assoc i t 1, Nat.pow_succ] at g4
      omega
    rw [f_X_multiply_L31, h1920, idx40, idx40, hin, hina, hinb, hcl, hcla, hclb, nI_1]
    simp only [cond_true]
    by_cases e : t < lb
    · rw [if_pos (nI_lt e (by omega)), if_neg (nI_ge e (by omega))]
      exact hgo _ rfl
    · have hg0 : f (40 * b + t) = 0 := hz t (by omega) (by omega)
      rw [if_neg (nI_nlt (show lb ≤ t by omega) (by omega)), if_pos (nI_le (show lb ≤ t by omega) (by omega))]
      by_cases e0 : cn = 0
      · rw [if_pos ((lg0_le hc).mpr e0)]
        refine ⟨_, rfl, fun _ _ => rfl, fun q hq => hn _ (by omega), ?_⟩
        dsimp only
        have hvb : vl (rg f b) 40 = vl (rg f b) t := vl_cut (by omega) (fun q h1 h2 => hz q (by omega) h2)
        rw [hvb, e0]; omega
      · rw [if_neg (fun h => e0 ((lg0_le hc).mp h))]
        exact hgo _ (by rw [hg0])
