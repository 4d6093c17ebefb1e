/-! The model: its exact division. -/
theorem bm31 (x : Int) : x.bmod (2 ^ 64) % 2147483648 = x % 2147483648 := by
  unfold Int.bmod
  dsimp only
  split <;> omega
theorem l_mulm (x y : Int64) : (x * y &&& 2147483647).toInt = x.toInt * y.toInt % 2147483648 := by
  rw [l_and, Int64.toInt_mul, bm31]
theorem l_inv2 (d v : Int64) : (2 - d * v &&& 2147483647).toInt = (2 - d.toInt * v.toInt) % 2147483648 := by
  rw [l_and, Int64.toInt_sub, bm31, Int64.toInt_mul]
  have h := bm31 (d.toInt * v.toInt)
  have z : (2 : Int64).toInt = 2 := rfl
  rw [z]
  generalize (d.toInt * v.toInt).bmod (2 ^ 64) = A at *
  generalize d.toInt * v.toInt = B at *
  omega
theorem inv_rnd {d v w A u c : Int} (h : 1 - d * v = A * u + 2147483648 * c) (hw : ∃ k, w = v * (2 - d * v) + 2147483648 * k) : ∃ u' c', 1 - d * w = (A * A) * u' + 2147483648 * c' := by
  obtain ⟨k, hk⟩ := hw
  refine ⟨u * u, 2 * A * u * c + 2147483648 * c * c - d * k, ?_⟩
  have : 1 - d * w = (1 - d * v) * (1 - d * v) - 2147483648 * (d * k) := by rw [hk]; grind
  rw [this, h]
  grind
theorem rnd_val (d v : Int64) : ∃ k, (v * (2 - d * v &&& 2147483647) &&& 2147483647).toInt = v.toInt * (2 - d.toInt * v.toInt) + 2147483648 * k := by
  rw [l_mulm, l_inv2]
  generalize d.toInt = D
  generalize v.toInt = V
  refine ⟨-((V * ((2 - D * V) % 2147483648)) / 2147483648) - V * ((2 - D * V) / 2147483648), ?_⟩
  have h1 := Int.mul_ediv_add_emod (2 - D * V) 2147483648
  have h2 := Int.mul_ediv_add_emod (V * ((2 - D * V) % 2147483648)) 2147483648
  generalize (2 - D * V) / 2147483648 = q1 at *
  generalize (2 - D * V) % 2147483648 = r1 at *
  generalize V * r1 / 2147483648 = q2 at *
  generalize V * r1 % 2147483648 = r2 at *
  rw [← h1]
  grind
theorem X_div_L56_ok (K : Nat) {d : Int64} {n o : Nat} (hK : 200 < K) (hd : d.toInt = n) (hn : n = 2 * o + 1) : ∃ (inv : Int64) (w : Int32) (c : Int), f_X_divide_L56 K d K d (0 : Int32) = some (inv, w) ∧ 1 - (n : Int) * inv.toInt = 2147483648 * c := by
  obtain ⟨s, hs⟩ : ∃ s, o * (o + 1) = 2 * s := by
    rcases Nat.mod_two_eq_zero_or_one o with h | h
    · exact ⟨o / 2 * (o + 1), by rw [← Nat.mul_assoc, show 2 * (o / 2) = o by omega]⟩
    · exact ⟨o * ((o + 1) / 2), by rw [Nat.mul_left_comm, show 2 * ((o + 1) / 2) = o + 1 by omega]⟩
  have e0 : 1 - (n : Int) * d.toInt = 8 * (-(s : Int)) + 2147483648 * 0 := by
    rw [hd, hn]
    have h1 : ((2 * o + 1 : Nat) : Int) * ((2 * o + 1 : Nat) : Int) = (4 * (o * (o + 1)) + 1 : Nat) := by
      have : (2 * o + 1) * (2 * o + 1) = 4 * (o * (o + 1)) + 1 := by grind
      rw [← this]; exact (Int.natCast_mul _ _).symm
    rw [h1, hs]; omega
  obtain ⟨k, hk⟩ : ∃ k, K = k + 6 := ⟨K - 6, by omega⟩
  have r1 := rnd_val d d
  generalize h1 : d * (2 - d * d &&& 2147483647) &&& 2147483647 = v1 at r1
  have r2 := rnd_val d v1
  generalize h2 : v1 * (2 - d * v1 &&& 2147483647) &&& 2147483647 = v2 at r2
  have r3 := rnd_val d v2
  generalize h3 : v2 * (2 - d * v2 &&& 2147483647) &&& 2147483647 = v3 at r3
  have r4 := rnd_val d v3
  generalize h4 : v3 * (2 - d * v3 &&& 2147483647) &&& 2147483647 = v4 at r4
  have r5 := rnd_val d v4
  generalize h5 : v4 * (2 - d * v4 &&& 2147483647) &&& 2147483647 = v5 at r5
  rw [hd] at r1 r2 r3 r4 r5
  rw [hd] at e0
  obtain ⟨u1, c1, e1⟩ := inv_rnd e0 r1
  obtain ⟨u2, c2, e2⟩ := inv_rnd e1 r2
  obtain ⟨u3, c3, e3⟩ := inv_rnd e2 r3
  obtain ⟨u4, c4, e4⟩ := inv_rnd e3 r4
  obtain ⟨u5, c5, e5⟩ := inv_rnd e4 r5
  refine ⟨v5, 0 + 1 + 1 + 1 + 1 + 1, 36893488147419103232 * u5 + c5, ?_, ?_⟩
  · have : f_X_divide_L56 K d K d (0 : Int32) = f_X_divide_L56 K d (k + 1 + 1 + 1 + 1 + 1 + 1) d (0 : Int32) := by rw [hk]
    rw [this, f_X_divide_L56, if_neg (by decide), h1, f_X_divide_L56, if_neg (by decide), h2, f_X_divide_L56, if_neg (by decide), h3, f_X_divide_L56, if_neg (by decide), h4, f_X_divide_L56, if_neg (by decide), h5, f_X_divide_L56, if_pos (by decide)]
  · rw [e5]
    have z : ((8 : Int) * 8 * (8 * 8) * (8 * 8 * (8 * 8)) * (8 * 8 * (8 * 8) * (8 * 8 * (8 * 8))) * (8 * 8 * (8 * 8) * (8 * 8 * (8 * 8)) * (8 * 8 * (8 * 8) * (8 * 8 * (8 * 8))))) = 2147483648 * 36893488147419103232 := by decide
    rw [z]
    grind
/-- one limb of the subtraction of a multiple -/
theorem sb_step {q c : Int64} {l u : Int32} {w cn : Nat} (hq : q.toInt = w) (hw : w < 2147483648) (hc : c.toInt = cn) (hcB : cn < 2147483648) (hl : ¬ l < 0) (hu : ¬ u < 0) :
    ∃ (T V : Int), (q * l.toInt64 + c).toInt = T ∧ (u.toInt64 - (q * l.toInt64 + c &&& 2147483647)).toInt = V ∧ T = ((w * l.toNatClampNeg + cn : Nat) : Int) ∧ V = (u.toNatClampNeg : Int) - T % 2147483648 ∧ 0 ≤ T / 2147483648 ∧ T ≤ 4611686016279904256 := by
  have a := cl_lt l
  have b := cl_lt u
  have m : w * l.toNatClampNeg ≤ 2147483647 * 2147483647 := Nat.mul_le_mul (by omega) (by omega)
  have e1 : (q * l.toInt64).toInt = ((w * l.toNatClampNeg : Nat) : Int) := by
    have : q.toInt * l.toInt64.toInt = ((w * l.toNatClampNeg : Nat) : Int) := by rw [hq, toI_nn hl, Int.natCast_mul]
    rw [l_mul (by rw [this]; omega) (by rw [this]; omega), this]
  generalize w * l.toNatClampNeg = p at *
  have e2 : (q * l.toInt64 + c).toInt = ((p + cn : Nat) : Int) := by
    rw [l_add (by rw [e1, hc]; omega) (by rw [e1, hc]; omega), e1, hc]; omega
  refine ⟨_, _, rfl, rfl, e2, ?_, by rw [e2]; omega, by rw [e2]; omega⟩
  have e3 := l_and (q * l.toInt64 + c)
  rw [l_sub (by rw [e3, toI_nn hu, e2]; omega) (by rw [e3, toI_nn hu, e2]; omega), e3, toI_nn hu]
theorem lg_ge0 {x : Int64} {v : Int} (h : x.toInt = v) : (0 ≤ lg_cmp x (0 : Int64)) ↔ 0 ≤ v := by
  rw [lg_cmp_ge, Int64.le_iff_toInt_le, h]
  exact Iff.rfl
theorem X_div_L140_ok (K : Nat) {i w : Nat} {q : Int64} (hi : i < 40) (hq : q.toInt = w) (hw : w < 2147483648) :
    ∀ (d j t cn : Nat) (c : Int64) (f : Nat → Int32), i + t + d = 40 → d < j → c.toInt = cn → cn < 2147483648 → mnn f →
    ∃ (o : Int64 × Int32 × (Nat → Int32)) (k : Int), f_X_divide_L140 K (nI i) q 2160 j c (nI t) f = some o ∧ off o.2.2 f 50 ∧ mnn o.2.2 ∧ (∀ r, r < i + t → o.2.2 (2000 + r) = f (2000 + r)) ∧ (vl (fun r => o.2.2 (2000 + (i + t) + r)) d : Int) = (vl (fun r => f (2000 + (i + t) + r)) d : Int) - ((w * vl (fun r => f (2040 + t + r)) d : Nat) : Int) - cn + k * ((2147483648 ^ d : Nat) : Int) := by
  intro d
  induction d with
  | zero =>
    intro j t cn c f hd hj hc hcB hn
    obtain ⟨j, rfl⟩ : ∃ j', j = j' + 1 := ⟨j - 1, by omega⟩
    refine ⟨(c, nI t, f), cn, ?_, fun _ _ => rfl, hn, fun _ _ => rfl, ?_⟩
    · rw [f_X_divide_L140, n40, nI_add, if_pos (nI_le (show 40 ≤ i + t by omega) (by omega))]
    · simp [vl_0]; omega
  | succ d ih =>
    intro j t cn c f hd hj hc hcB hn
    obtain ⟨j, rfl⟩ : ∃ j', j = j' + 1 := ⟨j - 1, by omega⟩
    have e1 : (2040 : Int32) + nI t = nI (2040 + t) := by rw [show (2040 : Int32) = nI 2040 from rfl, nI_add]
    have e2 : (2000 : Int32) + nI i + nI t = nI (2000 + (i + t)) := by rw [show (2000 : Int32) = nI 2000 from rfl, nI_add, nI_add, Nat.add_assoc]
    have hl := hn (2040 + t) (by omega)
    have hu := hn (2000 + (i + t)) (by omega)
    obtain ⟨T, V, t1, t2, t3, t4, t5, t6⟩ := sb_step hq hw hc hcB hl hu
    have lu := cl_lt (f (2000 + (i + t)))
    have hgo : ∀ (c1 : Int64) (cn1 : Nat), c1.toInt = cn1 → cn1 < 2147483648 → ((f (2000 + (i + t))).toNatClampNeg : Int) - T = V % 2147483648 - 2147483648 * (cn1 : Int) → ∃ (o : Int64 × Int32 × (Nat → Int32)) (k : Int), f_X_divide_L140 K (nI i) q 2160 j c1 (nI (t + 1)) (upd f (2000 + (i + t)) (((f (2000 + (i + t))).toInt64 - (q * (f (2040 + t)).toInt64 + c &&& 2147483647) &&& 2147483647).toInt32)) = some o ∧ off o.2.2 f 50 ∧ mnn o.2.2 ∧ (∀ r, r < i + t → o.2.2 (2000 + r) = f (2000 + r)) ∧ (vl (fun r => o.2.2 (2000 + (i + t) + r)) (d + 1) : Int) = (vl (fun r => f (2000 + (i + t) + r)) (d + 1) : Int) - ((w * vl (fun r => f (2040 + t + r)) (d + 1) : Nat) : Int) - cn + k * ((2147483648 ^ (d + 1) : Nat) : Int) := by
      intro c1 cn1 h1 h2 h3
      have hlo : (V % 2147483648).toNat < 2147483648 := by omega
      rw [l_low, t2]
      have hf' : mnn (upd f (2000 + (i + t)) (nI (V % 2147483648).toNat)) := by
        intro z hz
        by_cases e : z = 2000 + (i + t)
        · rw [e, pk_us]; exact nI_nn hlo
        · rw [pk_un e]; exact hn z hz
      obtain ⟨o, k, g1, g2, g3, g4, g5⟩ := ih j (t + 1) cn1 c1 _ (by omega) (by omega) h1 h2 hf'
      refine ⟨o, k, g1, fun z hz => by rw [g2 z hz, pk_un (by omega)], g3, fun r hr => by rw [g4 r (by omega), pk_un (by omega)], ?_⟩
      have ei : o.2.2 (2000 + (i + t)) = nI (V % 2147483648).toNat := by rw [g4 (i + t) (by omega), pk_us]
      have ca : vl (fun r => upd f (2000 + (i + t)) (nI (V % 2147483648).toNat) (2000 + (i + (t + 1)) + r)) d = vl (fun r => f (2000 + (i + t) + 1 + r)) d := vl_congr d (fun r hr => by rw [pk_un (by omega)]; congr 1)
      have cb : vl (fun r => upd f (2000 + (i + t)) (nI (V % 2147483648).toNat) (2040 + (t + 1) + r)) d = vl (fun r => f (2040 + t + 1 + r)) d := vl_congr d (fun r hr => by rw [pk_un (by omega)]; congr 1)
      have co : (fun r => o.2.2 (2000 + (i + (t + 1)) + r)) = fun r => o.2.2 (2000 + (i + t) + 1 + r) := by funext r; congr 1
      rw [ca, cb, co] at g5
      rw [tail1, tail1, tail1, ei, cl_nI hlo, Nat.pow_succ]
      generalize vl (fun r => o.2.2 (2000 + (i + t) + 1 + r)) d = X at g5 ⊢
      generalize vl (fun r => f (2000 + (i + t) + 1 + r)) d = A at g5 ⊢
      generalize vl (fun r => f (2040 + t + 1 + r)) d = B at g5 ⊢
      generalize (2147483648 : Nat) ^ d = P at g5 ⊢
      have cP : ((P * 2147483648 : Nat) : Int) = 2147483648 * (P : Int) := by omega
      have c2 : (((V % 2147483648).toNat + 2147483648 * X : Nat) : Int) = V % 2147483648 + 2147483648 * (X : Int) := by omega
      have c5 : k * (2147483648 * (P : Int)) = 2147483648 * (k * P) := by rw [Int.mul_left_comm]
      have c4 : ((w * ((f (2040 + t)).toNatClampNeg + 2147483648 * B) : Nat) : Int) = ((w * (f (2040 + t)).toNatClampNeg : Nat) : Int) + 2147483648 * ((w * B : Nat) : Int) := by
        have : w * ((f (2040 + t)).toNatClampNeg + 2147483648 * B) = w * (f (2040 + t)).toNatClampNeg + 2147483648 * (w * B) := by rw [Nat.mul_add, Nat.mul_left_comm]
        rw [this]; omega
      rw [cP, c2, c5, c4]
      generalize k * (P : Int) = QP at *
      generalize w * B = wB at *
      generalize w * (f (2040 + t)).toNatClampNeg = wl at *
      omega
    rw [f_X_divide_L140, e1, e2, nI_add, inb_nI (show 2040 + t < 2160 by omega) (by omega), inb_nI (show 2000 + (i + t) < 2160 by omega) (by omega), nI_clamp (show 2040 + t < 2 ^ 31 by omega), nI_clamp (show 2000 + (i + t) < 2 ^ 31 by omega), n40, if_neg (nI_ge (show i + t < 40 by omega) (by omega)), nI_1]
    simp only [cond_true]
    have hsh : ((q * (f (2040 + t)).toInt64 + c) >>> ((31 : Int32).toInt64 &&& 63)).toInt = T / 2147483648 := by rw [l_shr, t1]
    by_cases hv : 0 ≤ V
    · rw [if_pos ((lg_ge0 t2).mpr hv)]
      refine hgo _ (T / 2147483648).toNat ?_ (by omega) (by omega)
      rw [show ((q * (f (2040 + t)).toInt64 + c) >>> ((31 : Int32).toInt64 &&& 63)) + 0 = ((q * (f (2040 + t)).toInt64 + c) >>> ((31 : Int32).toInt64 &&& 63)) by simp, hsh]; omega
    · rw [if_neg (fun h => hv ((lg_ge0 t2).mp h))]
      refine hgo _ ((T / 2147483648).toNat + 1) ?_ (by omega) (by omega)
      have one : (1 : Int64).toInt = 1 := rfl
      rw [l_add (by rw [hsh, one]; omega) (by rw [hsh, one]; omega), hsh, one]; omega
theorem X_div_L92_ok (K : Nat) {Q n : Nat} {inv : Int64} {D : Nat} {c0 : Int} (hK : 200 < K) (hinv : 1 - (n : Int) * inv.toInt = 2147483648 * c0) (hQ : Q < 2147483648 ^ 40) :
    ∀ (d j i : Nat) (f : Nat → Int32), i + d = 40 → d < j → mnn f → vl (rg f 51) 40 = D → (f 2040).toNatClampNeg = n → (∀ t, t < i → f (2080 + t) = nI (Q / 2147483648 ^ t % 2147483648)) → (∃ c : Int, (vl (fun t => f (2000 + i + t)) d : Int) = ((Q / 2147483648 ^ i : Nat) : Int) * (D : Int) + c * ((2147483648 ^ d : Nat) : Int)) →
    ∃ (v : Int32) (f' : Nat → Int32), f_X_divide_L92 K inv 2160 j (nI i) f = some (v, f') ∧ mnn f' ∧ (∀ t, (t < 2000 ∨ (2040 ≤ t ∧ t < 2080) ∨ 2120 ≤ t) → f' t = f t) ∧ (∀ t, t < 40 → f' (2080 + t) = nI (Q / 2147483648 ^ t % 2147483648)) := by
  intro d
  induction d with
  | zero =>
    intro j i f hi hj hn hD h0 h1 h2
    obtain ⟨j, rfl⟩ : ∃ j', j = j' + 1 := ⟨j - 1, by omega⟩
    exact ⟨nI i, f, by rw [f_X_divide_L92, n40, if_pos (nI_le (show 40 ≤ i by omega) (by omega))], hn, fun _ _ => rfl, fun t ht => h1 t (by omega)⟩
  | succ d ih =>
    intro j i f hi hj hn hD h0 h1 h2
    obtain ⟨j, rfl⟩ : ∃ j', j = j' + 1 := ⟨j - 1, by omega⟩
    obtain ⟨c, hc⟩ := h2
    have lu := cl_lt (f (2000 + i))
    have hDn : ∃ e, D = n + 2147483648 * e := by
      refine ⟨vl (fun t => rg f 51 (t + 1)) 39, ?_⟩
      rw [← hD, vl_one]
      show (f 2040).toNatClampNeg + _ = _
      rw [h0]
    obtain ⟨e, he⟩ := hDn
    -- the limb
    have hq : ((f (2000 + i)).toInt64 * inv &&& 2147483647).toInt = ((Q / 2147483648 ^ i % 2147483648 : Nat) : Int) := by
      rw [l_mulm, toI_nn (hn _ (by omega))]
      have t1 := tail1 f (2000 + i) d
      have hm := mod_of hc (by rw [Nat.pow_succ]; omega)
      rw [t1] at hm
      generalize Q / 2147483648 ^ i = Qi at hm ⊢
      generalize vl (fun t => f (2000 + i + 1 + t)) d = Y at hm
      have hm2 : (((f (2000 + i)).toNatClampNeg + 2147483648 * Y : Nat) : Int) % 2147483648 = ((f (2000 + i)).toNatClampNeg : Int) := by omega
      rw [hm2] at hm
      generalize ((f (2000 + i)).toNatClampNeg : Int) = u at *
      generalize inv.toInt = v at *
      -- u ≡ Qi * n, n * v ≡ 1
      have hu : ∃ k, u = (Qi : Int) * n + 2147483648 * k := by
        refine ⟨-((Qi : Int) / 2147483648 * n) + ((Qi : Int) % 2147483648 * e) - (Qi : Int) % 2147483648 * D / 2147483648, ?_⟩
        have a1 := Int.mul_ediv_add_emod (Qi : Int) 2147483648
        have a2 := Int.mul_ediv_add_emod ((Qi : Int) % 2147483648 * D) 2147483648
        rw [← hm] at a2
        have he2 : (D : Int) = (n : Int) + 2147483648 * (e : Int) := by omega
        rw [he2] at a2 ⊢
        generalize (Qi : Int) / 2147483648 = q1 at *
        generalize (Qi : Int) % 2147483648 = r1 at *
        generalize r1 * ((n : Int) + 2147483648 * (e : Int)) / 2147483648 = q2 at *
        grind
      obtain ⟨k, hk⟩ := hu
      have : u * v = (Qi : Int) + 2147483648 * (k * v - Qi * c0) := by
        rw [hk]
        have : (n : Int) * v = 1 - 2147483648 * c0 := by omega
        grind
      rw [this, Int.add_mul_emod_self_left]
      omega
    have hq31 := mod_lt31 (Q / 2147483648 ^ i)
    have hqi := l_i32 hq hq31
    have hn1 : mnn (upd f (2080 + i) (nI (Q / 2147483648 ^ i % 2147483648))) := by
      intro z hz
      by_cases e : z = 2080 + i
      · rw [e, pk_us]; exact nI_nn hq31
      · rw [pk_un e]; exact hn z hz
    obtain ⟨o, k, g1, g2, g3, g4, g5⟩ := X_div_L140_ok K (i := i) (w := Q / 2147483648 ^ i % 2147483648) (q := (f (2000 + i)).toInt64 * inv &&& 2147483647) (by omega) hq hq31 (d + 1) K 0 0 0 (upd f (2080 + i) (nI (Q / 2147483648 ^ i % 2147483648))) (by omega) (by omega) rfl (by decide) hn1
    rw [Nat.add_zero] at g4 g5
    have ca : vl (fun r => upd f (2080 + i) (nI (Q / 2147483648 ^ i % 2147483648)) (2000 + i + r)) (d + 1) = vl (fun r => f (2000 + i + r)) (d + 1) := vl_congr _ (fun r hr => by rw [pk_un (by omega)])
    have cb : ∃ p : Nat, D = vl (fun r => upd f (2080 + i) (nI (Q / 2147483648 ^ i % 2147483648)) (2040 + 0 + r)) (d + 1) + p * 2147483648 ^ (d + 1) := by
      have a1 := vl_app (rg f 51) (d + 1) (40 - (d + 1))
      rw [show d + 1 + (40 - (d + 1)) = 40 by omega, hD] at a1
      refine ⟨vl (fun r => rg f 51 (d + 1 + r)) (40 - (d + 1)), ?_⟩
      rw [a1, Nat.mul_comm (2147483648 ^ (d + 1))]
      congr 1
      exact vl_congr _ (fun r hr => by rw [pk_un (by omega)]; rfl)
    obtain ⟨p, hp⟩ := cb
    rw [ca, hc] at g5
    have hoff : ∀ t, (t < 2000 ∨ 2040 ≤ t) → o.2.2 t = upd f (2080 + i) (nI (Q / 2147483648 ^ i % 2147483648)) t := fun t ht => g2 t (by omega)
    obtain ⟨v, f', k1, k2, k3, k4⟩ := ih j (i + 1) o.2.2 (by omega) (by omega) g3 (by
      rw [← hD]
      exact vl_congr 40 (fun r hr => by show o.2.2 (40 * 51 + r) = f (40 * 51 + r); rw [hoff _ (by omega), pk_un (by omega)])) (by rw [hoff _ (by omega), pk_un (by omega)]; exact h0) (fun t ht => by
      rw [hoff _ (by omega)]
      by_cases e : t = i
      · rw [e, pk_us]
      · rw [pk_un (by omega)]; exact h1 t (by omega)) (by
      have t1 := tail1 o.2.2 (2000 + i) d
      rw [t1] at g5
      have hdm : Q / 2147483648 ^ i = 2147483648 * (Q / 2147483648 ^ (i + 1)) + Q / 2147483648 ^ i % 2147483648 := by
        rw [Nat.pow_succ, ← Nat.div_div_eq_div_mul]; omega
      have l := cl_lt (o.2.2 (2000 + i))
      generalize vl (fun r => upd f (2080 + i) (nI (Q / 2147483648 ^ i % 2147483648)) (2040 + 0 + r)) (d + 1) = L0 at *
      generalize Q / 2147483648 ^ (i + 1) = Q1 at hdm ⊢
      generalize Q / 2147483648 ^ i % 2147483648 = q0 at *
      generalize Q / 2147483648 ^ i = Qi at *
      rw [show 2000 + (i + 1) = 2000 + i + 1 by omega]
      generalize vl (fun t => o.2.2 (2000 + i + 1 + t)) d = Y at g5 ⊢
      rw [Nat.pow_succ] at g5 hp
      generalize (2147483648 : Nat) ^ d = P at *
      -- everything by 2^31
      have m1 : ((q0 * L0 : Nat) : Int) = (q0 : Int) * D - 2147483648 * ((q0 : Int) * p * P) := by
        rw [hp, Int.natCast_add, Int.natCast_mul p, Int.natCast_mul P, Int.natCast_mul q0 L0, show ((2147483648 : Nat) : Int) = 2147483648 from rfl]
        grind
      have m2 : (Qi : Int) * D = 2147483648 * ((Q1 : Int) * D) + (q0 : Int) * D := by
        rw [hdm, Int.natCast_add, Int.natCast_mul, show ((2147483648 : Nat) : Int) = 2147483648 from rfl]; grind
      refine ⟨c + k + (q0 : Int) * p, ?_⟩
      have m3 : c * ((P * 2147483648 : Nat) : Int) = 2147483648 * (c * P) := by rw [Int.natCast_mul, show ((2147483648 : Nat) : Int) = 2147483648 from rfl]; grind
      have m4 : k * ((P * 2147483648 : Nat) : Int) = 2147483648 * (k * P) := by rw [Int.natCast_mul, show ((2147483648 : Nat) : Int) = 2147483648 from rfl]; grind
      rw [m1, m2, m3, m4] at g5
      have m5 : (c + k + (q0 : Int) * p) * (P : Int) = c * P + k * P + (q0 : Int) * p * P := by grind
      rw [m5]
      generalize c * (P : Int) = x1 at *
      generalize k * (P : Int) = x2 at *
      generalize (q0 : Int) * p * P = x3 at *
      generalize (Q1 : Int) * D = x4 at *
      generalize (q0 : Int) * D = x5 at *
      omega)
    refine ⟨v, f', ?_, k2, fun t ht => by rw [k3 t ht, hoff t (by omega), pk_un (by omega)], k4⟩
    have e1 : (2000 : Int32) + nI i = nI (2000 + i) := by rw [show (2000 : Int32) = nI 2000 from rfl, nI_add]
    have e2 : (2080 : Int32) + nI i = nI (2080 + i) := by rw [show (2080 : Int32) = nI 2080 from rfl, nI_add]
    rw [f_X_divide_L92, e1, e2, inb_nI (show 2000 + i < 2160 by omega) (by omega), inb_nI (show 2080 + i < 2160 by omega) (by omega), nI_clamp (show 2000 + i < 2 ^ 31 by omega), nI_clamp (show 2080 + i < 2 ^ 31 by omega), n40, if_neg (nI_ge (show i < 40 by omega) (by omega)), hqi, nI_1]
    simp only [cond_true]
    rw [show (0 : Int32) = nI 0 from rfl, g1]
    simp only [Option.bind_some]
    exact k1
