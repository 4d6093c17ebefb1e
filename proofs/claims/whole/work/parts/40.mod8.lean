/-! The model: reset, a limb, its start; the program's start. -/
theorem X_reset_L2_ok (K : Nat) : ∀ (d f9 i : Nat) (f : Nat → Int32), i + d = 2160 → d < f9 → (∀ t, t < i → f t = 0) → ∃ (v : Int32) (f' : Nat → Int32), f_X_reset_L2 K 2160 f9 (nI i) f = some (v, f') ∧ ∀ t, t < 2160 → f' t = 0 := by
  intro d
  induction d with
  | zero =>
    intro f9 i f hi hf h
    obtain ⟨f9, rfl⟩ : ∃ j', f9 = j' + 1 := ⟨f9 - 1, by omega⟩
    refine ⟨nI i, f, ?_, fun t ht => h t (by omega)⟩
    rw [f_X_reset_L2, show (2160 : Int32) = nI 2160 from rfl, if_pos (nI_le (show 2160 ≤ i by omega) (by omega))]
  | succ d ih =>
    intro f9 i f hi hf h
    obtain ⟨f9, rfl⟩ : ∃ j', f9 = j' + 1 := ⟨f9 - 1, by omega⟩
    obtain ⟨v, f', h1, h2⟩ := ih f9 (i + 1) (upd f i 0) (by omega) (by omega) (by
      intro t ht
      by_cases e : t = i
      · rw [e, pk_us]
      · rw [pk_un e]; exact h t (by omega))
    refine ⟨v, f', ?_, h2⟩
    rw [f_X_reset_L2, show (2160 : Int32) = nI 2160 from rfl, if_neg (nI_ge (show i < 2160 by omega) (by omega)), inb_nI (show i < 2160 by omega) (by omega), nI_clamp (show i < 2 ^ 31 by omega), nI_1]
    exact h1
theorem X_reset_L24_ok (K : Nat) : ∀ (d f9 i : Nat) (f : Nat → Int32), i + d = 54 → d < f9 → (∀ t, t < i → f t = 0) → ∃ (v : Int32) (f' : Nat → Int32), f_X_reset_L24 K 54 f9 (nI i) f = some (v, f') ∧ ∀ t, t < 54 → f' t = 0 := by
  intro d
  induction d with
  | zero =>
    intro f9 i f hi hf h
    obtain ⟨f9, rfl⟩ : ∃ j', f9 = j' + 1 := ⟨f9 - 1, by omega⟩
    refine ⟨nI i, f, ?_, fun t ht => h t (by omega)⟩
    rw [f_X_reset_L24, show (54 : Int32) = nI 54 from rfl, if_pos (nI_le (show 54 ≤ i by omega) (by omega))]
  | succ d ih =>
    intro f9 i f hi hf h
    obtain ⟨f9, rfl⟩ : ∃ j', f9 = j' + 1 := ⟨f9 - 1, by omega⟩
    obtain ⟨v, f', h1, h2⟩ := ih f9 (i + 1) (upd f i 0) (by omega) (by omega) (by
      intro t ht
      by_cases e : t = i
      · rw [e, pk_us]
      · rw [pk_un e]; exact h t (by omega))
    refine ⟨v, f', ?_, h2⟩
    rw [f_X_reset_L24, show (54 : Int32) = nI 54 from rfl, if_neg (nI_ge (show i < 54 by omega) (by omega)), inb_nI (show i < 54 by omega) (by omega), nI_clamp (show i < 2 ^ 31 by omega), nI_1]
    exact h1
theorem X_reset_L45_ok (K : Nat) : ∀ (d f9 i : Nat) (f : Nat → Int32), i + d = 6 → d < f9 → (∀ t, t < i → f t = nI t) → ∃ (v : Int32) (f' : Nat → Int32), f_X_reset_L45 K 6 f9 (nI i) f = some (v, f') ∧ ∀ t, t < 6 → f' t = nI t := by
  intro d
  induction d with
  | zero =>
    intro f9 i f hi hf h
    obtain ⟨f9, rfl⟩ : ∃ j', f9 = j' + 1 := ⟨f9 - 1, by omega⟩
    refine ⟨nI i, f, ?_, fun t ht => h t (by omega)⟩
    rw [f_X_reset_L45, show (6 : Int32) = nI 6 from rfl, if_pos (nI_le (show 6 ≤ i by omega) (by omega))]
  | succ d ih =>
    intro f9 i f hi hf h
    obtain ⟨f9, rfl⟩ : ∃ j', f9 = j' + 1 := ⟨f9 - 1, by omega⟩
    obtain ⟨v, f', h1, h2⟩ := ih f9 (i + 1) (upd f i (nI i)) (by omega) (by omega) (by
      intro t ht
      by_cases e : t = i
      · rw [e, pk_us]
      · rw [pk_un e]; exact h t (by omega))
    refine ⟨v, f', ?_, h2⟩
    rw [f_X_reset_L45, show (6 : Int32) = nI 6 from rfl, if_neg (nI_ge (show i < 6 by omega) (by omega)), inb_nI (show i < 6 by omega) (by omega), nI_clamp (show i < 2 ^ 31 by omega), nI_1]
    exact h1
theorem X_reset_ok (K : Nat) {f g rr : Nat → Int32} (hK : 2300 < K) : ∃ f' g' rr' : Nat → Int32, f_X_reset K 2160 f 54 g 6 rr = some (-1, 4, 0, 0, 0, f', g', rr') ∧ mst f' g' (fun _ => 0) ∧ ∀ n, n ≤ 6 → rok n rr' (fun t => t) := by
  obtain ⟨v1, f1, a1, a2⟩ := X_reset_L2_ok K 2160 K 0 f (by omega) (by omega) (fun _ h => absurd h (Nat.not_lt_zero _))
  obtain ⟨v2, g1, b1, b2⟩ := X_reset_L24_ok K 54 K 0 g (by omega) (by omega) (fun _ h => absurd h (Nat.not_lt_zero _))
  obtain ⟨v3, r1, c1, c2⟩ := X_reset_L45_ok K 6 K 0 rr (by omega) (by omega) (fun _ h => absurd h (Nat.not_lt_zero _))
  refine ⟨f1, g1, r1, ?_, ⟨fun t ht => by rw [a2 t ht]; decide, fun p h1 _ _ => ⟨?_, ?_⟩⟩, fun n hn => ⟨fun t ht => ⟨c2 t (by omega), ht⟩, fun a b _ _ h => h⟩⟩
  · unfold f_X_reset
    rw [show (0 : Int32) = nI 0 from rfl, a1]
    simp only [Option.bind_some]
    rw [b1]
    simp only [Option.bind_some]
    rw [c1]
    rfl
  · rw [vl_zero (f := rg f1 p) 40 (fun t ht => a2 _ (by omega))]; rfl
  · rw [b2 p h1]; rfl
/-- a limb more in the model -/
theorem X_limb_core {p m : Nat} {ci : Int} {w : Int32} {f g : Nat → Int32} {Z : Nat → Int} (hp : p < 42) (hm : m < 16) (hw : ¬ w < 0) (hci : ci = 1 ∨ ci = -1) (h : mst f g Z) (hz : ∀ t, m ≤ t → t < 40 → f (40 * p + t) = 0) (hs : Z p = 0 ∨ sgz (Z p) = sgz ci) :
    mst (upd f (40 * p + m) w) (upd g p (if w ≤ 0 then g p else sgz ci)) (zset Z p (zlimb (Z p) ci m w)) ∧ (∀ t, m + 1 ≤ t → t < 40 → upd f (40 * p + m) w (40 * p + t) = 0) := by
  obtain ⟨v1, v2⟩ := h.2 p (by omega) (by omega) (by omega)
  have hup : ∀ t, m + 1 ≤ t → t < 40 → upd f (40 * p + m) w (40 * p + t) = 0 := fun t h1 h2 => by rw [pk_un (by omega)]; exact hz t (by omega) h2
  have hlow : vl (rg f p) m = (Z p).natAbs := by rw [← v1]; exact (vl_cut (f := rg f p) (by omega) hz).symm
  have hlw : vl (rg (upd f (40 * p + m) w) p) m = vl (rg f p) m := vl_congr m (fun i hi => show upd f (40 * p + m) w (40 * p + i) = f (40 * p + i) from pk_un (by omega))
  refine ⟨mst_set h (fun t ht => pk_un (by omega)) (fun i hi => ?_) ?_ ?_ (fun q hq => pk_un hq), hup⟩
  · by_cases e : i = m
    · rw [e, pk_us]; exact hw
    · rw [pk_un (by omega)]; exact h.1 _ (by omega)
  · rw [vl_cut (f := rg (upd f (40 * p + m) w) p) (n := m + 1) (by omega) hup, vl_s, hlw, hlow, zlimb_abs hci]
    show _ + (upd f (40 * p + m) w (40 * p + m)).toNatClampNeg * _ = _
    rw [pk_us]
  · rw [pk_us]
    by_cases w0 : w ≤ 0
    · have : w = 0 := by
        rw [nI_cl hw]
        rcases Nat.eq_zero_or_pos w.toNatClampNeg with q | q
        · rw [q]; rfl
        · exfalso
          rw [nI_cl hw] at w0
          exact nI_nle q (by have := Int32.toNatClampNeg_lt w; omega) w0
      rw [if_pos w0, this, zlimb_0 hci hs]
      exact v2
    · rw [if_neg w0]
      rcases zlimb_sg (z := Z p) (m := m) (w := w) hci with q | q
      · exfalso
        have e := zlimb_abs (z := Z p) (m := m) (w := w) hci
        rw [q] at e
        have hpos : 0 < w.toNatClampNeg := by
          rcases Nat.eq_zero_or_pos w.toNatClampNeg with x | x
          · exact absurd (by rw [nI_cl hw, x]; decide) w0
          · exact x
        have := Nat.mul_pos hpos (Nat.pow_pos (n := m) (show 0 < 2147483648 by decide))
        simp at *
        omega
      · exact q.symm
theorem within_ok (x : Int32) {m : Nat} (h1 : 1 ≤ m) (h2 : m ≤ 16) : ∃ n : Nat, 1 ≤ n ∧ n ≤ m ∧ f_M_within x (nI m) = some (nI n) ∧ ((¬ 1 ≤ x ∧ n = 1) ∨ (1 ≤ x ∧ x ≤ nI m ∧ x = nI n) ∨ (1 ≤ x ∧ ¬ x ≤ nI m ∧ n = m)) := by
  have e1 : (1 : Int32) = nI 1 := rfl
  unfold f_M_within
  by_cases hx : x < 0
  · have a : ¬ nI m < x := fun h => nI_pos (n := m) (by omega) (Int32.lt_trans h hx)
    have b : ¬ (1 : Int32) < x := fun h => absurd (Int32.lt_trans h hx) (by decide)
    have c : ¬ (1 : Int32) ≤ x := fun h => absurd (Int32.lt_of_le_of_lt h hx) (by decide)
    refine ⟨1, Nat.le_refl 1, h1, ?_, Or.inl ⟨c, rfl⟩⟩
    rw [if_neg a, if_neg b]; rfl
  · obtain ⟨j, hj, rfl⟩ := nI_of hx
    rw [e1]
    rcases Nat.lt_or_ge j 1 with q | q
    · refine ⟨1, Nat.le_refl 1, h1, ?_, Or.inl ⟨nI_ge q (by omega), rfl⟩⟩
      rw [if_neg (Int32.not_lt.mpr (nI_le (show j ≤ m by omega) (by omega))), if_neg (Int32.not_lt.mpr (nI_le (show j ≤ 1 by omega) (by omega)))]
    · rcases Nat.lt_or_ge m j with r | r
      · refine ⟨m, h1, Nat.le_refl m, ?_, Or.inr (Or.inr ⟨nI_le q hj, nI_ge r hj, rfl⟩)⟩
        rw [if_pos (nI_lt r hj)]
        by_cases s : m = 1
        · rw [s, if_neg (Int32.not_lt.mpr (Int32.le_refl _))]
        · rw [if_pos (nI_lt (show 1 < m by omega) (by omega))]
      · refine ⟨j, q, r, ?_, Or.inr (Or.inl ⟨nI_le q hj, nI_le r (by omega), rfl⟩)⟩
        rw [if_neg (Int32.not_lt.mpr (nI_le r (by omega)))]
        by_cases s : j = 1
        · rw [s, if_neg (Int32.not_lt.mpr (Int32.le_refl _))]
        · rw [if_pos (nI_lt (show 1 < j by omega) hj)]
set_option maxRecDepth 20000 in
theorem X_init_ok (K : Nat) (hK : 2300 < K) (rows limbs : Int32) : ∃ (n R : Nat) (f g rr : Nat → Int32), 1 ≤ n ∧ n ≤ 6 ∧ 1 ≤ R ∧ R ≤ 16 ∧ f_M_within rows 6 = some (nI n) ∧ f_M_within limbs 16 = some (nI R) ∧ f_X_init K rows limbs = some (nI n, nI R, -1, 0, 0, 4, 0, 0, 0, 2160, f, 54, g, 6, rr) ∧ mst f g (fun _ => 0) ∧ rok n rr (fun t => t) := by
  obtain ⟨n, n1, n2, n3, n4⟩ := within_ok rows (m := 6) (by decide) (by decide)
  obtain ⟨R, r1, r2, r3, r4⟩ := within_ok limbs (m := 16) (by decide) (by decide)
  obtain ⟨f, g, rr, a1, a2, a3⟩ := X_reset_ok K (f := fun _ => 0) (g := fun _ => 0) (rr := fun _ => 0) hK
  refine ⟨n, R, f, g, rr, n1, n2, r1, r2, n3, r3, ?_, a2, a3 n n2⟩
  have e6 : (6 : Int32) = nI 6 := rfl
  have e16 : (16 : Int32) = nI 16 := rfl
  have c1 : (2160 : Int32).toNatClampNeg = 2160 := by decide
  have c2 : (54 : Int32).toNatClampNeg = 54 := by decide
  have c3 : (6 : Int32).toNatClampNeg = 6 := by decide
  have b1 : nab (2160 : Int32) 2160 = true := by decide
  have b2 : nab (54 : Int32) 54 = true := by decide
  have b3 : nab (6 : Int32) 6 = true := by decide
  unfold f_X_init
  rw [c1, c2, c3, a1, b1, b2, b3]
  simp only [cond_true, Option.bind_some]
  rw [← e6] at n4
  rw [← e16] at r4
  rcases n4 with ⟨p1, p2⟩ | ⟨p1, p2, p3⟩ | ⟨p1, p2, p3⟩ <;> rcases r4 with ⟨q1, q2⟩ | ⟨q1, q2, q3⟩ | ⟨q1, q2, q3⟩
  · rw [if_neg p1, if_neg q1, p2, q2]; rfl
  · rw [if_neg p1, if_pos q1, if_pos q2, p2, q3]; rfl
  · rw [if_neg p1, if_pos q1, if_neg q2, p2, q3]; rfl
  · rw [if_pos p1, if_pos p2, if_neg q1, p3, q2]; rfl
  · rw [if_pos p1, if_pos p2, if_pos q1, if_pos q2, p3, q3]
  · rw [if_pos p1, if_pos p2, if_pos q1, if_neg q2, p3, q3]; rfl
  · rw [if_pos p1, if_neg p2, if_neg q1, p3, q2]; rfl
  · rw [if_pos p1, if_neg p2, if_pos q1, if_pos q2, p3, q3]; rfl
  · rw [if_pos p1, if_neg p2, if_pos q1, if_neg q2, p3, q3]; rfl
theorem nab_nI {j n : Nat} (h : j ≤ n) (hj : j < 2 ^ 31) : nab (nI j) n = true := by
  unfold nab
  rw [nI_clamp hj, decide_eq_true (nI_pos hj), decide_eq_true h]
  rfl
theorem M_init_ok (K : Nat) (hK : 2300 < K) {rows limbs : Int32} {n R : Nat} (h1 : 1 ≤ n) (hn : n ≤ 6) (hR1 : 1 ≤ R) (hR : R ≤ 16) (wn : f_M_within rows 6 = some (nI n)) (wr : f_M_within limbs 16 = some (nI R)) :
    ∃ (sg le ra : Nat → Int32), f_M_init K rows limbs = some (nI n, nI R, 4, 0, 0, 0, -1, 0, 0, nI R, n * (n + 1), sg, n * (n + 1), le, n * (n + 1) * R, (fun _ => 0), nI R, n * (n + 1), (fun _ => 0), n * (n + 1), (fun _ => 0), n * (n + 1) * R, (fun _ => 0), nI R, n + 1, (fun _ => 0), n + 1, (fun _ => 0), (n + 1) * R, (fun _ => 0), nI R, 0, 0, 2 * R + 1, (fun _ => 0), 2 * R + 1, (fun _ => 0), R, (fun _ => 0), n, ra) ∧ nst R (n * (n + 1)) sg le (fun _ => 0) (fun _ => 0) ∧ nst R (n * (n + 1)) (fun _ => 0) (fun _ => 0) (fun _ => 0) (fun _ => 0) ∧ nst R (n + 1) (fun _ => 0) (fun _ => 0) (fun _ => 0) (fun _ => 0) ∧ rok n ra (fun t => t) := by
  have hnS : n * (n + 1) ≤ 42 := by
    have := Nat.mul_le_mul hn (show n + 1 ≤ 7 by omega)
    omega
  have hnl : n * (n + 1) * R ≤ 42 * 16 := Nat.mul_le_mul hnS hR
  have hnl2 : (n + 1) * R ≤ 7 * 16 := Nat.mul_le_mul (by omega) hR
  have iN : ∀ s : Nat, s ≤ 42 → s * R ≤ 672 → f_N_init (nI s) (nI R) = some (nI R, s, (fun _ => 0), s, (fun _ => 0), s * R, (fun _ => 0)) := by
    intro s hs hsr
    unfold f_N_init
    rw [pk_mul, nab_nI hs (by omega), nab_nI hsr (by omega), nI_clamp (show s < 2 ^ 31 by omega), nI_clamp (show s * R < 2 ^ 31 by omega)]
    rfl
  have iS : f_S_init (nI R) = some (nI R, 0, 0, 2 * R + 1, (fun _ => 0), 2 * R + 1, (fun _ => 0), R, (fun _ => 0)) := by
    unfold f_S_init
    rw [show (2 : Int32) = nI 2 from rfl, pk_mul, nI_1, nab_nI (show 2 * R + 1 ≤ 33 by omega) (by omega), nab_nI hR (by omega), nI_clamp (show 2 * R + 1 < 2 ^ 31 by omega), nI_clamp (show R < 2 ^ 31 by omega)]
    rfl
  obtain ⟨sg, le, ra, a1, a2, a3⟩ := M_startLoading_ok K (n := n) (R := R) (sg := fun _ => 0) (le := fun _ => 0) (li := fun _ => 0) (ra := fun _ => 0) hn (by omega)
  refine ⟨sg, le, ra, ?_, a2, nst_zero (fun _ _ => rfl) (fun _ _ => rfl), nst_zero (fun _ _ => rfl) (fun _ _ => rfl), a3⟩
  unfold f_M_init
  rw [wn]
  simp only [Option.bind_some]
  rw [wr]
  simp only [Option.bind_some]
  rw [nI_1, pk_mul, iN _ hnS hnl]
  simp only [Option.bind_some]
  rw [iN _ (show n + 1 ≤ 42 by omega) (by omega)]
  simp only [Option.bind_some]
  rw [iS]
  simp only [Option.bind_some]
  rw [nab_nI hn (by omega), nI_clamp (show n < 2 ^ 31 by omega), a1]
  rfl
