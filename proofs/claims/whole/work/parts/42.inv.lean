/-! Program and model side by side: what they keep. -/
/-- while the numbers are being loaded: the number that is chosen -/
def Lo (n R : Nat) (M : Nat → Nat → Int) (ch cs cl chX csX clX : Int32) (a7 a25 : Nat → Int32) : Prop :=
  (ch = -1 ∧ chX = -1) ∨ ∃ (i j m : Nat) (ci : Int), i < n ∧ j ≤ n ∧ ch = nI (i * (n + 1) + j) ∧ chX = nI (plc n i j) ∧ cs = sgz ci ∧ csX = sgz ci ∧ (ci = 0 ∨ ci = 1 ∨ ci = -1) ∧ cl = nI m ∧ clX = nI m ∧ m ≤ R ∧ (ci ≠ 0 → lch R a7 (i * (n + 1) + j) m (M i j) (sgz ci) ∧ ∀ t, m ≤ t → t < 40 → a25 (40 * plc n i j + t) = 0)
def crN (n : Nat) (M A : Nat → Nat → Int) (N : Nat → Int) : Prop := (∀ i, i < n → sumN M N i (n - i) i = M i n * M (n - 1) (n - 1)) ∧ (∀ i, i < n → sumN A N i n 0 = A i n * M (n - 1) (n - 1))
/-- after the loading -/
def Ph (n R : Nat) (M : Nat → Nat → Int) (ZL ZO ZX : Nat → Int) (ro : Nat → Nat) (pn : Nat) (od : Bool) (told steps : Int32) : Prop :=
  (told = 0 ∧ ∃ k, 0 < k ∧ k < n ∧ steps = nI k ∧ pn = k ∧ BI n k (ldd n ro ZL) M) ∨
  (told = 0 ∧ pn = n ∧ ∃ (e : Nat) (N : Nat → Int), e < n ∧ steps = nI (n + e) ∧ (∀ c, c < n → M c c ≠ 0) ∧ crN n M (ldd n ro ZL) N ∧ ∀ c, n - e ≤ c → c < n → ZO c = N c ∧ ZX (42 + c) = N c ∧ (N c).natAbs < 2147483648 ^ R) ∨
  (told = 1 ∧ ∃ N : Nat → Int, (∀ c, c < n → ZO c = osg od (N c) ∧ ZX (42 + c) = N c) ∧ ZO n = osg od (M (n - 1) (n - 1)) ∧ ∀ row, row < n → sumN (fun a b => ZL (a * (n + 1) + b)) ZO row n 0 = ZL (row * (n + 1) + n) * ZO n) ∨
  (told = 2 ∨ told = 3)
def Inv (n R : Nat) (told steps piv odd ch cs cl : Int32) (a5 a6 a7 a9 a10 a11 a13 a14 a15 a20 : Nat → Int32) (chX csX clX st dn pvX odX : Int32) (a25 a26 a27 : Nat → Int32) : Prop :=
  ∃ (M : Nat → Nat → Int) (Z ZL ZO ZX : Nat → Int) (ro : Nat → Nat) (pn : Nat) (od : Bool),
    nst R (n * (n + 1)) a5 a6 a7 Z ∧ nst R (n * (n + 1)) a9 a10 a11 ZL ∧ nst R (n + 1) a13 a14 a15 ZO ∧ mst a25 a26 ZX ∧ cm n ro Z M ∧ mm n ZX M ∧ rok n a20 ro ∧ rok n a27 ro ∧ onto n ro ∧ pn ≤ n ∧
    st = told ∧ dn = steps ∧ piv = nI pn ∧ pvX = nI pn ∧ odd = b2i od ∧ odX = b2i od ∧
    ((told = 4 ∧ steps = 0 ∧ pn = 0 ∧ od = false ∧ ro = (fun t => t) ∧ Lo n R M ch cs cl chX csX clX a7 a25) ∨ (ch = -1 ∧ Ph n R M ZL ZO ZX ro pn od told steps))
theorem Ph_n4 {n R : Nat} {M : Nat → Nat → Int} {ZL ZO ZX : Nat → Int} {ro : Nat → Nat} {pn : Nat} {od : Bool} {told steps : Int32} (h : Ph n R M ZL ZO ZX ro pn od told steps) : ¬ told = 4 := by
  intro e
  subst e
  rcases h with ⟨q, _⟩ | ⟨q, _⟩ | ⟨q, _⟩ | q | q <;> exact absurd q (by decide)
theorem Inv_start {n R : Nat} {sg le li sgL leL liL sgO leO liO ra f g rr : Nat → Int32} {cs cl csX clX : Int32} {ZL ZO : Nat → Int} (h1 : nst R (n * (n + 1)) sg le li (fun _ => 0)) (h2 : nst R (n * (n + 1)) sgL leL liL ZL) (h3 : nst R (n + 1) sgO leO liO ZO) (h4 : mst f g (fun _ => 0)) (h5 : rok n ra (fun t => t)) (h6 : rok n rr (fun t => t)) :
    Inv n R 4 0 0 0 (-1) cs cl sg le li sgL leL liL sgO leO liO ra (-1) csX clX 4 0 0 0 f g rr :=
  ⟨fun _ _ => 0, fun _ => 0, ZL, ZO, fun _ => 0, fun t => t, 0, false, h1, h2, h3, h4, fun _ _ _ _ => rfl, fun _ _ _ _ => rfl, h5, h6, fun r hr => ⟨r, hr, rfl⟩, Nat.zero_le n, rfl, rfl, rfl, rfl, rfl, rfl, Or.inl ⟨rfl, rfl, rfl, rfl, rfl, Or.inl ⟨rfl, rfl⟩⟩⟩
theorem Inv_reset (K : Nat) {n R : Nat} {told steps piv odd ch cs cl chX csX clX st dn pvX odX : Int32} {a5 a6 a7 a9 a10 a11 a13 a14 a15 a20 a25 a26 a27 : Nat → Int32} (hn : n ≤ 6) (hK : 2300 < K) (h : Inv n R told steps piv odd ch cs cl a5 a6 a7 a9 a10 a11 a13 a14 a15 a20 chX csX clX st dn pvX odX a25 a26 a27) :
    ∃ sg le ra f g rr : Nat → Int32, f_M_reset K (nI n) (n * (n + 1)) a5 (n * (n + 1)) a6 n a20 = some (4, 0, 0, 0, -1, 0, 0, sg, le, ra) ∧ f_X_reset K 2160 a25 54 a26 6 a27 = some (-1, 4, 0, 0, 0, f, g, rr) ∧ Inv n R 4 0 0 0 (-1) 0 0 sg le a7 a9 a10 a11 a13 a14 a15 ra (-1) csX clX 4 0 0 0 f g rr := by
  obtain ⟨M, Z, ZL, ZO, ZX, ro, pn, od, h1, h2, h3, _⟩ := h
  obtain ⟨sg, le, ra, b1, b2, b3⟩ := M_startLoading_ok K (n := n) (R := R) (sg := a5) (le := a6) (li := a7) (ra := a20) hn (by omega)
  obtain ⟨f, g, rr, c1, c2, c3⟩ := X_reset_ok K (f := a25) (g := a26) (rr := a27) hK
  refine ⟨sg, le, ra, f, g, rr, ?_, c1, Inv_start b2 h2 h3 c2 b3 (c3 n hn)⟩
  unfold f_M_reset
  rw [b1]
  rfl
theorem isPlace_cases {n : Nat} {row col : Int32} (hn : n ≤ 6) : (f_M_isPlace (nI n) row col = some 0 ∧ f_X_isPlace (nI n) row col = some 0) ∨ ∃ i j : Nat, i < n ∧ j ≤ n ∧ row = nI i ∧ col = nI j ∧ f_M_isPlace (nI n) row col = some 1 ∧ f_X_isPlace (nI n) row col = some 1 := by
  unfold f_M_isPlace f_X_isPlace
  by_cases h1 : row < 0
  · left; rw [if_pos h1]; exact ⟨rfl, rfl⟩
  · by_cases h2 : nI n ≤ row
    · left; rw [if_neg h1, if_pos h2]; exact ⟨rfl, rfl⟩
    · by_cases h3 : col < 0
      · left; rw [if_neg h1, if_neg h2, if_pos h3]; exact ⟨rfl, rfl⟩
      · by_cases h4 : nI n < col
        · left; rw [if_neg h1, if_neg h2, if_neg h3, if_pos h4]; exact ⟨rfl, rfl⟩
        · right
          obtain ⟨i, hi, ei⟩ := nI_of h1
          obtain ⟨j, hj, ej⟩ := nI_of h3
          refine ⟨i, j, ?_, ?_, ei, ej, ?_, ?_⟩
          · rw [ei, nI_leI (by omega) hi] at h2; omega
          · rw [ej, Int32.not_lt, nI_leI hj (by omega)] at h4; exact h4
          · rw [if_neg h1, if_neg h2, if_neg h3, if_neg h4]
          · rw [if_neg h1, if_neg h2, if_neg h3, if_neg h4]
theorem sign_cases {s : Int32} (h1 : ¬ s < -1) (h2 : s ≤ 1) : ∃ ci : Int, s = sgz ci ∧ (ci = 0 ∨ ci = 1 ∨ ci = -1) := by
  have a : s.toInt = -1 ∨ s.toInt = 0 ∨ s.toInt = 1 := by
    rw [Int32.not_lt, Int32.le_iff_toInt_le] at h1
    rw [Int32.le_iff_toInt_le] at h2
    have e1 : (-1 : Int32).toInt = -1 := by decide
    have e2 : (1 : Int32).toInt = 1 := by decide
    omega
  rcases a with a | a | a
  · exact ⟨-1, Int32.toInt_inj.mp (by rw [a]; decide), Or.inr (Or.inr rfl)⟩
  · exact ⟨0, Int32.toInt_inj.mp a, Or.inl rfl⟩
  · exact ⟨1, Int32.toInt_inj.mp a, Or.inr (Or.inl rfl)⟩
theorem Inv_entry (K : Nat) {n R : Nat} {told steps piv odd ch cs cl chX csX clX st dn pvX odX row col sign : Int32} {a5 a6 a7 a9 a10 a11 a13 a14 a15 a20 a25 a26 a27 : Nat → Int32} (hn : n ≤ 6) (hK : 2300 < K) (h : Inv n R told steps piv odd ch cs cl a5 a6 a7 a9 a10 a11 a13 a14 a15 a20 chX csX clX st dn pvX odX a25 a26 a27) :
    ∃ (x ch' cs' cl' chX' csX' clX' : Int32) (sg le f g : Nat → Int32), f_M_entry (nI n) told ch cs cl (n * (n + 1)) a5 (n * (n + 1)) a6 n a20 row col sign = some (x, ch', cs', cl', sg, le) ∧ f_X_entry K (nI n) chX csX clX st 2160 a25 54 a26 row col sign = some (x, chX', csX', clX', f, g) ∧ Inv n R told steps piv odd ch' cs' cl' sg le a7 a9 a10 a11 a13 a14 a15 a20 chX' csX' clX' st dn pvX odX f g a27 := by
  have hnS : n * (n + 1) ≤ 42 := by
    have := Nat.mul_le_mul hn (show n + 1 ≤ 7 by omega)
    omega
  have h' := h
  obtain ⟨M, Z, ZL, ZO, ZX, ro, pn, od, h1, h2, h3, h4, h5, h6, h7, h8, h9, h10, h11, h12, h13, h14, h15, h16, hp⟩ := h
  have hno : f_M_entry (nI n) told ch cs cl (n * (n + 1)) a5 (n * (n + 1)) a6 n a20 row col sign = some (0, ch, cs, cl, a5, a6) → f_X_entry K (nI n) chX csX clX st 2160 a25 54 a26 row col sign = some (0, chX, csX, clX, a25, a26) → ∃ (x ch' cs' cl' chX' csX' clX' : Int32) (sg le f g : Nat → Int32), f_M_entry (nI n) told ch cs cl (n * (n + 1)) a5 (n * (n + 1)) a6 n a20 row col sign = some (x, ch', cs', cl', sg, le) ∧ f_X_entry K (nI n) chX csX clX st 2160 a25 54 a26 row col sign = some (x, chX', csX', clX', f, g) ∧ Inv n R told steps piv odd ch' cs' cl' sg le a7 a9 a10 a11 a13 a14 a15 a20 chX' csX' clX' st dn pvX odX f g a27 :=
    fun x y => ⟨_, _, _, _, _, _, _, _, _, _, _, x, y, h'⟩
  rw [h11] at hno ⊢
  rw [h11] at h'
  unfold f_M_entry f_X_entry at hno ⊢
  rcases hp with ⟨p1, p2, p3, p4, p5, p6⟩ | ⟨_, p2⟩
  · rw [if_pos p1, if_pos p1] at hno ⊢
    rcases isPlace_cases (n := n) (row := row) (col := col) hn with ⟨q1, q2⟩ | ⟨i, j, hi, hj, ei, ej, q1, q2⟩
    · rw [q1, q2] at hno ⊢
      exact hno rfl rfl
    · rw [q1, q2] at hno ⊢
      simp only [Option.bind_some] at hno ⊢
      rw [if_neg (show ¬ (1 : Int32) = 0 by decide), if_neg (show ¬ (1 : Int32) = 0 by decide)] at hno ⊢
      by_cases s1 : sign < -1
      · rw [if_pos s1, if_pos s1] at hno ⊢
        exact hno rfl rfl
      · rw [if_neg s1, if_neg s1] at hno ⊢
        by_cases s2 : sign ≤ 1
        · rw [if_pos s2, if_pos s2] at hno ⊢
          obtain ⟨ci, c1, c2⟩ := sign_cases s1 s2
          have Ls := cell_lt hi hj
          have Lp := plc_lt hn hi hj
          rw [ei, ej, M_slotAt_ok (ra := a20) (rw := ro) (by omega) hi hj h7.1, X_place_ok hn hi hj, p5]
          simp only [Option.bind_some]
          obtain ⟨sg, le, d1, d2⟩ := N_clear_ok (s := i * (n + 1) + j) Ls (by omega) h1
          obtain ⟨f, e1, e2, e3⟩ := X_clear_ok K (p := plc n i j) (f := a25) (g := a26) (by omega) (by omega)
          rw [d1, e1]
          simp only [Option.bind_some]
          have hcm := cm_set (z := 0) h7 hi hj h5
          rw [p5] at hcm
          refine ⟨_, _, _, _, _, _, _, _, _, _, _, rfl, rfl, mset M i j 0, zset Z (i * (n + 1) + j) 0, ZL, ZO, zset ZX (plc n i j) 0, fun t => t, pn, od, d2, h2, h3, ?_, hcm, mm_set hn hj h6, by rw [← p5]; exact h7, by rw [← p5]; exact h8, by rw [← p5]; exact h9, h10, rfl, h12, h13, h14, h15, h16, Or.inl ⟨p1, p2, p3, p4, rfl, Or.inr ⟨i, j, 0, ci, hi, hj, rfl, rfl, c1, c1, c2, rfl, rfl, Nat.zero_le R, fun _ => ⟨⟨fun t ht => absurd ht (Nat.not_lt_zero t), ?_, Or.inl mset_s⟩, fun t _ ht => e3 t ht⟩⟩⟩⟩
          · exact mst_set h4 e2 (fun t ht => by rw [e3 t ht]; decide) (by rw [vl_zero (f := rg f (plc n i j)) 40 (fun t ht => e3 t ht)]; rfl) pk_us (fun q hq => pk_un hq)
          · rw [vl_0, mset_s]; rfl
        · rw [if_neg s2, if_neg s2] at hno ⊢
          exact hno rfl rfl
  · rw [if_neg (Ph_n4 p2), if_neg (Ph_n4 p2)] at hno ⊢
    exact hno rfl rfl
theorem Inv_limb {n R : Nat} {told steps piv odd ch cs cl chX csX clX st dn pvX odX word : Int32} {a5 a6 a7 a9 a10 a11 a13 a14 a15 a20 a25 a26 a27 : Nat → Int32} (hn : n ≤ 6) (hR : R ≤ 16) (h : Inv n R told steps piv odd ch cs cl a5 a6 a7 a9 a10 a11 a13 a14 a15 a20 chX csX clX st dn pvX odX a25 a26 a27) :
    ∃ (x cl' clX' : Int32) (sg le li f g : Nat → Int32), f_M_limb (nI R) ch cs cl (nI R) (n * (n + 1)) a5 (n * (n + 1)) a6 (n * (n + 1) * R) a7 word = some (x, cl', sg, le, li) ∧ f_X_limb (nI R) chX csX clX st 2160 a25 54 a26 word = some (x, clX', f, g) ∧ Inv n R told steps piv odd ch cs cl' sg le li a9 a10 a11 a13 a14 a15 a20 chX csX clX' st dn pvX odX f g a27 := by
  have hnS : n * (n + 1) ≤ 42 := by
    have := Nat.mul_le_mul hn (show n + 1 ≤ 7 by omega)
    omega
  have hnl : n * (n + 1) * R ≤ 42 * 16 := Nat.mul_le_mul hnS hR
  have h' := h
  obtain ⟨M, Z, ZL, ZO, ZX, ro, pn, od, h1, h2, h3, h4, h5, h6, h7, h8, h9, h10, h11, h12, h13, h14, h15, h16, hp⟩ := h
  have hno : f_M_limb (nI R) ch cs cl (nI R) (n * (n + 1)) a5 (n * (n + 1)) a6 (n * (n + 1) * R) a7 word = some (0, cl, a5, a6, a7) → f_X_limb (nI R) chX csX clX st 2160 a25 54 a26 word = some (0, clX, a25, a26) → ∃ (x cl' clX' : Int32) (sg le li f g : Nat → Int32), f_M_limb (nI R) ch cs cl (nI R) (n * (n + 1)) a5 (n * (n + 1)) a6 (n * (n + 1) * R) a7 word = some (x, cl', sg, le, li) ∧ f_X_limb (nI R) chX csX clX st 2160 a25 54 a26 word = some (x, clX', f, g) ∧ Inv n R told steps piv odd ch cs cl' sg le li a9 a10 a11 a13 a14 a15 a20 chX csX clX' st dn pvX odX f g a27 :=
    fun x y => ⟨_, _, _, _, _, _, _, _, x, y, h'⟩
  rw [h11] at hno ⊢
  rw [h11] at h'
  unfold f_M_limb f_X_limb at hno ⊢
  rcases hp with ⟨p1, p2, p3, p4, p5, p6⟩ | ⟨p1, p2⟩
  · rw [if_pos p1] at hno ⊢
    rcases p6 with ⟨q1, q2⟩ | ⟨i, j, m, ci, hi, hj, q1, q2, q3, q4, q5, q6, q7, q8, q9⟩
    · rw [if_pos q1, if_pos (show chX < 0 by rw [q2]; decide)] at hno ⊢
      exact hno rfl rfl
    · have Ls := cell_lt hi hj
      have Lp := plc_lt hn hi hj
      rw [if_neg (show ¬ ch = -1 by rw [q1]; intro e; have := nI_pos (n := i * (n + 1) + j) (by omega); rw [e] at this; exact this (by decide)), if_neg (show ¬ chX < 0 by rw [q2]; exact nI_pos (by omega))] at hno ⊢
      by_cases c0 : cs = 0
      · rw [if_pos c0, if_pos (show csX = 0 by rw [q4, ← q3]; exact c0)] at hno ⊢
        exact hno rfl rfl
      · have ci0 : ci ≠ 0 := fun e => c0 (by rw [q3, e]; rfl)
        have cpm : ci = 1 ∨ ci = -1 := by omega
        rw [if_neg c0, if_neg (show ¬ csX = 0 by rw [q4, ← q3]; exact c0)] at hno ⊢
        by_cases w0 : word < 0
        · rw [if_pos w0, if_pos w0] at hno ⊢
          exact hno rfl rfl
        · rw [if_neg w0, if_neg w0] at hno ⊢
          by_cases hmR : m = R
          · rw [if_neg (show ¬ cl < nI R by rw [q6, hmR]; exact fun e => Int32.lt_irrefl e), if_pos (show clX = nI R by rw [q7, hmR])] at hno ⊢
            exact hno rfl rfl
          · rw [if_pos (show cl < nI R by rw [q6]; exact nI_lt (by omega) (by omega)), if_neg (show ¬ clX = nI R by rw [q7, nI_eq (by omega) (by omega)]; exact hmR)]
            obtain ⟨l1, l2⟩ := q9 ci0
            have hzM : Z (i * (n + 1) + j) = M i j := by
              have := h5 i hi j hj
              rw [p5] at this
              exact this
            have hzX : ZX (plc n i j) = M i j := h6 i hi j hj
            obtain ⟨sg, le, li, d1, d2, d3⟩ := N_putLimb_ok (R := R) (s := i * (n + 1) + j) (m := m) (ci := ci) (w := word) Ls (by omega) (by omega) (by omega) (by omega) w0 cpm h1 (by rw [hzM]; exact l1)
            obtain ⟨e1, e2⟩ := X_limb_core (p := plc n i j) (m := m) (ci := ci) (w := word) Lp (by omega) w0 cpm h4 l2 (by rw [hzX]; exact l1.2.2)
            rw [hzM] at d2 d3
            rw [hzX] at e1
            rw [q1, q6, q3, d1, q2, q7, q4, show (40 : Int32) = nI 40 from rfl, pk_mul, nI_add, inb_nI (show 40 * plc n i j + m < 2160 by omega) (by omega), inb_nI (show plc n i j < 54 by omega) (by omega), nI_clamp (show 40 * plc n i j + m < 2 ^ 31 by omega), nI_clamp (show plc n i j < 2 ^ 31 by omega), nI_1]
            simp only [Option.bind_some, cond_true]
            have hcm := cm_set (z := zlimb (M i j) ci m word) h7 hi hj h5
            rw [p5] at hcm
            have hx : (if word ≤ 0 then some ((1 : Int32), nI (m + 1), upd a25 (40 * plc n i j + m) word, upd a26 (plc n i j) (a26 (plc n i j))) else some ((1 : Int32), nI (m + 1), upd a25 (40 * plc n i j + m) word, upd a26 (plc n i j) (sgz ci))) = some ((1 : Int32), nI (m + 1), upd a25 (40 * plc n i j + m) word, upd a26 (plc n i j) (if word ≤ 0 then a26 (plc n i j) else sgz ci)) := by
              by_cases w1 : word ≤ 0
              · rw [if_pos w1, if_pos w1]
              · rw [if_neg w1, if_neg w1]
            rw [hx]
            refine ⟨_, _, _, _, _, _, _, _, rfl, rfl, mset M i j (zlimb (M i j) ci m word), _, ZL, ZO, _, fun t => t, pn, od, d2, h2, h3, e1, hcm, mm_set hn hj h6, by rw [← p5]; exact h7, by rw [← p5]; exact h8, by rw [← p5]; exact h9, h10, rfl, h12, h13, h14, h15, h16, Or.inl ⟨p1, p2, p3, p4, rfl, Or.inr ⟨i, j, m + 1, ci, hi, hj, rfl, rfl, rfl, rfl, q5, rfl, rfl, by omega, fun _ => ⟨by rw [mset_s]; exact d3, e2⟩⟩⟩⟩
  · rw [if_pos p1, if_neg (Ph_n4 p2)] at hno ⊢
    exact hno rfl rfl
