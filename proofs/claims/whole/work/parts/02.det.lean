/-! Pure: a row wedged into a form of columns; why the steps divide without a rest. -/
def wd (x : Nat → Int) : List Nat → (List Nat → Int) → Int
  | [], _ => 0
  | c :: cs, g => x c * g cs - wd x cs (fun l => g (c :: l))
def sgn : Nat → Int
  | 0 => 1
  | n + 1 => - sgn n
theorem sgn_pm : ∀ n, sgn n = 1 ∨ sgn n = -1
  | 0 => Or.inl rfl
  | n + 1 => by
    rcases sgn_pm n with h | h
    · right; simp [sgn, h]
    · left; simp [sgn, h]
theorem wd_nil (x : Nat → Int) (g : List Nat → Int) : wd x [] g = 0 := by unfold wd; rfl
theorem wd_cons (x : Nat → Int) (c : Nat) (cs : List Nat) (g : List Nat → Int) : wd x (c :: cs) g = x c * g cs - wd x cs (fun l => g (c :: l)) := by
  conv => lhs; unfold wd
theorem wd_mul (x : Nat → Int) (a : Int) : ∀ (cs : List Nat) (g : List Nat → Int), wd x cs (fun l => a * g l) = a * wd x cs g
  | [], g => by rw [wd_nil, wd_nil]; simp
  | c :: cs, g => by
    rw [wd_cons, wd_cons, wd_mul x a cs (fun l => g (c :: l)), Int.mul_sub]
    congr 1
    rw [← Int.mul_assoc, ← Int.mul_assoc, Int.mul_comm a]
theorem wd_subg (x : Nat → Int) : ∀ (cs : List Nat) (g h : List Nat → Int), wd x cs (fun l => g l - h l) = wd x cs g - wd x cs h
  | [], g, h => by rw [wd_nil, wd_nil, wd_nil]; simp
  | c :: cs, g, h => by
    rw [wd_cons, wd_cons, wd_cons, wd_subg x cs (fun l => g (c :: l)) (fun l => h (c :: l)), Int.mul_sub]
    generalize x c * g cs = u
    generalize x c * h cs = v
    omega
theorem wd_zero (x : Nat → Int) : ∀ (cs : List Nat), wd x cs (fun _ => 0) = 0
  | [] => by rw [wd_nil]
  | c :: cs => by rw [wd_cons, wd_zero x cs]; simp
theorem wd_lin (a b : Int) (x y : Nat → Int) : ∀ (cs : List Nat) (g : List Nat → Int), wd (fun j => a * x j - b * y j) cs g = a * wd x cs g - b * wd y cs g
  | [], g => by rw [wd_nil, wd_nil, wd_nil]; simp
  | c :: cs, g => by
    rw [wd_cons, wd_cons, wd_cons, wd_lin a b x y cs (fun l => g (c :: l)), Int.sub_mul, Int.mul_sub, Int.mul_sub, Int.mul_assoc, Int.mul_assoc]
    generalize a * (x c * g cs) = u
    generalize b * (y c * g cs) = v
    omega
theorem wd_sm (a : Int) (x : Nat → Int) : ∀ (cs : List Nat) (g : List Nat → Int), wd (fun j => a * x j) cs g = a * wd x cs g
  | [], g => by rw [wd_nil, wd_nil]; simp
  | c :: cs, g => by
    rw [wd_cons, wd_cons, wd_sm a x cs (fun l => g (c :: l)), Int.mul_sub, Int.mul_assoc]
theorem wd_anti (x y : Nat → Int) : ∀ (cs : List Nat) (g : List Nat → Int), wd x cs (fun l => wd y l g) = - wd y cs (fun l => wd x l g)
  | [], g => by rw [wd_nil, wd_nil]; simp
  | c :: cs, g => by
    have ih := wd_anti x y cs (fun l => g (c :: l))
    have e1 : (fun l => wd y (c :: l) g) = fun l => y c * g l - wd y l (fun l' => g (c :: l')) := by
      funext l; rw [wd_cons]
    have e2 : (fun l => wd x (c :: l) g) = fun l => x c * g l - wd x l (fun l' => g (c :: l')) := by
      funext l; rw [wd_cons]
    rw [wd_cons, wd_cons, e1, e2, wd_subg x cs (fun l => y c * g l) (fun l => wd y l (fun l' => g (c :: l'))), wd_subg y cs (fun l => x c * g l) (fun l => wd x l (fun l' => g (c :: l'))), wd_mul, wd_mul, ih]
    generalize x c * wd y cs g = u
    generalize y c * wd x cs g = v
    omega
theorem wd_alt (x : Nat → Int) (cs : List Nat) (g : List Nat → Int) : wd x cs (fun l => wd x l g) = 0 := by
  have h := wd_anti x x cs g
  omega
theorem wd_pre (y : Nat → Int) : ∀ (pre cs : List Nat) (g : List Nat → Int), (∀ c ∈ pre, y c = 0) → wd y (pre ++ cs) g = sgn pre.length * wd y cs (fun l => g (pre ++ l))
  | [], cs, g, _ => by simp [sgn]
  | c :: pre, cs, g, h => by
    have ih := wd_pre y pre cs (fun l => g (c :: l)) (fun c' hc => h c' (List.mem_cons_of_mem _ hc))
    rw [List.cons_append, wd_cons, ih, h c List.mem_cons_self, List.length_cons]
    simp only [sgn, List.cons_append, Int.zero_mul, Int.zero_sub, Int.neg_mul]
theorem wd_one (y : Nat → Int) (k : Nat) (g : List Nat → Int) : wd y [k] g = y k * g [] := by
  rw [wd_cons, wd_nil]; simp
theorem wd_two (y : Nat → Int) (k j : Nat) (g : List Nat → Int) : wd y [k, j] g = y k * g [j] - y j * g [k] := by
  rw [wd_cons, wd_one]
/-- the facts of one step: p divides; the rows that it makes go on with the same facts -/
theorem bar_eq {F : List Nat → Int} {Ak Ai ai : Nat → Int} {p : Int} (hi : ∀ l, wd ai l F = p * wd Ai l F) (l : List Nat) : wd ai l (fun l => wd Ak l F) = p * wd Ai l (fun l => wd Ak l F) := by
  rw [wd_anti ai Ak, show (fun l => wd ai l F) = fun l => p * wd Ai l F from funext hi, wd_mul, wd_anti Ai Ak]
  simp only [Int.mul_neg]
theorem bar_self {F : List Nat → Int} {Ak ak : Nat → Int} {p : Int} (hk : ∀ l, wd ak l F = p * wd Ak l F) (l : List Nat) : wd ak l (fun l => wd Ak l F) = 0 := by
  rw [bar_eq hk, wd_alt]; simp
theorem bar_two {F : List Nat → Int} {Ak Ai ak ai : Nat → Int} {p : Int} (hk : ∀ l, wd ak l F = p * wd Ak l F) (hi : ∀ l, wd ai l F = p * wd Ai l F) (l : List Nat) : wd ai l (fun l => wd ak l F) = p * (p * wd Ai l (fun l => wd Ak l F)) := by
  rw [show (fun l => wd ak l F) = fun l => p * wd Ak l F from funext hk, wd_mul, bar_eq hi]
theorem bar_div {F : List Nat → Int} {Ak Ai ak ai : Nat → Int} {p s : Int} {pre : List Nat} (hp : p ≠ 0) (hs : s = 1 ∨ s = -1) (hF : F pre = s * p) (hk : ∀ l, wd ak l F = p * wd Ak l F) (hi : ∀ l, wd ai l F = p * wd Ai l F) (zk : ∀ c ∈ pre, ak c = 0) (zi : ∀ c ∈ pre, ai c = 0) (k j : Nat) : ∃ z, ak k * ai j - ai k * ak j = p * z := by
  have h := bar_two hk hi (pre ++ [k, j])
  rw [wd_pre ai pre [k, j] _ zi, wd_two, wd_pre ak pre [j] _ zk, wd_pre ak pre [k] _ zk, wd_one, wd_one, List.append_nil, hF] at h
  generalize wd Ai (pre ++ [k, j]) (fun l => wd Ak l F) = z at h
  have e : p * (ak k * ai j - ai k * ak j) = p * (p * (-s * z)) := by
    rcases sgn_pm pre.length with q | q <;> rcases hs with r | r <;> rw [q, r] at h <;> subst r <;> grind
  exact ⟨_, Int.eq_of_mul_eq_mul_left hp e⟩
theorem bar_next {F : List Nat → Int} {Ak Ai ak ai a' : Nat → Int} {p : Int} {k : Nat} (hp : p ≠ 0) (hk : ∀ l, wd ak l F = p * wd Ak l F) (hi : ∀ l, wd ai l F = p * wd Ai l F) (ha : ∀ j, p * a' j = ak k * ai j - ai k * ak j) (l : List Nat) : wd a' l (fun l => wd Ak l F) = ak k * wd Ai l (fun l => wd Ak l F) := by
  have h : p * wd a' l (fun l => wd Ak l F) = p * (ak k * wd Ai l (fun l => wd Ak l F)) := by
    rw [← wd_sm, show (fun j => p * a' j) = fun j => ak k * ai j - ai k * ak j from funext ha, wd_lin, bar_self hk, bar_eq hi]
    grind
  exact Int.eq_of_mul_eq_mul_left hp h
theorem bar_piv {F : List Nat → Int} {Ak ak : Nat → Int} {p s : Int} {pre : List Nat} {k : Nat} (hp : p ≠ 0) (hF : F pre = s * p) (hk : ∀ l, wd ak l F = p * wd Ak l F) (zk : ∀ c ∈ pre, ak c = 0) : wd Ak (pre ++ [k]) F = sgn pre.length * s * ak k := by
  have h := hk (pre ++ [k])
  rw [wd_pre ak pre [k] _ zk, wd_one, List.append_nil, hF] at h
  exact (Int.eq_of_mul_eq_mul_left hp (by grind)).symm
