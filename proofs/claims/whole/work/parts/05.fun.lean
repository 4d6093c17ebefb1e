/-! The pure functions of the methods, laid by program out of the bytecode. -/
theorem nz_0 : narrow .boolean (.int 0) = .int 0 := rfl
theorem nz_1 : narrow .boolean (.int 1) = .int 1 := rfl
theorem og_zf {x : Int32} (h : isz x = true) : fits .boolean (.int x) = true := by
  rcases of_decide_eq_true h with rfl | rfl <;> rfl
def f_fill_L5 (k : Nat) (v1 : Int32) (v3 : Int32) (n_row : Nat) : Nat → Int32 → (Nat → Int32) → Option (Int32 × (Nat → Int32))
  | 0, _, _ => none
  | j + 1, v2, a_row =>
    if v3 ≤ v2 then
      some (v2, a_row)
    else
      cond (inb v2 n_row) (
      f_fill_L5 k v1 v3 n_row j (v2 + 1) (upd a_row v2.toNatClampNeg v1)) none
def f_fill (k : Nat) (n_row : Nat) (a_row : Nat → Int32) (val : Int32) : Option ((Nat → Int32)) :=
  (f_fill_L5 k val (nI n_row) n_row k (0 : Int32) a_row).bind fun x7 =>
  some x7.2
def f_N_clearAll (k : Nat) (n_t_signs : Nat) (a_t_signs : Nat → Int32) (n_t_lengths : Nat) (a_t_lengths : Nat → Int32) : Option ((Nat → Int32) × (Nat → Int32)) :=
  (f_fill k n_t_signs a_t_signs (0 : Int32)).bind fun x1 =>
  (f_fill k n_t_lengths a_t_lengths (0 : Int32)).bind fun x3 =>
  some (x1, x3)
def f_N_clear (n_t_signs : Nat) (a_t_signs : Nat → Int32) (n_t_lengths : Nat) (a_t_lengths : Nat → Int32) (slot : Int32) : Option ((Nat → Int32) × (Nat → Int32)) :=
  cond (inb slot n_t_signs) (
  cond (inb slot n_t_lengths) (
  some (upd a_t_signs slot.toNatClampNeg 0, upd a_t_lengths slot.toNatClampNeg 0)) none) none
def f_N_signOf (n_t_signs : Nat) (a_t_signs : Nat → Int32) (slot : Int32) : Option (Int32) :=
  cond (inb slot n_t_signs) (
  some (a_t_signs slot.toNatClampNeg)) none
def f_N_lengthOf (n_t_lengths : Nat) (a_t_lengths : Nat → Int32) (slot : Int32) : Option (Int32) :=
  cond (inb slot n_t_lengths) (
  some (a_t_lengths slot.toNatClampNeg)) none
def f_N_limbOf (t_room : Int32) (n_t_limbs : Nat) (a_t_limbs : Nat → Int32) (slot : Int32) (place : Int32) : Option (Int32) :=
  cond (inb ((slot * t_room) + place) n_t_limbs) (
  some (a_t_limbs ((slot * t_room) + place).toNatClampNeg)) none
def f_N_putLimb (t_room : Int32) (n_t_signs : Nat) (a_t_signs : Nat → Int32) (n_t_lengths : Nat) (a_t_lengths : Nat → Int32) (n_t_limbs : Nat) (a_t_limbs : Nat → Int32) (slot : Int32) (place : Int32) (word : Int32) (sign : Int32) : Option ((Nat → Int32) × (Nat → Int32) × (Nat → Int32)) :=
  cond (inb ((slot * t_room) + place) n_t_limbs) (
  if word = 0 then
    some (a_t_signs, a_t_lengths, upd a_t_limbs ((slot * t_room) + place).toNatClampNeg word)
  else
    cond (inb slot n_t_lengths) (
    cond (inb slot n_t_signs) (
    some (upd a_t_signs slot.toNatClampNeg sign, upd a_t_lengths slot.toNatClampNeg (place + 1), upd a_t_limbs ((slot * t_room) + place).toNatClampNeg word)) none) none) none
def f_N_put (t_room : Int32) (n_t_signs : Nat) (a_t_signs : Nat → Int32) (n_t_lengths : Nat) (a_t_lengths : Nat → Int32) (n_t_limbs : Nat) (a_t_limbs : Nat → Int32) (slot : Int32) (n_row : Nat) (a_row : Nat → Int32) (len : Int32) (sign : Int32) : Option ((Nat → Int32) × (Nat → Int32) × (Nat → Int32)) :=
  cond (cpb (0 : Int32) (slot * t_room) len n_row n_t_limbs) (
  cond (inb slot n_t_lengths) (
  cond (inb slot n_t_signs) (
  some (upd a_t_signs slot.toNatClampNeg sign, upd a_t_lengths slot.toNatClampNeg len, va_cpy a_row a_t_limbs (0 : Int32).toNatClampNeg (slot * t_room).toNatClampNeg len.toNatClampNeg)) none) none) none
def f_N_copy (t_room : Int32) (n_t_signs : Nat) (a_t_signs : Nat → Int32) (n_t_lengths : Nat) (a_t_lengths : Nat → Int32) (n_t_limbs : Nat) (a_t_limbs : Nat → Int32) (slot : Int32) (n_u_signs : Nat) (a_u_signs : Nat → Int32) (n_u_lengths : Nat) (a_u_lengths : Nat → Int32) (n_u_limbs : Nat) (a_u_limbs : Nat → Int32) (fromSlot : Int32) : Option ((Nat → Int32) × (Nat → Int32) × (Nat → Int32)) :=
  cond (inb fromSlot n_u_lengths) (
  cond (cpb (fromSlot * t_room) (slot * t_room) (a_u_lengths fromSlot.toNatClampNeg) n_u_limbs n_t_limbs) (
  cond (inb fromSlot n_u_lengths) (
  cond (inb slot n_t_lengths) (
  cond (inb fromSlot n_u_signs) (
  cond (inb slot n_t_signs) (
  some (upd a_t_signs slot.toNatClampNeg (a_u_signs fromSlot.toNatClampNeg), upd a_t_lengths slot.toNatClampNeg (a_u_lengths fromSlot.toNatClampNeg), va_cpy a_u_limbs a_t_limbs (fromSlot * t_room).toNatClampNeg (slot * t_room).toNatClampNeg (a_u_lengths fromSlot.toNatClampNeg).toNatClampNeg)) none) none) none) none) none) none
def f_N_negate (n_t_signs : Nat) (a_t_signs : Nat → Int32) (slot : Int32) : Option ((Nat → Int32)) :=
  cond (inb slot n_t_signs) (
  cond (inb slot n_t_signs) (
  some (upd a_t_signs slot.toNatClampNeg (-(a_t_signs slot.toNatClampNeg)))) none) none
def f_N_tell (t_room : Int32) (n_t_signs : Nat) (a_t_signs : Nat → Int32) (n_t_lengths : Nat) (a_t_lengths : Nat → Int32) (n_t_limbs : Nat) (a_t_limbs : Nat → Int32) (slot : Int32) (what : Int32) : Option (Int32) :=
  if what = (-2) then
    cond (inb slot n_t_signs) (
    some (a_t_signs slot.toNatClampNeg)) none
  else
    if what = (-1) then
      cond (inb slot n_t_lengths) (
      some (a_t_lengths slot.toNatClampNeg)) none
    else
      if what < 0 then
        some (-1 : Int32)
      else
        cond (inb slot n_t_lengths) (
        if a_t_lengths slot.toNatClampNeg ≤ what then
          some (-1 : Int32)
        else
          (f_N_limbOf t_room n_t_limbs a_t_limbs slot what).bind fun x6 =>
          some x6) none
def f_S_clear (k : Nat) (n_t_plus : Nat) (a_t_plus : Nat → Int32) (n_t_minus : Nat) (a_t_minus : Nat → Int32) : Option (Int32 × Int32 × (Nat → Int32) × (Nat → Int32)) :=
  (f_fill k n_t_plus a_t_plus (0 : Int32)).bind fun x1 =>
  (f_fill k n_t_minus a_t_minus (0 : Int32)).bind fun x3 =>
  some ((0 : Int32), (0 : Int32), x1, x3)
def f_S_addMultiple_L13 (k : Nat) (v1 : Int32) (v3 : Int32) (v4 : Int64) (v6 : Int32) (n_row : Nat) (i0_b : Int32) (n_b_limbs : Nat) (a_b_limbs : Nat → Int32) : Nat → Int64 → Int32 → (Nat → Int32) → Option (Int64 × Int32 × (Nat → Int32))
  | 0, _, _, _ => none
  | j + 1, v7, v9, a_row =>
    if v6 ≤ v9 then
      some (v7, v9, a_row)
    else
      cond (inb (v1 + v9) n_row) (
      (f_N_limbOf i0_b n_b_limbs a_b_limbs v3 v9).bind fun x15 =>
      cond (inb (v1 + v9) n_row) (
      f_S_addMultiple_L13 k v1 v3 v4 v6 n_row i0_b n_b_limbs a_b_limbs j ((v7 + (((a_row (v1 + v9).toNatClampNeg).toInt64) + (v4 * x15.toInt64))) >>> ((31 : Int32).toInt64 &&& 63)) (v9 + 1) (upd a_row (v1 + v9).toNatClampNeg (((v7 + (((a_row (v1 + v9).toNatClampNeg).toInt64) + (v4 * x15.toInt64))) &&& 2147483647).toInt32))) none) none
def f_S_addMultiple_L76 (k : Nat) (n_row : Nat) : Nat → Int64 → Int32 → (Nat → Int32) → Option (Int64 × Int32 × (Nat → Int32))
  | 0, _, _, _ => none
  | j + 1, v7, v9, a_row =>
    if lg_cmp v7 (0 : Int64) = 0 then
      some (v7, v9, a_row)
    else
      if nI n_row ≤ v9 then
        some (v7, v9, a_row)
      else
        cond (inb v9 n_row) (
        cond (inb v9 n_row) (
        f_S_addMultiple_L76 k n_row j ((v7 + ((a_row v9.toNatClampNeg).toInt64)) >>> ((31 : Int32).toInt64 &&& 63)) (v9 + 1) (upd a_row v9.toNatClampNeg (((v7 + ((a_row v9.toNatClampNeg).toInt64)) &&& 2147483647).toInt32))) none) none
def f_S_addMultiple (k : Nat) (n_row : Nat) (a_row : Nat → Int32) (fro : Int32) (b_room : Int32) (n_b_lengths : Nat) (a_b_lengths : Nat → Int32) (n_b_limbs : Nat) (a_b_limbs : Nat → Int32) (slotB : Int32) (word : Int64) : Option ((Nat → Int32)) :=
  (f_N_lengthOf n_b_lengths a_b_lengths slotB).bind fun x1 =>
  (f_S_addMultiple_L13 k fro slotB word x1 n_row b_room n_b_limbs a_b_limbs k (0 : Int64) (0 : Int32) a_row).bind fun x18 =>
  (f_S_addMultiple_L76 k n_row k x18.1 (fro + x1) x18.2.2).bind fun x32 =>
  some x32.2.2
def f_S_addProduct_L44 (k : Nat) (v2 : Int32) (v4 : Int32) (n_t_minus : Nat) (i0_a : Int32) (n_a_lengths : Nat) (a_a_lengths : Nat → Int32) (n_a_limbs : Nat) (a_a_limbs : Nat → Int32) (i0_b : Int32) (n_b_lengths : Nat) (a_b_lengths : Nat → Int32) (n_b_limbs : Nat) (a_b_limbs : Nat → Int32) : Nat → Int32 → (Nat → Int32) → Option (Int32 × (Nat → Int32))
  | 0, _, _ => none
  | j + 1, v8, a_t_minus =>
    (f_N_lengthOf n_a_lengths a_a_lengths v2).bind fun x21 =>
    if x21 ≤ v8 then
      some (v8, a_t_minus)
    else
      (f_N_limbOf i0_a n_a_limbs a_a_limbs v2 v8).bind fun x24 =>
      (f_S_addMultiple k n_t_minus a_t_minus v8 i0_b n_b_lengths a_b_lengths n_b_limbs a_b_limbs v4 x24.toInt64).bind fun x26 =>
      f_S_addProduct_L44 k v2 v4 n_t_minus i0_a n_a_lengths a_a_lengths n_a_limbs a_a_limbs i0_b n_b_lengths a_b_lengths n_b_limbs a_b_limbs j (v8 + 1) x26
def f_S_addProduct_L44b (k : Nat) (v2 : Int32) (v4 : Int32) (n_t_plus : Nat) (i0_a : Int32) (n_a_lengths : Nat) (a_a_lengths : Nat → Int32) (n_a_limbs : Nat) (a_a_limbs : Nat → Int32) (i0_b : Int32) (n_b_lengths : Nat) (a_b_lengths : Nat → Int32) (n_b_limbs : Nat) (a_b_limbs : Nat → Int32) : Nat → Int32 → (Nat → Int32) → Option (Int32 × (Nat → Int32))
  | 0, _, _ => none
  | j + 1, v8, a_t_plus =>
    (f_N_lengthOf n_a_lengths a_a_lengths v2).bind fun x44 =>
    if x44 ≤ v8 then
      some (v8, a_t_plus)
    else
      (f_N_limbOf i0_a n_a_limbs a_a_limbs v2 v8).bind fun x47 =>
      (f_S_addMultiple k n_t_plus a_t_plus v8 i0_b n_b_lengths a_b_lengths n_b_limbs a_b_limbs v4 x47.toInt64).bind fun x49 =>
      f_S_addProduct_L44b k v2 v4 n_t_plus i0_a n_a_lengths a_a_lengths n_a_limbs a_a_limbs i0_b n_b_lengths a_b_lengths n_b_limbs a_b_limbs j (v8 + 1) x49
def f_S_addProduct (k : Nat) (n_t_plus : Nat) (a_t_plus : Nat → Int32) (n_t_minus : Nat) (a_t_minus : Nat → Int32) (a_room : Int32) (n_a_signs : Nat) (a_a_signs : Nat → Int32) (n_a_lengths : Nat) (a_a_lengths : Nat → Int32) (n_a_limbs : Nat) (a_a_limbs : Nat → Int32) (slotA : Int32) (b_room : Int32) (n_b_signs : Nat) (a_b_signs : Nat → Int32) (n_b_lengths : Nat) (a_b_lengths : Nat → Int32) (n_b_limbs : Nat) (a_b_limbs : Nat → Int32) (slotB : Int32) (factor : Int32) : Option ((Nat → Int32) × (Nat → Int32)) :=
  (f_N_signOf n_a_signs a_a_signs slotA).bind fun x1 =>
  (f_N_signOf n_b_signs a_b_signs slotB).bind fun x3 =>
  if (x1 * x3) * factor = 0 then
    some (a_t_plus, a_t_minus)
  else
    if (x1 * x3) * factor ≤ 0 then
      (f_S_addProduct_L44 k slotA slotB n_t_minus a_room n_a_lengths a_a_lengths n_a_limbs a_a_limbs b_room n_b_lengths a_b_lengths n_b_limbs a_b_limbs k (0 : Int32) a_t_minus).bind fun x28 =>
      some (a_t_plus, x28.2)
    else
      (f_S_addProduct_L44b k slotA slotB n_t_plus a_room n_a_lengths a_a_lengths n_a_limbs a_a_limbs b_room n_b_lengths a_b_lengths n_b_limbs a_b_limbs k (0 : Int32) a_t_plus).bind fun x51 =>
      some (x51.2, a_t_minus)
def f_S_addProductSame_L44 (k : Nat) (v2 : Int32) (v4 : Int32) (n_t_minus : Nat) (i0_a : Int32) (n_a_lengths : Nat) (a_a_lengths : Nat → Int32) (n_a_limbs : Nat) (a_a_limbs : Nat → Int32) : Nat → Int32 → (Nat → Int32) → Option (Int32 × (Nat → Int32))
  | 0, _, _ => none
  | j + 1, v8, a_t_minus =>
    (f_N_lengthOf n_a_lengths a_a_lengths v2).bind fun x21 =>
    if x21 ≤ v8 then
      some (v8, a_t_minus)
    else
      (f_N_limbOf i0_a n_a_limbs a_a_limbs v2 v8).bind fun x24 =>
      (f_S_addMultiple k n_t_minus a_t_minus v8 i0_a n_a_lengths a_a_lengths n_a_limbs a_a_limbs v4 x24.toInt64).bind fun x26 =>
      f_S_addProductSame_L44 k v2 v4 n_t_minus i0_a n_a_lengths a_a_lengths n_a_limbs a_a_limbs j (v8 + 1) x26
def f_S_addProductSame_L44b (k : Nat) (v2 : Int32) (v4 : Int32) (n_t_plus : Nat) (i0_a : Int32) (n_a_lengths : Nat) (a_a_lengths : Nat → Int32) (n_a_limbs : Nat) (a_a_limbs : Nat → Int32) : Nat → Int32 → (Nat → Int32) → Option (Int32 × (Nat → Int32))
  | 0, _, _ => none
  | j + 1, v8, a_t_plus =>
    (f_N_lengthOf n_a_lengths a_a_lengths v2).bind fun x44 =>
    if x44 ≤ v8 then
      some (v8, a_t_plus)
    else
      (f_N_limbOf i0_a n_a_limbs a_a_limbs v2 v8).bind fun x47 =>
      (f_S_addMultiple k n_t_plus a_t_plus v8 i0_a n_a_lengths a_a_lengths n_a_limbs a_a_limbs v4 x47.toInt64).bind fun x49 =>
      f_S_addProductSame_L44b k v2 v4 n_t_plus i0_a n_a_lengths a_a_lengths n_a_limbs a_a_limbs j (v8 + 1) x49
def f_S_addProductSame (k : Nat) (n_t_plus : Nat) (a_t_plus : Nat → Int32) (n_t_minus : Nat) (a_t_minus : Nat → Int32) (a_room : Int32) (n_a_signs : Nat) (a_a_signs : Nat → Int32) (n_a_lengths : Nat) (a_a_lengths : Nat → Int32) (n_a_limbs : Nat) (a_a_limbs : Nat → Int32) (slotA : Int32) (slotB : Int32) (factor : Int32) : Option ((Nat → Int32) × (Nat → Int32)) :=
  (f_N_signOf n_a_signs a_a_signs slotA).bind fun x1 =>
  (f_N_signOf n_a_signs a_a_signs slotB).bind fun x3 =>
  if (x1 * x3) * factor = 0 then
    some (a_t_plus, a_t_minus)
  else
    if (x1 * x3) * factor ≤ 0 then
      (f_S_addProductSame_L44 k slotA slotB n_t_minus a_room n_a_lengths a_a_lengths n_a_limbs a_a_limbs k (0 : Int32) a_t_minus).bind fun x28 =>
      some (a_t_plus, x28.2)
    else
      (f_S_addProductSame_L44b k slotA slotB n_t_plus a_room n_a_lengths a_a_lengths n_a_limbs a_a_limbs k (0 : Int32) a_t_plus).bind fun x51 =>
      some (x51.2, a_t_minus)
def f_S_compareSides_L8 (k : Nat) (n_t_plus : Nat) (a_t_plus : Nat → Int32) (n_t_minus : Nat) (a_t_minus : Nat → Int32) : Nat → Int32 → Option (Bool × Int32 × Int32)
  | 0, _ => none
  | j + 1, v1 =>
    if v1 < 0 then
      some (false, 0, v1)
    else
      cond (inb v1 n_t_plus) (
      cond (inb v1 n_t_minus) (
      if a_t_plus v1.toNatClampNeg = a_t_minus v1.toNatClampNeg then
        f_S_compareSides_L8 k n_t_plus a_t_plus n_t_minus a_t_minus j (v1 + (-1))
      else
        cond (inb v1 n_t_plus) (
        cond (inb v1 n_t_minus) (
        if a_t_plus v1.toNatClampNeg ≤ a_t_minus v1.toNatClampNeg then
          some (true, (-1), v1)
        else
          some (true, 1, v1)) none) none) none) none
def f_S_compareSides (k : Nat) (n_t_plus : Nat) (a_t_plus : Nat → Int32) (n_t_minus : Nat) (a_t_minus : Nat → Int32) : Option (Int32) :=
  (f_S_compareSides_L8 k n_t_plus a_t_plus n_t_minus a_t_minus k ((nI n_t_plus) - 1)).bind fun x22 =>
  if x22.1 = true then
    some x22.2.1
  else
    some (0 : Int32)
def f_S_isZero (k : Nat) (n_t_plus : Nat) (a_t_plus : Nat → Int32) (n_t_minus : Nat) (a_t_minus : Nat → Int32) : Option (Int32) :=
  (f_S_compareSides k n_t_plus a_t_plus n_t_minus a_t_minus).bind fun x1 =>
  if x1 = 0 then
    some (1 : Int32)
  else
    some (0 : Int32)
def f_S_trimmed_L2 (k : Nat) (n_row : Nat) (a_row : Nat → Int32) : Nat → Int32 → Option (Int32)
  | 0, _ => none
  | j + 1, v2 =>
    if v2 ≤ 0 then
      some v2
    else
      cond (inb (v2 - 1) n_row) (
      if a_row (v2 - 1).toNatClampNeg = 0 then
        f_S_trimmed_L2 k n_row a_row j (v2 + (-1))
      else
        some v2) none
def f_S_trimmed (k : Nat) (n_row : Nat) (a_row : Nat → Int32) (most : Int32) : Option (Int32) :=
  (f_S_trimmed_L2 k n_row a_row k most).bind fun x10 =>
  some x10
def f_S_settle_L12 (k : Nat) (i4_t : Int32) (n_t_plus : Nat) (n_t_minus : Nat) (a_t_minus : Nat → Int32) : Nat → Int64 → Int32 → (Nat → Int32) → Option (Int64 × Int32 × (Nat → Int32))
  | 0, _, _, _ => none
  | j + 1, v1, v3, a_t_plus =>
    if nI n_t_plus ≤ v3 then
      some (v1, v3, a_t_plus)
    else
      cond (inb v3 n_t_plus) (
      cond (inb v3 n_t_minus) (
      cond (inb v3 n_t_plus) (
      f_S_settle_L12 k i4_t n_t_plus n_t_minus a_t_minus j ((v1 + (i4_t.toInt64 * (((a_t_plus v3.toNatClampNeg).toInt64) - ((a_t_minus v3.toNatClampNeg).toInt64)))) >>> ((31 : Int32).toInt64 &&& 63)) (v3 + 1) (upd a_t_plus v3.toNatClampNeg (((v1 + (i4_t.toInt64 * (((a_t_plus v3.toNatClampNeg).toInt64) - ((a_t_minus v3.toNatClampNeg).toInt64)))) &&& 2147483647).toInt32))) none) none) none
def f_S_settle (k : Nat) (n_t_plus : Nat) (a_t_plus : Nat → Int32) (n_t_minus : Nat) (a_t_minus : Nat → Int32) : Option (Int32 × Int32 × (Nat → Int32)) :=
  (f_S_compareSides k n_t_plus a_t_plus n_t_minus a_t_minus).bind fun x1 =>
  (f_S_settle_L12 k x1 n_t_plus n_t_minus a_t_minus k (0 : Int64) (0 : Int32) a_t_plus).bind fun x15 =>
  (f_S_trimmed k n_t_plus x15.2.2 (nI n_t_plus)).bind fun x17 =>
  some (x1, x17, x15.2.2)
def f_S_countZeroLimbs_L2 (k : Nat) (v1 : Int32) (n_t_divisor : Nat) (a_t_divisor : Nat → Int32) : Nat → Int32 → Option (Int32)
  | 0, _ => none
  | j + 1, v2 =>
    if v1 - 1 ≤ v2 then
      some v2
    else
      cond (inb v2 n_t_divisor) (
      if a_t_divisor v2.toNatClampNeg = 0 then
        f_S_countZeroLimbs_L2 k v1 n_t_divisor a_t_divisor j (v2 + 1)
      else
        some v2) none
def f_S_countZeroLimbs (k : Nat) (n_t_divisor : Nat) (a_t_divisor : Nat → Int32) (size : Int32) : Option (Int32) :=
  (f_S_countZeroLimbs_L2 k size n_t_divisor a_t_divisor k (0 : Int32)).bind fun x10 =>
  some x10
def f_S_countZeroBits_L2 (k : Nat) (v0 : Int32) : Nat → Int32 → Option (Int32)
  | 0, _ => none
  | j + 1, v1 =>
    if 30 ≤ v1 then
      some v1
    else
      if (v0 >>> (v1 &&& 31)) &&& 1 = 0 then
        f_S_countZeroBits_L2 k v0 j (v1 + 1)
      else
        some v1
def f_S_countZeroBits (k : Nat) (word : Int32) : Option (Int32) :=
  (f_S_countZeroBits_L2 k word k (0 : Int32)).bind fun x7 =>
  some x7
def f_S_shiftDown_L3 (k : Nat) (v1 : Int32) (v2 : Int32) (v3 : Int32) (n_row : Nat) : Nat → Int32 → (Nat → Int32) → Option (Int32 × (Nat → Int32))
  | 0, _, _ => none
  | j + 1, v4, a_row =>
    if v1 ≤ v4 then
      some (v4, a_row)
    else
      if v1 ≤ v4 + v2 then
        if v1 ≤ (v4 + v2) + 1 then
          cond (inb v4 n_row) (
          f_S_shiftDown_L3 k v1 v2 v3 n_row j (v4 + 1) (upd a_row v4.toNatClampNeg ((((((0 : Int64) <<< ((31 : Int32).toInt64 &&& 63)) ||| 0) >>> (v3.toInt64 &&& 63)) &&& 2147483647).toInt32))) none
        else
          cond (inb ((v4 + v2) + 1) n_row) (
          cond (inb v4 n_row) (
          f_S_shiftDown_L3 k v1 v2 v3 n_row j (v4 + 1) (upd a_row v4.toNatClampNeg (((((((a_row ((v4 + v2) + 1).toNatClampNeg).toInt64) <<< ((31 : Int32).toInt64 &&& 63)) ||| 0) >>> (v3.toInt64 &&& 63)) &&& 2147483647).toInt32))) none) none
      else
        cond (inb (v4 + v2) n_row) (
        if v1 ≤ (v4 + v2) + 1 then
          cond (inb v4 n_row) (
          f_S_shiftDown_L3 k v1 v2 v3 n_row j (v4 + 1) (upd a_row v4.toNatClampNeg ((((((0 : Int64) <<< ((31 : Int32).toInt64 &&& 63)) ||| ((a_row (v4 + v2).toNatClampNeg).toInt64)) >>> (v3.toInt64 &&& 63)) &&& 2147483647).toInt32))) none
        else
          cond (inb ((v4 + v2) + 1) n_row) (
          cond (inb v4 n_row) (
          f_S_shiftDown_L3 k v1 v2 v3 n_row j (v4 + 1) (upd a_row v4.toNatClampNeg (((((((a_row ((v4 + v2) + 1).toNatClampNeg).toInt64) <<< ((31 : Int32).toInt64 &&& 63)) ||| ((a_row (v4 + v2).toNatClampNeg).toInt64)) >>> (v3.toInt64 &&& 63)) &&& 2147483647).toInt32))) none) none) none
def f_S_shiftDown (k : Nat) (n_row : Nat) (a_row : Nat → Int32) (size : Int32) (byLimbs : Int32) (byBits : Int32) : Option ((Nat → Int32)) :=
  (f_S_shiftDown_L3 k size byLimbs byBits n_row k (0 : Int32) a_row).bind fun x34 =>
  some x34.2
def f_S_inverseOf_L4 (k : Nat) (v0 : Int32) : Nat → Int32 → Int32 → Option (Int32 × Int32)
  | 0, _, _ => none
  | j + 1, v1, v2 =>
    if 4 ≤ v2 then
      some (v1, v2)
    else
      f_S_inverseOf_L4 k v0 j (v1 * (2 - (v0 * v1))) (v2 + 1)
def f_S_inverseOf (k : Nat) (word : Int32) : Option (Int32) :=
  (f_S_inverseOf_L4 k word k word (0 : Int32)).bind fun x4 =>
  some x4.1
def f_S_takeMultiple_L6 (k : Nat) (v1 : Int32) (v2 : Int32) (v3 : Int32) (v4 : Int64) (n_t_plus : Nat) (n_t_divisor : Nat) (a_t_divisor : Nat → Int32) : Nat → Int64 → Int32 → (Nat → Int32) → Option (Int64 × Int32 × (Nat → Int32))
  | 0, _, _, _ => none
  | j + 1, v6, v8, a_t_plus =>
    if v2 ≤ v8 then
      some (v6, v8, a_t_plus)
    else
      if v8 - v1 < v3 then
        cond (inb v8 n_t_plus) (
        if v3 ≤ v8 - v1 then
          cond (inb v8 n_t_plus) (
          f_S_takeMultiple_L6 k v1 v2 v3 v4 n_t_plus n_t_divisor a_t_divisor j ((v6 + ((a_t_plus v8.toNatClampNeg).toInt64)) >>> ((31 : Int32).toInt64 &&& 63)) (v8 + 1) (upd a_t_plus v8.toNatClampNeg (((v6 + ((a_t_plus v8.toNatClampNeg).toInt64)) &&& 2147483647).toInt32))) none
        else
          cond (inb (v8 - v1) n_t_divisor) (
          cond (inb v8 n_t_plus) (
          f_S_takeMultiple_L6 k v1 v2 v3 v4 n_t_plus n_t_divisor a_t_divisor j (((v6 + ((a_t_plus v8.toNatClampNeg).toInt64)) - (v4 * ((a_t_divisor (v8 - v1).toNatClampNeg).toInt64))) >>> ((31 : Int32).toInt64 &&& 63)) (v8 + 1) (upd a_t_plus v8.toNatClampNeg ((((v6 + ((a_t_plus v8.toNatClampNeg).toInt64)) - (v4 * ((a_t_divisor (v8 - v1).toNatClampNeg).toInt64))) &&& 2147483647).toInt32))) none) none) none
      else
        if lg_cmp v6 (0 : Int64) = 0 then
          some (v6, v8, a_t_plus)
        else
          cond (inb v8 n_t_plus) (
          if v3 ≤ v8 - v1 then
            cond (inb v8 n_t_plus) (
            f_S_takeMultiple_L6 k v1 v2 v3 v4 n_t_plus n_t_divisor a_t_divisor j ((v6 + ((a_t_plus v8.toNatClampNeg).toInt64)) >>> ((31 : Int32).toInt64 &&& 63)) (v8 + 1) (upd a_t_plus v8.toNatClampNeg (((v6 + ((a_t_plus v8.toNatClampNeg).toInt64)) &&& 2147483647).toInt32))) none
          else
            cond (inb (v8 - v1) n_t_divisor) (
            cond (inb v8 n_t_plus) (
            f_S_takeMultiple_L6 k v1 v2 v3 v4 n_t_plus n_t_divisor a_t_divisor j (((v6 + ((a_t_plus v8.toNatClampNeg).toInt64)) - (v4 * ((a_t_divisor (v8 - v1).toNatClampNeg).toInt64))) >>> ((31 : Int32).toInt64 &&& 63)) (v8 + 1) (upd a_t_plus v8.toNatClampNeg ((((v6 + ((a_t_plus v8.toNatClampNeg).toInt64)) - (v4 * ((a_t_divisor (v8 - v1).toNatClampNeg).toInt64))) &&& 2147483647).toInt32))) none) none) none
def f_S_takeMultiple (k : Nat) (n_t_plus : Nat) (a_t_plus : Nat → Int32) (n_t_divisor : Nat) (a_t_divisor : Nat → Int32) (fro : Int32) (fin : Int32) (size : Int32) (word : Int64) : Option ((Nat → Int32)) :=
  (f_S_takeMultiple_L6 k fro fin size word n_t_plus n_t_divisor a_t_divisor k (0 : Int64) fro a_t_plus).bind fun x40 =>
  some x40.2.2
def f_S_divideByOdd_L24 (k : Nat) (v1 : Int32) (v3 : Int32) (v4 : Int32) (n_t_plus : Nat) (n_t_divisor : Nat) (a_t_divisor : Nat → Int32) : Nat → Int32 → (Nat → Int32) → Option (Int32 × (Nat → Int32))
  | 0, _, _ => none
  | j + 1, v5, a_t_plus =>
    if v3 ≤ v5 then
      some (v5, a_t_plus)
    else
      cond (inb v5 n_t_plus) (
      (f_S_takeMultiple k n_t_plus a_t_plus n_t_divisor a_t_divisor v5 v3 v1 ((((a_t_plus v5.toNatClampNeg) * v4) &&& 2147483647).toInt64)).bind fun x16 =>
      cond (inb v5 n_t_plus) (
      f_S_divideByOdd_L24 k v1 v3 v4 n_t_plus n_t_divisor a_t_divisor j (v5 + 1) (upd x16 v5.toNatClampNeg (((a_t_plus v5.toNatClampNeg) * v4) &&& 2147483647))) none) none
def f_S_divideByOdd (k : Nat) (n_t_plus : Nat) (a_t_plus : Nat → Int32) (n_t_divisor : Nat) (a_t_divisor : Nat → Int32) (size : Int32) (lengthLeft : Int32) : Option (Int32 × (Nat → Int32)) :=
  cond (inb 0 n_t_divisor) (
  (f_S_inverseOf k (a_t_divisor (0 : Int32).toNatClampNeg)).bind fun x2 =>
  (f_S_divideByOdd_L24 k size (if (0 : Int32) < (lengthLeft - size) + 1 then (lengthLeft - size) + 1 else (0 : Int32)) x2 n_t_plus n_t_divisor a_t_divisor k (0 : Int32) a_t_plus).bind fun x19 =>
  (f_S_trimmed k n_t_plus x19.2 (if (0 : Int32) < (lengthLeft - size) + 1 then (lengthLeft - size) + 1 else (0 : Int32))).bind fun x21 =>
  some (x21, x19.2)) none
def f_S_divideBy_L22 (k : Nat) (v2 : Int32) (v3 : Int32) (n_t_divisor : Nat) (i0_u : Int32) (n_u_limbs : Nat) (a_u_limbs : Nat → Int32) : Nat → Int32 → (Nat → Int32) → Option (Int32 × (Nat → Int32))
  | 0, _, _ => none
  | j + 1, v4, a_t_divisor =>
    if v3 ≤ v4 then
      some (v4, a_t_divisor)
    else
      (f_N_limbOf i0_u n_u_limbs a_u_limbs v2 v4).bind fun x14 =>
      cond (inb v4 n_t_divisor) (
      f_S_divideBy_L22 k v2 v3 n_t_divisor i0_u n_u_limbs a_u_limbs j (v4 + 1) (upd a_t_divisor v4.toNatClampNeg x14)) none
def f_S_divideBy (k : Nat) (t_sign : Int32) (t_length : Int32) (n_t_plus : Nat) (a_t_plus : Nat → Int32) (n_t_divisor : Nat) (a_t_divisor : Nat → Int32) (u_room : Int32) (n_u_signs : Nat) (a_u_signs : Nat → Int32) (n_u_lengths : Nat) (a_u_lengths : Nat → Int32) (n_u_limbs : Nat) (a_u_limbs : Nat → Int32) (slot : Int32) : Option (Int32 × Int32 × (Nat → Int32) × (Nat → Int32)) :=
  (f_N_lengthOf n_u_lengths a_u_lengths slot).bind fun x1 =>
  if x1 = 0 then
    some (t_sign, t_length, a_t_plus, a_t_divisor)
  else
    if x1 ≤ t_length then
      (f_S_divideBy_L22 k slot x1 n_t_divisor u_room n_u_limbs a_u_limbs k (0 : Int32) a_t_divisor).bind fun x17 =>
      (f_S_countZeroLimbs k n_t_divisor x17.2 x1).bind fun x19 =>
      cond (inb x19 n_t_divisor) (
      (f_S_countZeroBits k (x17.2 x19.toNatClampNeg)).bind fun x22 =>
      (f_S_shiftDown k n_t_divisor x17.2 x1 x19 x22).bind fun x24 =>
      (f_S_shiftDown k n_t_plus a_t_plus t_length x19 x22).bind fun x26 =>
      (f_S_trimmed k n_t_divisor x24 x1).bind fun x28 =>
      (f_S_trimmed k n_t_plus x26 t_length).bind fun x30 =>
      (f_S_divideByOdd k n_t_plus x26 n_t_divisor x24 x28 x30).bind fun x32 =>
      (f_N_signOf n_u_signs a_u_signs slot).bind fun x34 =>
      some (t_sign * x34, x32.1, x32.2, x24)) none
    else
      some (t_sign, t_length, a_t_plus, a_t_divisor)
def f_S_storeIn (t_room : Int32) (t_sign : Int32) (t_length : Int32) (n_t_plus : Nat) (a_t_plus : Nat → Int32) (u_room : Int32) (n_u_signs : Nat) (a_u_signs : Nat → Int32) (n_u_lengths : Nat) (a_u_lengths : Nat → Int32) (n_u_limbs : Nat) (a_u_limbs : Nat → Int32) (slot : Int32) : Option (Int32 × (Nat → Int32) × (Nat → Int32) × (Nat → Int32)) :=
  if t_length ≤ t_room then
    (f_N_put u_room n_u_signs a_u_signs n_u_lengths a_u_lengths n_u_limbs a_u_limbs slot n_t_plus a_t_plus t_length t_sign).bind fun x2 =>
    some ((1 : Int32), x2.1, x2.2.1, x2.2.2)
  else
    some ((0 : Int32), a_u_signs, a_u_lengths, a_u_limbs)
def f_M_startLoading_L9 (k : Nat) (i0_t : Int32) (n_t_rowAt : Nat) : Nat → Int32 → (Nat → Int32) → Option (Int32 × (Nat → Int32))
  | 0, _, _ => none
  | j + 1, v1, a_t_rowAt =>
    if i0_t ≤ v1 then
      some (v1, a_t_rowAt)
    else
      cond (inb v1 n_t_rowAt) (
      f_M_startLoading_L9 k i0_t n_t_rowAt j (v1 + 1) (upd a_t_rowAt v1.toNatClampNeg v1)) none
def f_M_startLoading (k : Nat) (t_n : Int32) (n_t_matrix_signs : Nat) (a_t_matrix_signs : Nat → Int32) (n_t_matrix_lengths : Nat) (a_t_matrix_lengths : Nat → Int32) (n_t_rowAt : Nat) (a_t_rowAt : Nat → Int32) : Option (Int32 × Int32 × Int32 × Int32 × Int32 × Int32 × Int32 × (Nat → Int32) × (Nat → Int32) × (Nat → Int32)) :=
  (f_N_clearAll k n_t_matrix_signs a_t_matrix_signs n_t_matrix_lengths a_t_matrix_lengths).bind fun x1 =>
  (f_M_startLoading_L9 k t_n n_t_rowAt k (0 : Int32) a_t_rowAt).bind fun x9 =>
  some ((4 : Int32), (0 : Int32), (0 : Int32), (0 : Int32), (-1 : Int32), (0 : Int32), (0 : Int32), x1.1, x1.2, x9.2)
def f_M_within (value : Int32) (most : Int32) : Option (Int32) :=
  some (if (1 : Int32) < (if most < value then most else value) then (if most < value then most else value) else (1 : Int32))
def f_M_reset (k : Nat) (t_n : Int32) (n_t_matrix_signs : Nat) (a_t_matrix_signs : Nat → Int32) (n_t_matrix_lengths : Nat) (a_t_matrix_lengths : Nat → Int32) (n_t_rowAt : Nat) (a_t_rowAt : Nat → Int32) : Option (Int32 × Int32 × Int32 × Int32 × Int32 × Int32 × Int32 × (Nat → Int32) × (Nat → Int32) × (Nat → Int32)) :=
  (f_M_startLoading k t_n n_t_matrix_signs a_t_matrix_signs n_t_matrix_lengths a_t_matrix_lengths n_t_rowAt a_t_rowAt).bind fun x1 =>
  some (x1.1, x1.2.1, x1.2.2.1, x1.2.2.2.1, x1.2.2.2.2.1, x1.2.2.2.2.2.1, x1.2.2.2.2.2.2.1, x1.2.2.2.2.2.2.2.1, x1.2.2.2.2.2.2.2.2.1, x1.2.2.2.2.2.2.2.2.2)
def f_M_isPlace (t_n : Int32) (row : Int32) (column : Int32) : Option (Int32) :=
  if row < 0 then
    some (0 : Int32)
  else
    if t_n ≤ row then
      some (0 : Int32)
    else
      if column < 0 then
        some (0 : Int32)
      else
        if t_n < column then
          some (0 : Int32)
        else
          some (1 : Int32)
def f_M_slotAt (t_n : Int32) (n_t_rowAt : Nat) (a_t_rowAt : Nat → Int32) (row : Int32) (column : Int32) : Option (Int32) :=
  cond (inb row n_t_rowAt) (
  some (((a_t_rowAt row.toNatClampNeg) * (t_n + 1)) + column)) none
def f_M_entry (t_n : Int32) (t_told : Int32) (t_chosen : Int32) (t_chosenSign : Int32) (t_chosenLimbs : Int32) (n_t_matrix_signs : Nat) (a_t_matrix_signs : Nat → Int32) (n_t_matrix_lengths : Nat) (a_t_matrix_lengths : Nat → Int32) (n_t_rowAt : Nat) (a_t_rowAt : Nat → Int32) (row : Int32) (column : Int32) (sign : Int32) : Option (Int32 × Int32 × Int32 × Int32 × (Nat → Int32) × (Nat → Int32)) :=
  if t_told = 4 then
    (f_M_isPlace t_n row column).bind fun x2 =>
    if x2 = 0 then
      some ((0 : Int32), t_chosen, t_chosenSign, t_chosenLimbs, a_t_matrix_signs, a_t_matrix_lengths)
    else
      if sign < (-1) then
        some ((0 : Int32), t_chosen, t_chosenSign, t_chosenLimbs, a_t_matrix_signs, a_t_matrix_lengths)
      else
        if sign ≤ 1 then
          (f_M_slotAt t_n n_t_rowAt a_t_rowAt row column).bind fun x7 =>
          (f_N_clear n_t_matrix_signs a_t_matrix_signs n_t_matrix_lengths a_t_matrix_lengths x7).bind fun x9 =>
          some ((1 : Int32), x7, sign, (0 : Int32), x9.1, x9.2)
        else
          some ((0 : Int32), t_chosen, t_chosenSign, t_chosenLimbs, a_t_matrix_signs, a_t_matrix_lengths)
  else
    some ((0 : Int32), t_chosen, t_chosenSign, t_chosenLimbs, a_t_matrix_signs, a_t_matrix_lengths)
def f_M_limb (t_room : Int32) (t_chosen : Int32) (t_chosenSign : Int32) (t_chosenLimbs : Int32) (t_matrix_room : Int32) (n_t_matrix_signs : Nat) (a_t_matrix_signs : Nat → Int32) (n_t_matrix_lengths : Nat) (a_t_matrix_lengths : Nat → Int32) (n_t_matrix_limbs : Nat) (a_t_matrix_limbs : Nat → Int32) (word : Int32) : Option (Int32 × Int32 × (Nat → Int32) × (Nat → Int32) × (Nat → Int32)) :=
  if t_chosen = (-1) then
    some ((0 : Int32), t_chosenLimbs, a_t_matrix_signs, a_t_matrix_lengths, a_t_matrix_limbs)
  else
    if t_chosenSign = 0 then
      some ((0 : Int32), t_chosenLimbs, a_t_matrix_signs, a_t_matrix_lengths, a_t_matrix_limbs)
    else
      if word < 0 then
        some ((0 : Int32), t_chosenLimbs, a_t_matrix_signs, a_t_matrix_lengths, a_t_matrix_limbs)
      else
        if t_chosenLimbs < t_room then
          (f_N_putLimb t_matrix_room n_t_matrix_signs a_t_matrix_signs n_t_matrix_lengths a_t_matrix_lengths n_t_matrix_limbs a_t_matrix_limbs t_chosen t_chosenLimbs word t_chosenSign).bind fun x5 =>
          some ((1 : Int32), t_chosenLimbs + 1, x5.1, x5.2.1, x5.2.2)
        else
          some ((0 : Int32), t_chosenLimbs, a_t_matrix_signs, a_t_matrix_lengths, a_t_matrix_limbs)
def f_M_isEnded (t_told : Int32) : Option (Int32) :=
  if t_told = 1 then
    some (1 : Int32)
  else
    if t_told = 2 then
      some (1 : Int32)
    else
      if t_told = 3 then
        some (1 : Int32)
      else
        some (0 : Int32)
def f_M_endLoading_L7 (k : Nat) (i0_t : Int32) (n_t_matrix_signs : Nat) (a_t_matrix_signs : Nat → Int32) (n_t_matrix_lengths : Nat) (a_t_matrix_lengths : Nat → Int32) (n_t_matrix_limbs : Nat) (a_t_matrix_limbs : Nat → Int32) (i0_t_loaded : Int32) (n_t_loaded_signs : Nat) (n_t_loaded_lengths : Nat) (n_t_loaded_limbs : Nat) : Nat → Int32 → (Nat → Int32) → (Nat → Int32) → (Nat → Int32) → Option (Int32 × (Nat → Int32) × (Nat → Int32) × (Nat → Int32))
  | 0, _, _, _, _ => none
  | j + 1, v1, a_t_loaded_signs, a_t_loaded_lengths, a_t_loaded_limbs =>
    if i0_t * (i0_t + 1) ≤ v1 then
      some (v1, a_t_loaded_signs, a_t_loaded_lengths, a_t_loaded_limbs)
    else
      (f_N_copy i0_t_loaded n_t_loaded_signs a_t_loaded_signs n_t_loaded_lengths a_t_loaded_lengths n_t_loaded_limbs a_t_loaded_limbs v1 n_t_matrix_signs a_t_matrix_signs n_t_matrix_lengths a_t_matrix_lengths n_t_matrix_limbs a_t_matrix_limbs v1).bind fun x8 =>
      f_M_endLoading_L7 k i0_t n_t_matrix_signs a_t_matrix_signs n_t_matrix_lengths a_t_matrix_lengths n_t_matrix_limbs a_t_matrix_limbs i0_t_loaded n_t_loaded_signs n_t_loaded_lengths n_t_loaded_limbs j (v1 + 1) x8.1 x8.2.1 x8.2.2
def f_M_endLoading (k : Nat) (t_n : Int32) (n_t_matrix_signs : Nat) (a_t_matrix_signs : Nat → Int32) (n_t_matrix_lengths : Nat) (a_t_matrix_lengths : Nat → Int32) (n_t_matrix_limbs : Nat) (a_t_matrix_limbs : Nat → Int32) (t_loaded_room : Int32) (n_t_loaded_signs : Nat) (a_t_loaded_signs : Nat → Int32) (n_t_loaded_lengths : Nat) (a_t_loaded_lengths : Nat → Int32) (n_t_loaded_limbs : Nat) (a_t_loaded_limbs : Nat → Int32) : Option (Int32 × (Nat → Int32) × (Nat → Int32) × (Nat → Int32)) :=
  (f_M_endLoading_L7 k t_n n_t_matrix_signs a_t_matrix_signs n_t_matrix_lengths a_t_matrix_lengths n_t_matrix_limbs a_t_matrix_limbs t_loaded_room n_t_loaded_signs n_t_loaded_lengths n_t_loaded_limbs k (0 : Int32) a_t_loaded_signs a_t_loaded_lengths a_t_loaded_limbs).bind fun x10 =>
  some ((-1 : Int32), x10.2.1, x10.2.2.1, x10.2.2.2)
def f_M_findPivotRow_L2 (k : Nat) (v1 : Int32) (i0_t : Int32) (n_t_matrix_signs : Nat) (a_t_matrix_signs : Nat → Int32) (n_t_rowAt : Nat) (a_t_rowAt : Nat → Int32) : Nat → Int32 → Option (Bool × Int32 × Int32)
  | 0, _ => none
  | j + 1, v2 =>
    if i0_t ≤ v2 then
      some (false, 0, v2)
    else
      (f_M_slotAt i0_t n_t_rowAt a_t_rowAt v2 v1).bind fun x14 =>
      (f_N_signOf n_t_matrix_signs a_t_matrix_signs x14).bind fun x16 =>
      if x16 = 0 then
        f_M_findPivotRow_L2 k v1 i0_t n_t_matrix_signs a_t_matrix_signs n_t_rowAt a_t_rowAt j (v2 + 1)
      else
        some (true, v2, v2)
def f_M_findPivotRow (k : Nat) (t_n : Int32) (n_t_matrix_signs : Nat) (a_t_matrix_signs : Nat → Int32) (n_t_rowAt : Nat) (a_t_rowAt : Nat → Int32) (kk : Int32) : Option (Int32) :=
  (f_M_findPivotRow_L2 k kk t_n n_t_matrix_signs a_t_matrix_signs n_t_rowAt a_t_rowAt k kk).bind fun x19 =>
  if x19.1 = true then
    some x19.2.1
  else
    some (-1 : Int32)
def f_M_swapRows (t_oddSwaps : Int32) (n_t_rowAt : Nat) (a_t_rowAt : Nat → Int32) (upper : Int32) (lower : Int32) : Option (Int32 × (Nat → Int32)) :=
  cond (inb upper n_t_rowAt) (
  cond (inb lower n_t_rowAt) (
  cond (inb upper n_t_rowAt) (
  cond (inb lower n_t_rowAt) (
  if t_oddSwaps = 0 then
    some ((1 : Int32), upd (upd a_t_rowAt upper.toNatClampNeg (a_t_rowAt lower.toNatClampNeg)) lower.toNatClampNeg (a_t_rowAt upper.toNatClampNeg))
  else
    some ((0 : Int32), upd (upd a_t_rowAt upper.toNatClampNeg (a_t_rowAt lower.toNatClampNeg)) lower.toNatClampNeg (a_t_rowAt upper.toNatClampNeg))) none) none) none) none
def f_M_makeMinor (k : Nat) (t_n : Int32) (t_matrix_room : Int32) (n_t_matrix_signs : Nat) (a_t_matrix_signs : Nat → Int32) (n_t_matrix_lengths : Nat) (a_t_matrix_lengths : Nat → Int32) (n_t_matrix_limbs : Nat) (a_t_matrix_limbs : Nat → Int32) (t_sum_room : Int32) (n_t_sum_plus : Nat) (a_t_sum_plus : Nat → Int32) (n_t_sum_minus : Nat) (a_t_sum_minus : Nat → Int32) (n_t_sum_divisor : Nat) (a_t_sum_divisor : Nat → Int32) (n_t_rowAt : Nat) (a_t_rowAt : Nat → Int32) (kk : Int32) (row : Int32) (column : Int32) : Option (Int32 × (Nat → Int32) × (Nat → Int32) × (Nat → Int32) × Int32 × Int32 × (Nat → Int32) × (Nat → Int32) × (Nat → Int32)) :=
  (f_S_clear k n_t_sum_plus a_t_sum_plus n_t_sum_minus a_t_sum_minus).bind fun x1 =>
  (f_M_slotAt t_n n_t_rowAt a_t_rowAt kk kk).bind fun x3 =>
  (f_M_slotAt t_n n_t_rowAt a_t_rowAt row column).bind fun x5 =>
  (f_S_addProductSame k n_t_sum_plus x1.2.2.1 n_t_sum_minus x1.2.2.2 t_matrix_room n_t_matrix_signs a_t_matrix_signs n_t_matrix_lengths a_t_matrix_lengths n_t_matrix_limbs a_t_matrix_limbs x3 x5 (1 : Int32)).bind fun x7 =>
  (f_M_slotAt t_n n_t_rowAt a_t_rowAt row kk).bind fun x9 =>
  (f_M_slotAt t_n n_t_rowAt a_t_rowAt kk column).bind fun x11 =>
  (f_S_addProductSame k n_t_sum_plus x7.1 n_t_sum_minus x7.2 t_matrix_room n_t_matrix_signs a_t_matrix_signs n_t_matrix_lengths a_t_matrix_lengths n_t_matrix_limbs a_t_matrix_limbs x9 x11 (-1 : Int32)).bind fun x13 =>
  (f_S_settle k n_t_sum_plus x13.1 n_t_sum_minus x13.2).bind fun x15 =>
  if kk ≤ 0 then
    (f_M_slotAt t_n n_t_rowAt a_t_rowAt row column).bind fun x18 =>
    (f_S_storeIn t_sum_room x15.1 x15.2.1 n_t_sum_plus x15.2.2 t_matrix_room n_t_matrix_signs a_t_matrix_signs n_t_matrix_lengths a_t_matrix_lengths n_t_matrix_limbs a_t_matrix_limbs x18).bind fun x20 =>
    cond (isz x20.1) (
    some (x20.1, x20.2.1, x20.2.2.1, x20.2.2.2, x15.1, x15.2.1, x15.2.2, x13.2, a_t_sum_divisor)) none
  else
    (f_M_slotAt t_n n_t_rowAt a_t_rowAt (kk - 1) (kk - 1)).bind fun x23 =>
    (f_S_divideBy k x15.1 x15.2.1 n_t_sum_plus x15.2.2 n_t_sum_divisor a_t_sum_divisor t_matrix_room n_t_matrix_signs a_t_matrix_signs n_t_matrix_lengths a_t_matrix_lengths n_t_matrix_limbs a_t_matrix_limbs x23).bind fun x25 =>
    (f_M_slotAt t_n n_t_rowAt a_t_rowAt row column).bind fun x27 =>
    (f_S_storeIn t_sum_room x25.1 x25.2.1 n_t_sum_plus x25.2.2.1 t_matrix_room n_t_matrix_signs a_t_matrix_signs n_t_matrix_lengths a_t_matrix_lengths n_t_matrix_limbs a_t_matrix_limbs x27).bind fun x29 =>
    cond (isz x29.1) (
    some (x29.1, x29.2.1, x29.2.2.1, x29.2.2.2, x25.1, x25.2.1, x25.2.2.1, x13.2, x25.2.2.2)) none
def f_M_eliminateColumn_L48 (k : Nat) (v1 : Int32) (v3 : Int32) (i0_t : Int32) (i0_t_matrix : Int32) (n_t_matrix_signs : Nat) (n_t_matrix_lengths : Nat) (n_t_matrix_limbs : Nat) (i0_t_sum : Int32) (n_t_sum_plus : Nat) (n_t_sum_minus : Nat) (n_t_sum_divisor : Nat) (n_t_rowAt : Nat) (a_t_rowAt : Nat → Int32) : Nat → Int32 → (Nat → Int32) → (Nat → Int32) → (Nat → Int32) → Int32 → Int32 → (Nat → Int32) → (Nat → Int32) → (Nat → Int32) → Option (Bool × Int32 × Int32 × (Nat → Int32) × (Nat → Int32) × (Nat → Int32) × Int32 × Int32 × (Nat → Int32) × (Nat → Int32) × (Nat → Int32))
  | 0, _, _, _, _, _, _, _, _, _ => none
  | j + 1, v4, a_t_matrix_signs, a_t_matrix_lengths, a_t_matrix_limbs, i4_t_sum, i5_t_sum, a_t_sum_plus, a_t_sum_minus, a_t_sum_divisor =>
    if i0_t < v4 then
      some (false, 0, v4, a_t_matrix_signs, a_t_matrix_lengths, a_t_matrix_limbs, i4_t_sum, i5_t_sum, a_t_sum_plus, a_t_sum_minus, a_t_sum_divisor)
    else
      (f_M_makeMinor k i0_t i0_t_matrix n_t_matrix_signs a_t_matrix_signs n_t_matrix_lengths a_t_matrix_lengths n_t_matrix_limbs a_t_matrix_limbs i0_t_sum n_t_sum_plus a_t_sum_plus n_t_sum_minus a_t_sum_minus n_t_sum_divisor a_t_sum_divisor n_t_rowAt a_t_rowAt v1 v3 v4).bind fun x31 =>
      if x31.1 = 0 then
        some (true, 3, v4, x31.2.1, x31.2.2.1, x31.2.2.2.1, x31.2.2.2.2.1, x31.2.2.2.2.2.1, x31.2.2.2.2.2.2.1, x31.2.2.2.2.2.2.2.1, x31.2.2.2.2.2.2.2.2)
      else
        f_M_eliminateColumn_L48 k v1 v3 i0_t i0_t_matrix n_t_matrix_signs n_t_matrix_lengths n_t_matrix_limbs i0_t_sum n_t_sum_plus n_t_sum_minus n_t_sum_divisor n_t_rowAt a_t_rowAt j (v4 + 1) x31.2.1 x31.2.2.1 x31.2.2.2.1 x31.2.2.2.2.1 x31.2.2.2.2.2.1 x31.2.2.2.2.2.2.1 x31.2.2.2.2.2.2.2.1 x31.2.2.2.2.2.2.2.2
def f_M_eliminateColumn_L35 (k : Nat) (v1 : Int32) (i0_t : Int32) (i0_t_matrix : Int32) (n_t_matrix_signs : Nat) (n_t_matrix_lengths : Nat) (n_t_matrix_limbs : Nat) (i0_t_sum : Int32) (n_t_sum_plus : Nat) (n_t_sum_minus : Nat) (n_t_sum_divisor : Nat) (n_t_rowAt : Nat) (a_t_rowAt : Nat → Int32) : Nat → Int32 → (Nat → Int32) → (Nat → Int32) → (Nat → Int32) → Int32 → Int32 → (Nat → Int32) → (Nat → Int32) → (Nat → Int32) → Option (Bool × Int32 × Int32 × (Nat → Int32) × (Nat → Int32) × (Nat → Int32) × Int32 × Int32 × (Nat → Int32) × (Nat → Int32) × (Nat → Int32))
  | 0, _, _, _, _, _, _, _, _, _ => none
  | j + 1, v3, a_t_matrix_signs, a_t_matrix_lengths, a_t_matrix_limbs, i4_t_sum, i5_t_sum, a_t_sum_plus, a_t_sum_minus, a_t_sum_divisor =>
    if i0_t ≤ v3 then
      some (false, 0, v3, a_t_matrix_signs, a_t_matrix_lengths, a_t_matrix_limbs, i4_t_sum, i5_t_sum, a_t_sum_plus, a_t_sum_minus, a_t_sum_divisor)
    else
      (f_M_eliminateColumn_L48 k v1 v3 i0_t i0_t_matrix n_t_matrix_signs n_t_matrix_lengths n_t_matrix_limbs i0_t_sum n_t_sum_plus n_t_sum_minus n_t_sum_divisor n_t_rowAt a_t_rowAt k (v1 + 1) a_t_matrix_signs a_t_matrix_lengths a_t_matrix_limbs i4_t_sum i5_t_sum a_t_sum_plus a_t_sum_minus a_t_sum_divisor).bind fun x38 =>
      if x38.1 = true then
        some (true, x38.2.1, (0 : Int32), x38.2.2.2.1, x38.2.2.2.2.1, x38.2.2.2.2.2.1, x38.2.2.2.2.2.2.1, x38.2.2.2.2.2.2.2.1, x38.2.2.2.2.2.2.2.2.1, x38.2.2.2.2.2.2.2.2.2.1, x38.2.2.2.2.2.2.2.2.2.2)
      else
        f_M_eliminateColumn_L35 k v1 i0_t i0_t_matrix n_t_matrix_signs n_t_matrix_lengths n_t_matrix_limbs i0_t_sum n_t_sum_plus n_t_sum_minus n_t_sum_divisor n_t_rowAt a_t_rowAt j (v3 + 1) x38.2.2.2.1 x38.2.2.2.2.1 x38.2.2.2.2.2.1 x38.2.2.2.2.2.2.1 x38.2.2.2.2.2.2.2.1 x38.2.2.2.2.2.2.2.2.1 x38.2.2.2.2.2.2.2.2.2.1 x38.2.2.2.2.2.2.2.2.2.2
def f_M_eliminateColumn (k : Nat) (t_n : Int32) (t_pivotsMade : Int32) (t_oddSwaps : Int32) (t_matrix_room : Int32) (n_t_matrix_signs : Nat) (a_t_matrix_signs : Nat → Int32) (n_t_matrix_lengths : Nat) (a_t_matrix_lengths : Nat → Int32) (n_t_matrix_limbs : Nat) (a_t_matrix_limbs : Nat → Int32) (t_sum_room : Int32) (t_sum_sign : Int32) (t_sum_length : Int32) (n_t_sum_plus : Nat) (a_t_sum_plus : Nat → Int32) (n_t_sum_minus : Nat) (a_t_sum_minus : Nat → Int32) (n_t_sum_divisor : Nat) (a_t_sum_divisor : Nat → Int32) (n_t_rowAt : Nat) (a_t_rowAt : Nat → Int32) (kk : Int32) : Option (Int32 × Int32 × Int32 × (Nat → Int32) × (Nat → Int32) × (Nat → Int32) × Int32 × Int32 × (Nat → Int32) × (Nat → Int32) × (Nat → Int32) × (Nat → Int32)) :=
  (f_M_findPivotRow k t_n n_t_matrix_signs a_t_matrix_signs n_t_rowAt a_t_rowAt kk).bind fun x1 =>
  if x1 = (-1) then
    some ((2 : Int32), t_pivotsMade, t_oddSwaps, a_t_matrix_signs, a_t_matrix_lengths, a_t_matrix_limbs, t_sum_sign, t_sum_length, a_t_sum_plus, a_t_sum_minus, a_t_sum_divisor, a_t_rowAt)
  else
    if x1 = kk then
      (f_M_eliminateColumn_L35 k kk t_n t_matrix_room n_t_matrix_signs n_t_matrix_lengths n_t_matrix_limbs t_sum_room n_t_sum_plus n_t_sum_minus n_t_sum_divisor n_t_rowAt a_t_rowAt k (kk + 1) a_t_matrix_signs a_t_matrix_lengths a_t_matrix_limbs t_sum_sign t_sum_length a_t_sum_plus a_t_sum_minus a_t_sum_divisor).bind fun x41 =>
      if x41.1 = true then
        some (x41.2.1, kk + 1, t_oddSwaps, x41.2.2.2.1, x41.2.2.2.2.1, x41.2.2.2.2.2.1, x41.2.2.2.2.2.2.1, x41.2.2.2.2.2.2.2.1, x41.2.2.2.2.2.2.2.2.1, x41.2.2.2.2.2.2.2.2.2.1, x41.2.2.2.2.2.2.2.2.2.2, a_t_rowAt)
      else
        some ((0 : Int32), kk + 1, t_oddSwaps, x41.2.2.2.1, x41.2.2.2.2.1, x41.2.2.2.2.2.1, x41.2.2.2.2.2.2.1, x41.2.2.2.2.2.2.2.1, x41.2.2.2.2.2.2.2.2.1, x41.2.2.2.2.2.2.2.2.2.1, x41.2.2.2.2.2.2.2.2.2.2, a_t_rowAt)
    else
      (f_M_swapRows t_oddSwaps n_t_rowAt a_t_rowAt kk x1).bind fun x44 =>
      (f_M_eliminateColumn_L35 k kk t_n t_matrix_room n_t_matrix_signs n_t_matrix_lengths n_t_matrix_limbs t_sum_room n_t_sum_plus n_t_sum_minus n_t_sum_divisor n_t_rowAt x44.2 k (kk + 1) a_t_matrix_signs a_t_matrix_lengths a_t_matrix_limbs t_sum_sign t_sum_length a_t_sum_plus a_t_sum_minus a_t_sum_divisor).bind fun x46 =>
      if x46.1 = true then
        some (x46.2.1, kk + 1, x44.1, x46.2.2.2.1, x46.2.2.2.2.1, x46.2.2.2.2.2.1, x46.2.2.2.2.2.2.1, x46.2.2.2.2.2.2.2.1, x46.2.2.2.2.2.2.2.2.1, x46.2.2.2.2.2.2.2.2.2.1, x46.2.2.2.2.2.2.2.2.2.2, x44.2)
      else
        some ((0 : Int32), kk + 1, x44.1, x46.2.2.2.1, x46.2.2.2.2.1, x46.2.2.2.2.2.1, x46.2.2.2.2.2.2.1, x46.2.2.2.2.2.2.2.1, x46.2.2.2.2.2.2.2.2.1, x46.2.2.2.2.2.2.2.2.2.1, x46.2.2.2.2.2.2.2.2.2.2, x44.2)
def f_M_finishOutcome_L40 (k : Nat) (i0_t : Int32) (n_t_outcome_signs : Nat) : Nat → Int32 → (Nat → Int32) → Option (Int32 × (Nat → Int32))
  | 0, _, _ => none
  | j + 1, v1, a_t_outcome_signs =>
    if i0_t < v1 then
      some (v1, a_t_outcome_signs)
    else
      (f_N_negate n_t_outcome_signs a_t_outcome_signs v1).bind fun x13 =>
      f_M_finishOutcome_L40 k i0_t n_t_outcome_signs j (v1 + 1) x13
def f_M_finishOutcome (k : Nat) (t_n : Int32) (t_oddSwaps : Int32) (n_t_matrix_signs : Nat) (a_t_matrix_signs : Nat → Int32) (n_t_matrix_lengths : Nat) (a_t_matrix_lengths : Nat → Int32) (n_t_matrix_limbs : Nat) (a_t_matrix_limbs : Nat → Int32) (t_outcome_room : Int32) (n_t_outcome_signs : Nat) (a_t_outcome_signs : Nat → Int32) (n_t_outcome_lengths : Nat) (a_t_outcome_lengths : Nat → Int32) (n_t_outcome_limbs : Nat) (a_t_outcome_limbs : Nat → Int32) (n_t_rowAt : Nat) (a_t_rowAt : Nat → Int32) : Option ((Nat → Int32) × (Nat → Int32) × (Nat → Int32)) :=
  (f_M_slotAt t_n n_t_rowAt a_t_rowAt (t_n - 1) (t_n - 1)).bind fun x1 =>
  (f_N_copy t_outcome_room n_t_outcome_signs a_t_outcome_signs n_t_outcome_lengths a_t_outcome_lengths n_t_outcome_limbs a_t_outcome_limbs t_n n_t_matrix_signs a_t_matrix_signs n_t_matrix_lengths a_t_matrix_lengths n_t_matrix_limbs a_t_matrix_limbs x1).bind fun x3 =>
  if t_oddSwaps = 0 then
    some (x3.1, x3.2.1, x3.2.2)
  else
    (f_M_finishOutcome_L40 k t_n n_t_outcome_signs k (0 : Int32) x3.1).bind fun x15 =>
    some (x15.2, x3.2.1, x3.2.2)
def f_M_solveRow_L52 (k : Nat) (v1 : Int32) (i0_t : Int32) (i0_t_matrix : Int32) (n_t_matrix_signs : Nat) (a_t_matrix_signs : Nat → Int32) (n_t_matrix_lengths : Nat) (a_t_matrix_lengths : Nat → Int32) (n_t_matrix_limbs : Nat) (a_t_matrix_limbs : Nat → Int32) (i0_t_outcome : Int32) (n_t_outcome_signs : Nat) (a_t_outcome_signs : Nat → Int32) (n_t_outcome_lengths : Nat) (a_t_outcome_lengths : Nat → Int32) (n_t_outcome_limbs : Nat) (a_t_outcome_limbs : Nat → Int32) (n_t_sum_plus : Nat) (n_t_sum_minus : Nat) (n_t_rowAt : Nat) (a_t_rowAt : Nat → Int32) : Nat → Int32 → (Nat → Int32) → (Nat → Int32) → Option (Int32 × (Nat → Int32) × (Nat → Int32))
  | 0, _, _, _ => none
  | j + 1, v2, a_t_sum_plus, a_t_sum_minus =>
    if i0_t ≤ v2 then
      some (v2, a_t_sum_plus, a_t_sum_minus)
    else
      (f_M_slotAt i0_t n_t_rowAt a_t_rowAt v1 v2).bind fun x20 =>
      (f_S_addProduct k n_t_sum_plus a_t_sum_plus n_t_sum_minus a_t_sum_minus i0_t_matrix n_t_matrix_signs a_t_matrix_signs n_t_matrix_lengths a_t_matrix_lengths n_t_matrix_limbs a_t_matrix_limbs x20 i0_t_outcome n_t_outcome_signs a_t_outcome_signs n_t_outcome_lengths a_t_outcome_lengths n_t_outcome_limbs a_t_outcome_limbs v2 (-1 : Int32)).bind fun x22 =>
      f_M_solveRow_L52 k v1 i0_t i0_t_matrix n_t_matrix_signs a_t_matrix_signs n_t_matrix_lengths a_t_matrix_lengths n_t_matrix_limbs a_t_matrix_limbs i0_t_outcome n_t_outcome_signs a_t_outcome_signs n_t_outcome_lengths a_t_outcome_lengths n_t_outcome_limbs a_t_outcome_limbs n_t_sum_plus n_t_sum_minus n_t_rowAt a_t_rowAt j (v2 + 1) x22.1 x22.2
def f_M_solveRow (k : Nat) (t_n : Int32) (t_oddSwaps : Int32) (t_matrix_room : Int32) (n_t_matrix_signs : Nat) (a_t_matrix_signs : Nat → Int32) (n_t_matrix_lengths : Nat) (a_t_matrix_lengths : Nat → Int32) (n_t_matrix_limbs : Nat) (a_t_matrix_limbs : Nat → Int32) (t_outcome_room : Int32) (n_t_outcome_signs : Nat) (a_t_outcome_signs : Nat → Int32) (n_t_outcome_lengths : Nat) (a_t_outcome_lengths : Nat → Int32) (n_t_outcome_limbs : Nat) (a_t_outcome_limbs : Nat → Int32) (t_sum_room : Int32) (n_t_sum_plus : Nat) (a_t_sum_plus : Nat → Int32) (n_t_sum_minus : Nat) (a_t_sum_minus : Nat → Int32) (n_t_sum_divisor : Nat) (a_t_sum_divisor : Nat → Int32) (n_t_rowAt : Nat) (a_t_rowAt : Nat → Int32) (row : Int32) : Option (Int32 × (Nat → Int32) × (Nat → Int32) × (Nat → Int32) × Int32 × Int32 × (Nat → Int32) × (Nat → Int32) × (Nat → Int32)) :=
  (f_S_clear k n_t_sum_plus a_t_sum_plus n_t_sum_minus a_t_sum_minus).bind fun x1 =>
  (f_M_slotAt t_n n_t_rowAt a_t_rowAt (t_n - 1) (t_n - 1)).bind fun x3 =>
  (f_M_slotAt t_n n_t_rowAt a_t_rowAt row t_n).bind fun x5 =>
  (f_S_addProductSame k n_t_sum_plus x1.2.2.1 n_t_sum_minus x1.2.2.2 t_matrix_room n_t_matrix_signs a_t_matrix_signs n_t_matrix_lengths a_t_matrix_lengths n_t_matrix_limbs a_t_matrix_limbs x3 x5 (1 : Int32)).bind fun x7 =>
  (f_M_solveRow_L52 k row t_n t_matrix_room n_t_matrix_signs a_t_matrix_signs n_t_matrix_lengths a_t_matrix_lengths n_t_matrix_limbs a_t_matrix_limbs t_outcome_room n_t_outcome_signs a_t_outcome_signs n_t_outcome_lengths a_t_outcome_lengths n_t_outcome_limbs a_t_outcome_limbs n_t_sum_plus n_t_sum_minus n_t_rowAt a_t_rowAt k (row + 1) x7.1 x7.2).bind fun x24 =>
  (f_S_settle k n_t_sum_plus x24.2.1 n_t_sum_minus x24.2.2).bind fun x26 =>
  (f_M_slotAt t_n n_t_rowAt a_t_rowAt row row).bind fun x28 =>
  (f_S_divideBy k x26.1 x26.2.1 n_t_sum_plus x26.2.2 n_t_sum_divisor a_t_sum_divisor t_matrix_room n_t_matrix_signs a_t_matrix_signs n_t_matrix_lengths a_t_matrix_lengths n_t_matrix_limbs a_t_matrix_limbs x28).bind fun x30 =>
  (f_S_storeIn t_sum_room x30.1 x30.2.1 n_t_sum_plus x30.2.2.1 t_outcome_room n_t_outcome_signs a_t_outcome_signs n_t_outcome_lengths a_t_outcome_lengths n_t_outcome_limbs a_t_outcome_limbs row).bind fun x32 =>
  if x32.1 = 0 then
    some ((3 : Int32), x32.2.1, x32.2.2.1, x32.2.2.2, x30.1, x30.2.1, x30.2.2.1, x24.2.2, x30.2.2.2)
  else
    if row ≤ 0 then
      (f_M_finishOutcome k t_n t_oddSwaps n_t_matrix_signs a_t_matrix_signs n_t_matrix_lengths a_t_matrix_lengths n_t_matrix_limbs a_t_matrix_limbs t_outcome_room n_t_outcome_signs x32.2.1 n_t_outcome_lengths x32.2.2.1 n_t_outcome_limbs x32.2.2.2 n_t_rowAt a_t_rowAt).bind fun x36 =>
      some ((1 : Int32), x36.1, x36.2.1, x36.2.2, x30.1, x30.2.1, x30.2.2.1, x24.2.2, x30.2.2.2)
    else
      some ((0 : Int32), x32.2.1, x32.2.2.1, x32.2.2.2, x30.1, x30.2.1, x30.2.2.1, x24.2.2, x30.2.2.2)
def f_M_step (k : Nat) (t_n : Int32) (t_told : Int32) (t_stepsDone : Int32) (t_pivotsMade : Int32) (t_oddSwaps : Int32) (t_chosen : Int32) (t_matrix_room : Int32) (n_t_matrix_signs : Nat) (a_t_matrix_signs : Nat → Int32) (n_t_matrix_lengths : Nat) (a_t_matrix_lengths : Nat → Int32) (n_t_matrix_limbs : Nat) (a_t_matrix_limbs : Nat → Int32) (t_loaded_room : Int32) (n_t_loaded_signs : Nat) (a_t_loaded_signs : Nat → Int32) (n_t_loaded_lengths : Nat) (a_t_loaded_lengths : Nat → Int32) (n_t_loaded_limbs : Nat) (a_t_loaded_limbs : Nat → Int32) (t_outcome_room : Int32) (n_t_outcome_signs : Nat) (a_t_outcome_signs : Nat → Int32) (n_t_outcome_lengths : Nat) (a_t_outcome_lengths : Nat → Int32) (n_t_outcome_limbs : Nat) (a_t_outcome_limbs : Nat → Int32) (t_sum_room : Int32) (t_sum_sign : Int32) (t_sum_length : Int32) (n_t_sum_plus : Nat) (a_t_sum_plus : Nat → Int32) (n_t_sum_minus : Nat) (a_t_sum_minus : Nat → Int32) (n_t_sum_divisor : Nat) (a_t_sum_divisor : Nat → Int32) (n_t_rowAt : Nat) (a_t_rowAt : Nat → Int32) : Option (Int32 × Int32 × Int32 × Int32 × Int32 × Int32 × (Nat → Int32) × (Nat → Int32) × (Nat → Int32) × (Nat → Int32) × (Nat → Int32) × (Nat → Int32) × (Nat → Int32) × (Nat → Int32) × (Nat → Int32) × Int32 × Int32 × (Nat → Int32) × (Nat → Int32) × (Nat → Int32) × (Nat → Int32)) :=
  (f_M_isEnded t_told).bind fun x1 =>
  if x1 = 0 then
    if t_told = 4 then
      (f_M_endLoading k t_n n_t_matrix_signs a_t_matrix_signs n_t_matrix_lengths a_t_matrix_lengths n_t_matrix_limbs a_t_matrix_limbs t_loaded_room n_t_loaded_signs a_t_loaded_signs n_t_loaded_lengths a_t_loaded_lengths n_t_loaded_limbs a_t_loaded_limbs).bind fun x10 =>
      if t_n ≤ t_stepsDone then
        (f_M_solveRow k t_n t_oddSwaps t_matrix_room n_t_matrix_signs a_t_matrix_signs n_t_matrix_lengths a_t_matrix_lengths n_t_matrix_limbs a_t_matrix_limbs t_outcome_room n_t_outcome_signs a_t_outcome_signs n_t_outcome_lengths a_t_outcome_lengths n_t_outcome_limbs a_t_outcome_limbs t_sum_room n_t_sum_plus a_t_sum_plus n_t_sum_minus a_t_sum_minus n_t_sum_divisor a_t_sum_divisor n_t_rowAt a_t_rowAt (((2 * t_n) - 1) - t_stepsDone)).bind fun x13 =>
        some (x13.1, x13.1, t_stepsDone + 1, t_pivotsMade, t_oddSwaps, x10.1, a_t_matrix_signs, a_t_matrix_lengths, a_t_matrix_limbs, x10.2.1, x10.2.2.1, x10.2.2.2, x13.2.1, x13.2.2.1, x13.2.2.2.1, x13.2.2.2.2.1, x13.2.2.2.2.2.1, x13.2.2.2.2.2.2.1, x13.2.2.2.2.2.2.2.1, x13.2.2.2.2.2.2.2.2, a_t_rowAt)
      else
        (f_M_eliminateColumn k t_n t_pivotsMade t_oddSwaps t_matrix_room n_t_matrix_signs a_t_matrix_signs n_t_matrix_lengths a_t_matrix_lengths n_t_matrix_limbs a_t_matrix_limbs t_sum_room t_sum_sign t_sum_length n_t_sum_plus a_t_sum_plus n_t_sum_minus a_t_sum_minus n_t_sum_divisor a_t_sum_divisor n_t_rowAt a_t_rowAt t_stepsDone).bind fun x15 =>
        some (x15.1, x15.1, t_stepsDone + 1, x15.2.1, x15.2.2.1, x10.1, x15.2.2.2.1, x15.2.2.2.2.1, x15.2.2.2.2.2.1, x10.2.1, x10.2.2.1, x10.2.2.2, a_t_outcome_signs, a_t_outcome_lengths, a_t_outcome_limbs, x15.2.2.2.2.2.2.1, x15.2.2.2.2.2.2.2.1, x15.2.2.2.2.2.2.2.2.1, x15.2.2.2.2.2.2.2.2.2.1, x15.2.2.2.2.2.2.2.2.2.2.1, x15.2.2.2.2.2.2.2.2.2.2.2)
    else
      if t_n ≤ t_stepsDone then
        (f_M_solveRow k t_n t_oddSwaps t_matrix_room n_t_matrix_signs a_t_matrix_signs n_t_matrix_lengths a_t_matrix_lengths n_t_matrix_limbs a_t_matrix_limbs t_outcome_room n_t_outcome_signs a_t_outcome_signs n_t_outcome_lengths a_t_outcome_lengths n_t_outcome_limbs a_t_outcome_limbs t_sum_room n_t_sum_plus a_t_sum_plus n_t_sum_minus a_t_sum_minus n_t_sum_divisor a_t_sum_divisor n_t_rowAt a_t_rowAt (((2 * t_n) - 1) - t_stepsDone)).bind fun x6 =>
        some (x6.1, x6.1, t_stepsDone + 1, t_pivotsMade, t_oddSwaps, t_chosen, a_t_matrix_signs, a_t_matrix_lengths, a_t_matrix_limbs, a_t_loaded_signs, a_t_loaded_lengths, a_t_loaded_limbs, x6.2.1, x6.2.2.1, x6.2.2.2.1, x6.2.2.2.2.1, x6.2.2.2.2.2.1, x6.2.2.2.2.2.2.1, x6.2.2.2.2.2.2.2.1, x6.2.2.2.2.2.2.2.2, a_t_rowAt)
      else
        (f_M_eliminateColumn k t_n t_pivotsMade t_oddSwaps t_matrix_room n_t_matrix_signs a_t_matrix_signs n_t_matrix_lengths a_t_matrix_lengths n_t_matrix_limbs a_t_matrix_limbs t_sum_room t_sum_sign t_sum_length n_t_sum_plus a_t_sum_plus n_t_sum_minus a_t_sum_minus n_t_sum_divisor a_t_sum_divisor n_t_rowAt a_t_rowAt t_stepsDone).bind fun x8 =>
        some (x8.1, x8.1, t_stepsDone + 1, x8.2.1, x8.2.2.1, t_chosen, x8.2.2.2.1, x8.2.2.2.2.1, x8.2.2.2.2.2.1, a_t_loaded_signs, a_t_loaded_lengths, a_t_loaded_limbs, a_t_outcome_signs, a_t_outcome_lengths, a_t_outcome_limbs, x8.2.2.2.2.2.2.1, x8.2.2.2.2.2.2.2.1, x8.2.2.2.2.2.2.2.2.1, x8.2.2.2.2.2.2.2.2.2.1, x8.2.2.2.2.2.2.2.2.2.2.1, x8.2.2.2.2.2.2.2.2.2.2.2)
  else
    some (t_told, t_told, t_stepsDone, t_pivotsMade, t_oddSwaps, t_chosen, a_t_matrix_signs, a_t_matrix_lengths, a_t_matrix_limbs, a_t_loaded_signs, a_t_loaded_lengths, a_t_loaded_limbs, a_t_outcome_signs, a_t_outcome_lengths, a_t_outcome_limbs, t_sum_sign, t_sum_length, a_t_sum_plus, a_t_sum_minus, a_t_sum_divisor, a_t_rowAt)
def f_M_status (t_told : Int32) : Option (Int32) :=
  some t_told
def f_M_steps (t_stepsDone : Int32) : Option (Int32) :=
  some t_stepsDone
def f_M_determinant (t_n : Int32) (t_told : Int32) (t_outcome_room : Int32) (n_t_outcome_signs : Nat) (a_t_outcome_signs : Nat → Int32) (n_t_outcome_lengths : Nat) (a_t_outcome_lengths : Nat → Int32) (n_t_outcome_limbs : Nat) (a_t_outcome_limbs : Nat → Int32) (what : Int32) : Option (Int32) :=
  if t_told = 2 then
    if what = (-2) then
      some (0 : Int32)
    else
      if what = (-1) then
        some (0 : Int32)
      else
        some (-1 : Int32)
  else
    if t_told = 1 then
      (f_N_tell t_outcome_room n_t_outcome_signs a_t_outcome_signs n_t_outcome_lengths a_t_outcome_lengths n_t_outcome_limbs a_t_outcome_limbs t_n what).bind fun x3 =>
      some x3
    else
      some (-1 : Int32)
def f_M_numerator (t_n : Int32) (t_told : Int32) (t_outcome_room : Int32) (n_t_outcome_signs : Nat) (a_t_outcome_signs : Nat → Int32) (n_t_outcome_lengths : Nat) (a_t_outcome_lengths : Nat → Int32) (n_t_outcome_limbs : Nat) (a_t_outcome_limbs : Nat → Int32) (jj : Int32) (what : Int32) : Option (Int32) :=
  if t_told = 1 then
    if jj < 0 then
      some (-1 : Int32)
    else
      if t_n ≤ jj then
        some (-1 : Int32)
      else
        (f_N_tell t_outcome_room n_t_outcome_signs a_t_outcome_signs n_t_outcome_lengths a_t_outcome_lengths n_t_outcome_limbs a_t_outcome_limbs jj what).bind fun x4 =>
        some x4
  else
    some (-1 : Int32)
def f_M_pivot (t_n : Int32) (t_pivotsMade : Int32) (t_matrix_room : Int32) (n_t_matrix_signs : Nat) (a_t_matrix_signs : Nat → Int32) (n_t_matrix_lengths : Nat) (a_t_matrix_lengths : Nat → Int32) (n_t_matrix_limbs : Nat) (a_t_matrix_limbs : Nat → Int32) (n_t_rowAt : Nat) (a_t_rowAt : Nat → Int32) (kk : Int32) (what : Int32) : Option (Int32) :=
  if kk < 0 then
    some (-1 : Int32)
  else
    if t_pivotsMade ≤ kk then
      some (-1 : Int32)
    else
      (f_M_slotAt t_n n_t_rowAt a_t_rowAt kk kk).bind fun x3 =>
      (f_N_tell t_matrix_room n_t_matrix_signs a_t_matrix_signs n_t_matrix_lengths a_t_matrix_lengths n_t_matrix_limbs a_t_matrix_limbs x3 what).bind fun x5 =>
      some x5
def f_M_number (t_n : Int32) (t_matrix_room : Int32) (n_t_matrix_signs : Nat) (a_t_matrix_signs : Nat → Int32) (n_t_matrix_lengths : Nat) (a_t_matrix_lengths : Nat → Int32) (n_t_matrix_limbs : Nat) (a_t_matrix_limbs : Nat → Int32) (n_t_rowAt : Nat) (a_t_rowAt : Nat → Int32) (row : Int32) (column : Int32) (what : Int32) : Option (Int32) :=
  (f_M_isPlace t_n row column).bind fun x1 =>
  if x1 = 0 then
    some (-1 : Int32)
  else
    (f_M_slotAt t_n n_t_rowAt a_t_rowAt row column).bind fun x4 =>
    (f_N_tell t_matrix_room n_t_matrix_signs a_t_matrix_signs n_t_matrix_lengths a_t_matrix_lengths n_t_matrix_limbs a_t_matrix_limbs x4 what).bind fun x6 =>
    some x6
def f_M_row (t_n : Int32) (n_t_rowAt : Nat) (a_t_rowAt : Nat → Int32) (ii : Int32) : Option (Int32) :=
  if ii < 0 then
    some (-1 : Int32)
  else
    if t_n ≤ ii then
      some (-1 : Int32)
    else
      cond (inb ii n_t_rowAt) (
      some (a_t_rowAt ii.toNatClampNeg)) none
def f_M_equationHolds_L18 (k : Nat) (v2 : Int32) (i0_t : Int32) (i0_t_loaded : Int32) (n_t_loaded_signs : Nat) (a_t_loaded_signs : Nat → Int32) (n_t_loaded_lengths : Nat) (a_t_loaded_lengths : Nat → Int32) (n_t_loaded_limbs : Nat) (a_t_loaded_limbs : Nat → Int32) (i0_t_outcome : Int32) (n_t_outcome_signs : Nat) (a_t_outcome_signs : Nat → Int32) (n_t_outcome_lengths : Nat) (a_t_outcome_lengths : Nat → Int32) (n_t_outcome_limbs : Nat) (a_t_outcome_limbs : Nat → Int32) (n_t_sum_plus : Nat) (n_t_sum_minus : Nat) : Nat → Int32 → (Nat → Int32) → (Nat → Int32) → Option (Int32 × (Nat → Int32) × (Nat → Int32))
  | 0, _, _, _ => none
  | j + 1, v3, a_t_sum_plus, a_t_sum_minus =>
    if i0_t ≤ v3 then
      some (v3, a_t_sum_plus, a_t_sum_minus)
    else
      (f_S_addProduct k n_t_sum_plus a_t_sum_plus n_t_sum_minus a_t_sum_minus i0_t_loaded n_t_loaded_signs a_t_loaded_signs n_t_loaded_lengths a_t_loaded_lengths n_t_loaded_limbs a_t_loaded_limbs (v2 + v3) i0_t_outcome n_t_outcome_signs a_t_outcome_signs n_t_outcome_lengths a_t_outcome_lengths n_t_outcome_limbs a_t_outcome_limbs v3 (1 : Int32)).bind fun x10 =>
      f_M_equationHolds_L18 k v2 i0_t i0_t_loaded n_t_loaded_signs a_t_loaded_signs n_t_loaded_lengths a_t_loaded_lengths n_t_loaded_limbs a_t_loaded_limbs i0_t_outcome n_t_outcome_signs a_t_outcome_signs n_t_outcome_lengths a_t_outcome_lengths n_t_outcome_limbs a_t_outcome_limbs n_t_sum_plus n_t_sum_minus j (v3 + 1) x10.1 x10.2
def f_M_equationHolds (k : Nat) (t_n : Int32) (t_loaded_room : Int32) (n_t_loaded_signs : Nat) (a_t_loaded_signs : Nat → Int32) (n_t_loaded_lengths : Nat) (a_t_loaded_lengths : Nat → Int32) (n_t_loaded_limbs : Nat) (a_t_loaded_limbs : Nat → Int32) (t_outcome_room : Int32) (n_t_outcome_signs : Nat) (a_t_outcome_signs : Nat → Int32) (n_t_outcome_lengths : Nat) (a_t_outcome_lengths : Nat → Int32) (n_t_outcome_limbs : Nat) (a_t_outcome_limbs : Nat → Int32) (n_t_sum_plus : Nat) (a_t_sum_plus : Nat → Int32) (n_t_sum_minus : Nat) (a_t_sum_minus : Nat → Int32) (loadedRow : Int32) : Option (Int32 × Int32 × Int32 × (Nat → Int32) × (Nat → Int32)) :=
  (f_S_clear k n_t_sum_plus a_t_sum_plus n_t_sum_minus a_t_sum_minus).bind fun x1 =>
  (f_M_equationHolds_L18 k (loadedRow * (t_n + 1)) t_n t_loaded_room n_t_loaded_signs a_t_loaded_signs n_t_loaded_lengths a_t_loaded_lengths n_t_loaded_limbs a_t_loaded_limbs t_outcome_room n_t_outcome_signs a_t_outcome_signs n_t_outcome_lengths a_t_outcome_lengths n_t_outcome_limbs a_t_outcome_limbs n_t_sum_plus n_t_sum_minus k (0 : Int32) x1.2.2.1 x1.2.2.2).bind fun x12 =>
  (f_S_addProduct k n_t_sum_plus x12.2.1 n_t_sum_minus x12.2.2 t_loaded_room n_t_loaded_signs a_t_loaded_signs n_t_loaded_lengths a_t_loaded_lengths n_t_loaded_limbs a_t_loaded_limbs ((loadedRow * (t_n + 1)) + t_n) t_outcome_room n_t_outcome_signs a_t_outcome_signs n_t_outcome_lengths a_t_outcome_lengths n_t_outcome_limbs a_t_outcome_limbs t_n (-1 : Int32)).bind fun x14 =>
  (f_S_isZero k n_t_sum_plus x14.1 n_t_sum_minus x14.2).bind fun x16 =>
  cond (isz x16) (
  some (x16, x1.1, x1.2.1, x14.1, x14.2)) none
def f_M_holds_L12 (k : Nat) (i0_t : Int32) (i0_t_loaded : Int32) (n_t_loaded_signs : Nat) (a_t_loaded_signs : Nat → Int32) (n_t_loaded_lengths : Nat) (a_t_loaded_lengths : Nat → Int32) (n_t_loaded_limbs : Nat) (a_t_loaded_limbs : Nat → Int32) (i0_t_outcome : Int32) (n_t_outcome_signs : Nat) (a_t_outcome_signs : Nat → Int32) (n_t_outcome_lengths : Nat) (a_t_outcome_lengths : Nat → Int32) (n_t_outcome_limbs : Nat) (a_t_outcome_limbs : Nat → Int32) (n_t_sum_plus : Nat) (n_t_sum_minus : Nat) : Nat → Int32 → Int32 → Int32 → (Nat → Int32) → (Nat → Int32) → Option (Bool × Int32 × Int32 × Int32 × Int32 × (Nat → Int32) × (Nat → Int32))
  | 0, _, _, _, _, _ => none
  | j + 1, v1, i4_t_sum, i5_t_sum, a_t_sum_plus, a_t_sum_minus =>
    if i0_t ≤ v1 then
      some (false, 0, v1, i4_t_sum, i5_t_sum, a_t_sum_plus, a_t_sum_minus)
    else
      (f_M_equationHolds k i0_t i0_t_loaded n_t_loaded_signs a_t_loaded_signs n_t_loaded_lengths a_t_loaded_lengths n_t_loaded_limbs a_t_loaded_limbs i0_t_outcome n_t_outcome_signs a_t_outcome_signs n_t_outcome_lengths a_t_outcome_lengths n_t_outcome_limbs a_t_outcome_limbs n_t_sum_plus a_t_sum_plus n_t_sum_minus a_t_sum_minus v1).bind fun x11 =>
      if x11.1 = 0 then
        some (true, 0, v1, x11.2.1, x11.2.2.1, x11.2.2.2.1, x11.2.2.2.2)
      else
        f_M_holds_L12 k i0_t i0_t_loaded n_t_loaded_signs a_t_loaded_signs n_t_loaded_lengths a_t_loaded_lengths n_t_loaded_limbs a_t_loaded_limbs i0_t_outcome n_t_outcome_signs a_t_outcome_signs n_t_outcome_lengths a_t_outcome_lengths n_t_outcome_limbs a_t_outcome_limbs n_t_sum_plus n_t_sum_minus j (v1 + 1) x11.2.1 x11.2.2.1 x11.2.2.2.1 x11.2.2.2.2
def f_M_holds (k : Nat) (t_n : Int32) (t_told : Int32) (t_loaded_room : Int32) (n_t_loaded_signs : Nat) (a_t_loaded_signs : Nat → Int32) (n_t_loaded_lengths : Nat) (a_t_loaded_lengths : Nat → Int32) (n_t_loaded_limbs : Nat) (a_t_loaded_limbs : Nat → Int32) (t_outcome_room : Int32) (n_t_outcome_signs : Nat) (a_t_outcome_signs : Nat → Int32) (n_t_outcome_lengths : Nat) (a_t_outcome_lengths : Nat → Int32) (n_t_outcome_limbs : Nat) (a_t_outcome_limbs : Nat → Int32) (t_sum_sign : Int32) (t_sum_length : Int32) (n_t_sum_plus : Nat) (a_t_sum_plus : Nat → Int32) (n_t_sum_minus : Nat) (a_t_sum_minus : Nat → Int32) : Option (Int32 × Int32 × Int32 × (Nat → Int32) × (Nat → Int32)) :=
  if t_told = 1 then
    (f_M_holds_L12 k t_n t_loaded_room n_t_loaded_signs a_t_loaded_signs n_t_loaded_lengths a_t_loaded_lengths n_t_loaded_limbs a_t_loaded_limbs t_outcome_room n_t_outcome_signs a_t_outcome_signs n_t_outcome_lengths a_t_outcome_lengths n_t_outcome_limbs a_t_outcome_limbs n_t_sum_plus n_t_sum_minus k (0 : Int32) t_sum_sign t_sum_length a_t_sum_plus a_t_sum_minus).bind fun x14 =>
    if x14.1 = true then
      cond (isz x14.2.1) (
      some (x14.2.1, x14.2.2.2.1, x14.2.2.2.2.1, x14.2.2.2.2.2.1, x14.2.2.2.2.2.2)) none
    else
      some ((1 : Int32), x14.2.2.2.1, x14.2.2.2.2.1, x14.2.2.2.2.2.1, x14.2.2.2.2.2.2)
  else
    some ((0 : Int32), t_sum_sign, t_sum_length, a_t_sum_plus, a_t_sum_minus)
def f_X_reset_L2 (k : Nat) (n_t_limbs : Nat) : Nat → Int32 → (Nat → Int32) → Option (Int32 × (Nat → Int32))
  | 0, _, _ => none
  | j + 1, v1, a_t_limbs =>
    if 2160 ≤ v1 then
      some (v1, a_t_limbs)
    else
      cond (inb v1 n_t_limbs) (
      f_X_reset_L2 k n_t_limbs j (v1 + 1) (upd a_t_limbs v1.toNatClampNeg 0)) none
def f_X_reset_L24 (k : Nat) (n_t_signs : Nat) : Nat → Int32 → (Nat → Int32) → Option (Int32 × (Nat → Int32))
  | 0, _, _ => none
  | j + 1, v1, a_t_signs =>
    if 54 ≤ v1 then
      some (v1, a_t_signs)
    else
      cond (inb v1 n_t_signs) (
      f_X_reset_L24 k n_t_signs j (v1 + 1) (upd a_t_signs v1.toNatClampNeg 0)) none
def f_X_reset_L45 (k : Nat) (n_t_rows : Nat) : Nat → Int32 → (Nat → Int32) → Option (Int32 × (Nat → Int32))
  | 0, _, _ => none
  | j + 1, v1, a_t_rows =>
    if 6 ≤ v1 then
      some (v1, a_t_rows)
    else
      cond (inb v1 n_t_rows) (
      f_X_reset_L45 k n_t_rows j (v1 + 1) (upd a_t_rows v1.toNatClampNeg v1)) none
def f_X_reset (k : Nat) (n_t_limbs : Nat) (a_t_limbs : Nat → Int32) (n_t_signs : Nat) (a_t_signs : Nat → Int32) (n_t_rows : Nat) (a_t_rows : Nat → Int32) : Option (Int32 × Int32 × Int32 × Int32 × Int32 × (Nat → Int32) × (Nat → Int32) × (Nat → Int32)) :=
  (f_X_reset_L2 k n_t_limbs k (0 : Int32) a_t_limbs).bind fun x7 =>
  (f_X_reset_L24 k n_t_signs k (0 : Int32) a_t_signs).bind fun x15 =>
  (f_X_reset_L45 k n_t_rows k (0 : Int32) a_t_rows).bind fun x23 =>
  some ((-1 : Int32), (4 : Int32), (0 : Int32), (0 : Int32), (0 : Int32), x7.2, x15.2, x23.2)
def f_X_isPlace (t_n : Int32) (row : Int32) (column : Int32) : Option (Int32) :=
  if row < 0 then
    some (0 : Int32)
  else
    if t_n ≤ row then
      some (0 : Int32)
    else
      if column < 0 then
        some (0 : Int32)
      else
        if t_n < column then
          some (0 : Int32)
        else
          some (1 : Int32)
def f_X_place (t_n : Int32) (row : Int32) (column : Int32) : Option (Int32) :=
  if column = t_n then
    some ((7 * row) + 6)
  else
    some ((7 * row) + column)
def f_X_clear_L2 (k : Nat) (v1 : Int32) (n_t_limbs : Nat) : Nat → Int32 → (Nat → Int32) → Option (Int32 × (Nat → Int32))
  | 0, _, _ => none
  | j + 1, v2, a_t_limbs =>
    if 40 ≤ v2 then
      some (v2, a_t_limbs)
    else
      cond (inb ((40 * v1) + v2) n_t_limbs) (
      f_X_clear_L2 k v1 n_t_limbs j (v2 + 1) (upd a_t_limbs ((40 * v1) + v2).toNatClampNeg 0)) none
def f_X_clear (k : Nat) (n_t_limbs : Nat) (a_t_limbs : Nat → Int32) (n_t_signs : Nat) (a_t_signs : Nat → Int32) (pp : Int32) : Option ((Nat → Int32) × (Nat → Int32)) :=
  (f_X_clear_L2 k pp n_t_limbs k (0 : Int32) a_t_limbs).bind fun x7 =>
  cond (inb pp n_t_signs) (
  some (x7.2, upd a_t_signs pp.toNatClampNeg 0)) none
def f_X_entry (k : Nat) (t_n : Int32) (t_chosen : Int32) (t_chosenSign : Int32) (t_chosenLimbs : Int32) (t_state : Int32) (n_t_limbs : Nat) (a_t_limbs : Nat → Int32) (n_t_signs : Nat) (a_t_signs : Nat → Int32) (row : Int32) (column : Int32) (sign : Int32) : Option (Int32 × Int32 × Int32 × Int32 × (Nat → Int32) × (Nat → Int32)) :=
  if t_state = 4 then
    (f_X_isPlace t_n row column).bind fun x2 =>
    if x2 = 0 then
      some ((0 : Int32), t_chosen, t_chosenSign, t_chosenLimbs, a_t_limbs, a_t_signs)
    else
      if sign < (-1) then
        some ((0 : Int32), t_chosen, t_chosenSign, t_chosenLimbs, a_t_limbs, a_t_signs)
      else
        if sign ≤ 1 then
          (f_X_place t_n row column).bind fun x7 =>
          (f_X_clear k n_t_limbs a_t_limbs n_t_signs a_t_signs x7).bind fun x9 =>
          some ((1 : Int32), x7, sign, (0 : Int32), x9.1, x9.2)
        else
          some ((0 : Int32), t_chosen, t_chosenSign, t_chosenLimbs, a_t_limbs, a_t_signs)
  else
    some ((0 : Int32), t_chosen, t_chosenSign, t_chosenLimbs, a_t_limbs, a_t_signs)
def f_X_limb (t_room : Int32) (t_chosen : Int32) (t_chosenSign : Int32) (t_chosenLimbs : Int32) (t_state : Int32) (n_t_limbs : Nat) (a_t_limbs : Nat → Int32) (n_t_signs : Nat) (a_t_signs : Nat → Int32) (word : Int32) : Option (Int32 × Int32 × (Nat → Int32) × (Nat → Int32)) :=
  if t_state = 4 then
    if t_chosen < 0 then
      some ((0 : Int32), t_chosenLimbs, a_t_limbs, a_t_signs)
    else
      if t_chosenSign = 0 then
        some ((0 : Int32), t_chosenLimbs, a_t_limbs, a_t_signs)
      else
        if word < 0 then
          some ((0 : Int32), t_chosenLimbs, a_t_limbs, a_t_signs)
        else
          if t_chosenLimbs = t_room then
            some ((0 : Int32), t_chosenLimbs, a_t_limbs, a_t_signs)
          else
            cond (inb ((40 * t_chosen) + t_chosenLimbs) n_t_limbs) (
            if word ≤ 0 then
              cond (inb t_chosen n_t_signs) (
              cond (inb t_chosen n_t_signs) (
              some ((1 : Int32), t_chosenLimbs + 1, upd a_t_limbs ((40 * t_chosen) + t_chosenLimbs).toNatClampNeg word, upd a_t_signs t_chosen.toNatClampNeg (a_t_signs t_chosen.toNatClampNeg))) none) none
            else
              cond (inb t_chosen n_t_signs) (
              some ((1 : Int32), t_chosenLimbs + 1, upd a_t_limbs ((40 * t_chosen) + t_chosenLimbs).toNatClampNeg word, upd a_t_signs t_chosen.toNatClampNeg t_chosenSign)) none) none
  else
    some ((0 : Int32), t_chosenLimbs, a_t_limbs, a_t_signs)
def f_X_copy_L2 (k : Nat) (v1 : Int32) (v2 : Int32) (n_t_limbs : Nat) : Nat → Int32 → (Nat → Int32) → Option (Int32 × (Nat → Int32))
  | 0, _, _ => none
  | j + 1, v3, a_t_limbs =>
    if 40 ≤ v3 then
      some (v3, a_t_limbs)
    else
      cond (inb ((40 * v1) + v3) n_t_limbs) (
      cond (inb ((40 * v2) + v3) n_t_limbs) (
      f_X_copy_L2 k v1 v2 n_t_limbs j (v3 + 1) (upd a_t_limbs ((40 * v2) + v3).toNatClampNeg (a_t_limbs ((40 * v1) + v3).toNatClampNeg))) none) none
def f_X_copy (k : Nat) (n_t_limbs : Nat) (a_t_limbs : Nat → Int32) (n_t_signs : Nat) (a_t_signs : Nat → Int32) (fro : Int32) (tt : Int32) : Option ((Nat → Int32) × (Nat → Int32)) :=
  (f_X_copy_L2 k fro tt n_t_limbs k (0 : Int32) a_t_limbs).bind fun x10 =>
  cond (inb fro n_t_signs) (
  cond (inb tt n_t_signs) (
  some (x10.2, upd a_t_signs tt.toNatClampNeg (a_t_signs fro.toNatClampNeg))) none) none
def f_X_count_L3 (k : Nat) (v1 : Int32) (n_t_limbs : Nat) (a_t_limbs : Nat → Int32) : Nat → Int32 → Option (Int32)
  | 0, _ => none
  | j + 1, v2 =>
    if v2 ≤ 0 then
      some v2
    else
      cond (inb (((40 * v1) + v2) - 1) n_t_limbs) (
      if a_t_limbs (((40 * v1) + v2) - 1).toNatClampNeg = 0 then
        f_X_count_L3 k v1 n_t_limbs a_t_limbs j (v2 + (-1))
      else
        some v2) none
def f_X_count (k : Nat) (n_t_limbs : Nat) (a_t_limbs : Nat → Int32) (pp : Int32) : Option (Int32) :=
  (f_X_count_L3 k pp n_t_limbs a_t_limbs k (40 : Int32)).bind fun x10 =>
  some x10
def f_X_multiply_L31 (k : Nat) (v1 : Int32) (v2 : Int32) (v3 : Int32) (v4 : Int32) (n_t_limbs : Nat) : Nat → Int64 → Int32 → (Nat → Int32) → Option (Int64 × Int32 × (Nat → Int32))
  | 0, _, _, _ => none
  | j + 1, v5, v7, a_t_limbs =>
    if v7 < v3 then
      cond (inb ((40 * v1) + v4) n_t_limbs) (
      if v3 ≤ v7 then
        cond (inb ((1920 + v4) + v7) n_t_limbs) (
        cond (inb ((1920 + v4) + v7) n_t_limbs) (
        f_X_multiply_L31 k v1 v2 v3 v4 n_t_limbs j ((((((a_t_limbs ((40 * v1) + v4).toNatClampNeg).toInt64) * ((0 : Int32).toInt64)) + ((a_t_limbs ((1920 + v4) + v7).toNatClampNeg).toInt64)) + v5) >>> ((31 : Int32).toInt64 &&& 63)) (v7 + 1) (upd a_t_limbs ((1920 + v4) + v7).toNatClampNeg (((((((a_t_limbs ((40 * v1) + v4).toNatClampNeg).toInt64) * ((0 : Int32).toInt64)) + ((a_t_limbs ((1920 + v4) + v7).toNatClampNeg).toInt64)) + v5) &&& 2147483647).toInt32))) none) none
      else
        cond (inb ((40 * v2) + v7) n_t_limbs) (
        cond (inb ((1920 + v4) + v7) n_t_limbs) (
        cond (inb ((1920 + v4) + v7) n_t_limbs) (
        f_X_multiply_L31 k v1 v2 v3 v4 n_t_limbs j ((((((a_t_limbs ((40 * v1) + v4).toNatClampNeg).toInt64) * ((a_t_limbs ((40 * v2) + v7).toNatClampNeg).toInt64)) + ((a_t_limbs ((1920 + v4) + v7).toNatClampNeg).toInt64)) + v5) >>> ((31 : Int32).toInt64 &&& 63)) (v7 + 1) (upd a_t_limbs ((1920 + v4) + v7).toNatClampNeg (((((((a_t_limbs ((40 * v1) + v4).toNatClampNeg).toInt64) * ((a_t_limbs ((40 * v2) + v7).toNatClampNeg).toInt64)) + ((a_t_limbs ((1920 + v4) + v7).toNatClampNeg).toInt64)) + v5) &&& 2147483647).toInt32))) none) none) none) none
    else
      if lg_cmp v5 (0 : Int64) ≤ 0 then
        some (v5, v7, a_t_limbs)
      else
        cond (inb ((40 * v1) + v4) n_t_limbs) (
        if v3 ≤ v7 then
          cond (inb ((1920 + v4) + v7) n_t_limbs) (
          cond (inb ((1920 + v4) + v7) n_t_limbs) (
          f_X_multiply_L31 k v1 v2 v3 v4 n_t_limbs j ((((((a_t_limbs ((40 * v1) + v4).toNatClampNeg).toInt64) * ((0 : Int32).toInt64)) + ((a_t_limbs ((1920 + v4) + v7).toNatClampNeg).toInt64)) + v5) >>> ((31 : Int32).toInt64 &&& 63)) (v7 + 1) (upd a_t_limbs ((1920 + v4) + v7).toNatClampNeg (((((((a_t_limbs ((40 * v1) + v4).toNatClampNeg).toInt64) * ((0 : Int32).toInt64)) + ((a_t_limbs ((1920 + v4) + v7).toNatClampNeg).toInt64)) + v5) &&& 2147483647).toInt32))) none) none
        else
          cond (inb ((40 * v2) + v7) n_t_limbs) (
          cond (inb ((1920 + v4) + v7) n_t_limbs) (
          cond (inb ((1920 + v4) + v7) n_t_limbs) (
          f_X_multiply_L31 k v1 v2 v3 v4 n_t_limbs j ((((((a_t_limbs ((40 * v1) + v4).toNatClampNeg).toInt64) * ((a_t_limbs ((40 * v2) + v7).toNatClampNeg).toInt64)) + ((a_t_limbs ((1920 + v4) + v7).toNatClampNeg).toInt64)) + v5) >>> ((31 : Int32).toInt64 &&& 63)) (v7 + 1) (upd a_t_limbs ((1920 + v4) + v7).toNatClampNeg (((((((a_t_limbs ((40 * v1) + v4).toNatClampNeg).toInt64) * ((a_t_limbs ((40 * v2) + v7).toNatClampNeg).toInt64)) + ((a_t_limbs ((1920 + v4) + v7).toNatClampNeg).toInt64)) + v5) &&& 2147483647).toInt32))) none) none) none) none
def f_X_multiply_L15 (k : Nat) (v1 : Int32) (v2 : Int32) (v3 : Int32) (n_t_limbs : Nat) : Nat → Int32 → (Nat → Int32) → Option (Int32 × (Nat → Int32))
  | 0, _, _ => none
  | j + 1, v4, a_t_limbs =>
    (f_X_count k n_t_limbs a_t_limbs v1).bind fun x111 =>
    if x111 ≤ v4 then
      some (v4, a_t_limbs)
    else
      (f_X_multiply_L31 k v1 v2 v3 v4 n_t_limbs k (0 : Int64) (0 : Int32) a_t_limbs).bind fun x114 =>
      f_X_multiply_L15 k v1 v2 v3 n_t_limbs j (v4 + 1) x114.2.2
def f_X_multiply (k : Nat) (n_t_limbs : Nat) (a_t_limbs : Nat → Int32) (n_t_signs : Nat) (a_t_signs : Nat → Int32) (aa : Int32) (bb : Int32) : Option ((Nat → Int32) × (Nat → Int32)) :=
  (f_X_clear k n_t_limbs a_t_limbs n_t_signs a_t_signs (48 : Int32)).bind fun x1 =>
  (f_X_count k n_t_limbs x1.1 bb).bind fun x3 =>
  (f_X_multiply_L15 k aa bb x3 n_t_limbs k (0 : Int32) x1.1).bind fun x116 =>
  cond (inb aa n_t_signs) (
  cond (inb bb n_t_signs) (
  cond (inb 48 n_t_signs) (
  some (x116.2, upd x1.2 (48 : Int32).toNatClampNeg ((x1.2 aa.toNatClampNeg) * (x1.2 bb.toNatClampNeg)))) none) none) none
def f_X_compare_L3 (k : Nat) (v1 : Int32) (v2 : Int32) (n_t_limbs : Nat) (a_t_limbs : Nat → Int32) : Nat → Int32 → Option (Bool × Int32 × Int32)
  | 0, _ => none
  | j + 1, v3 =>
    if v3 < 0 then
      some (false, 0, v3)
    else
      cond (inb ((40 * v1) + v3) n_t_limbs) (
      cond (inb ((40 * v2) + v3) n_t_limbs) (
      if a_t_limbs ((40 * v1) + v3).toNatClampNeg = a_t_limbs ((40 * v2) + v3).toNatClampNeg then
        f_X_compare_L3 k v1 v2 n_t_limbs a_t_limbs j (v3 + (-1))
      else
        if a_t_limbs ((40 * v2) + v3).toNatClampNeg ≤ a_t_limbs ((40 * v1) + v3).toNatClampNeg then
          some (true, 1, v3)
        else
          some (true, (-1), v3)) none) none
def f_X_compare (k : Nat) (n_t_limbs : Nat) (a_t_limbs : Nat → Int32) (aa : Int32) (bb : Int32) : Option (Int32) :=
  (f_X_compare_L3 k aa bb n_t_limbs a_t_limbs k (39 : Int32)).bind fun x16 =>
  if x16.1 = true then
    some x16.2.1
  else
    some (0 : Int32)
def f_X_join_L6 (k : Nat) (v1 : Int32) (v2 : Int32) (v3 : Int32) (v4 : Int32) (n_t_limbs : Nat) : Nat → Int64 → Int32 → (Nat → Int32) → Option (Int64 × Int32 × (Nat → Int32))
  | 0, _, _, _ => none
  | j + 1, v5, v7, a_t_limbs =>
    if 40 ≤ v7 then
      some (v5, v7, a_t_limbs)
    else
      cond (inb ((40 * v1) + v7) n_t_limbs) (
      if v3 = 0 then
        cond (inb ((40 * v2) + v7) n_t_limbs) (
        cond (inb ((40 * v4) + v7) n_t_limbs) (
        f_X_join_L6 k v1 v2 v3 v4 n_t_limbs j (((((a_t_limbs ((40 * v1) + v7).toNatClampNeg).toInt64) + (-((a_t_limbs ((40 * v2) + v7).toNatClampNeg).toInt64))) + v5) >>> ((31 : Int32).toInt64 &&& 63)) (v7 + 1) (upd a_t_limbs ((40 * v4) + v7).toNatClampNeg ((((((a_t_limbs ((40 * v1) + v7).toNatClampNeg).toInt64) + (-((a_t_limbs ((40 * v2) + v7).toNatClampNeg).toInt64))) + v5) &&& 2147483647).toInt32))) none) none
      else
        cond (inb ((40 * v2) + v7) n_t_limbs) (
        cond (inb ((40 * v4) + v7) n_t_limbs) (
        f_X_join_L6 k v1 v2 v3 v4 n_t_limbs j (((((a_t_limbs ((40 * v1) + v7).toNatClampNeg).toInt64) + ((a_t_limbs ((40 * v2) + v7).toNatClampNeg).toInt64)) + v5) >>> ((31 : Int32).toInt64 &&& 63)) (v7 + 1) (upd a_t_limbs ((40 * v4) + v7).toNatClampNeg ((((((a_t_limbs ((40 * v1) + v7).toNatClampNeg).toInt64) + ((a_t_limbs ((40 * v2) + v7).toNatClampNeg).toInt64)) + v5) &&& 2147483647).toInt32))) none) none) none
def f_X_join (k : Nat) (n_t_limbs : Nat) (a_t_limbs : Nat → Int32) (aa : Int32) (bb : Int32) (add : Int32) (tt : Int32) : Option ((Nat → Int32)) :=
  (f_X_join_L6 k aa bb add tt n_t_limbs k (0 : Int64) (0 : Int32) a_t_limbs).bind fun x22 =>
  some x22.2.2
def f_X_less (k : Nat) (n_t_limbs : Nat) (a_t_limbs : Nat → Int32) (n_t_signs : Nat) (a_t_signs : Nat → Int32) : Option ((Nat → Int32) × (Nat → Int32)) :=
  cond (inb 48 n_t_signs) (
  if a_t_signs (48 : Int32).toNatClampNeg = 0 then
    some (a_t_limbs, a_t_signs)
  else
    cond (inb 48 n_t_signs) (
    cond (inb 49 n_t_signs) (
    if a_t_signs (49 : Int32).toNatClampNeg = 0 then
      (f_X_join k n_t_limbs a_t_limbs (49 : Int32) (48 : Int32) (1 : Int32) (49 : Int32)).bind fun x6 =>
      cond (inb 49 n_t_signs) (
      some (x6, upd a_t_signs (49 : Int32).toNatClampNeg (-(a_t_signs (48 : Int32).toNatClampNeg)))) none
    else
      cond (inb 49 n_t_signs) (
      if a_t_signs (49 : Int32).toNatClampNeg = -(a_t_signs (48 : Int32).toNatClampNeg) then
        (f_X_join k n_t_limbs a_t_limbs (49 : Int32) (48 : Int32) (1 : Int32) (49 : Int32)).bind fun x29 =>
        cond (inb 49 n_t_signs) (
        some (x29, upd a_t_signs (49 : Int32).toNatClampNeg (-(a_t_signs (48 : Int32).toNatClampNeg)))) none
      else
        (f_X_compare k n_t_limbs a_t_limbs (49 : Int32) (48 : Int32)).bind fun x11 =>
        cond (inb 49 n_t_signs) (
        if x11 < 0 then
          (f_X_join k n_t_limbs a_t_limbs (48 : Int32) (49 : Int32) (0 : Int32) (49 : Int32)).bind fun x15 =>
          if x11 = 0 then
            cond (inb 49 n_t_signs) (
            some (x15, upd a_t_signs (49 : Int32).toNatClampNeg 0)) none
          else
            if x11 ≤ 0 then
              cond (inb 49 n_t_signs) (
              some (x15, upd a_t_signs (49 : Int32).toNatClampNeg (-(a_t_signs (48 : Int32).toNatClampNeg)))) none
            else
              cond (inb 49 n_t_signs) (
              some (x15, upd a_t_signs (49 : Int32).toNatClampNeg (a_t_signs (49 : Int32).toNatClampNeg))) none
        else
          (f_X_join k n_t_limbs a_t_limbs (49 : Int32) (48 : Int32) (0 : Int32) (49 : Int32)).bind fun x22 =>
          if x11 = 0 then
            cond (inb 49 n_t_signs) (
            some (x22, upd a_t_signs (49 : Int32).toNatClampNeg 0)) none
          else
            if x11 ≤ 0 then
              cond (inb 49 n_t_signs) (
              some (x22, upd a_t_signs (49 : Int32).toNatClampNeg (-(a_t_signs (48 : Int32).toNatClampNeg)))) none
            else
              cond (inb 49 n_t_signs) (
              some (x22, upd a_t_signs (49 : Int32).toNatClampNeg (a_t_signs (49 : Int32).toNatClampNeg))) none) none) none) none) none) none
def f_X_zeros_L2 (k : Nat) (v1 : Int32) (n_t_limbs : Nat) (a_t_limbs : Nat → Int32) : Nat → Int32 → Option (Int32)
  | 0, _ => none
  | j + 1, v2 =>
    cond (inb ((40 * v1) + (v2 / 31)) n_t_limbs) (
    if ((a_t_limbs ((40 * v1) + (v2 / 31)).toNatClampNeg) >>> ((v2 - v2 / 31 * 31) &&& 31)) &&& 1 = 0 then
      f_X_zeros_L2 k v1 n_t_limbs a_t_limbs j (v2 + 1)
    else
      some v2) none
def f_X_zeros (k : Nat) (n_t_limbs : Nat) (a_t_limbs : Nat → Int32) (pp : Int32) : Option (Int32) :=
  (f_X_zeros_L2 k pp n_t_limbs a_t_limbs k (0 : Int32)).bind fun x7 =>
  some x7
def f_X_shift_L3 (k : Nat) (v1 : Int32) (v2 : Int32) (v3 : Int32) (n_t_limbs : Nat) : Nat → Int32 → (Nat → Int32) → Option (Int32 × (Nat → Int32))
  | 0, _, _ => none
  | j + 1, v4, a_t_limbs =>
    if 40 ≤ v4 then
      some (v4, a_t_limbs)
    else
      if 40 ≤ v4 + (v2 / 31) then
        if 40 ≤ (v4 + (v2 / 31)) + 1 then
          cond (inb ((40 * v3) + v4) n_t_limbs) (
          f_X_shift_L3 k v1 v2 v3 n_t_limbs j (v4 + 1) (upd a_t_limbs ((40 * v3) + v4).toNatClampNeg ((((0 ||| ((0 : Int64) <<< ((31 : Int32).toInt64 &&& 63))) >>> ((v2 - v2 / 31 * 31).toInt64 &&& 63)) &&& 2147483647).toInt32))) none
        else
          cond (inb (((40 * v1) + (v4 + (v2 / 31))) + 1) n_t_limbs) (
          cond (inb ((40 * v3) + v4) n_t_limbs) (
          f_X_shift_L3 k v1 v2 v3 n_t_limbs j (v4 + 1) (upd a_t_limbs ((40 * v3) + v4).toNatClampNeg ((((0 ||| (((a_t_limbs (((40 * v1) + (v4 + (v2 / 31))) + 1).toNatClampNeg).toInt64) <<< ((31 : Int32).toInt64 &&& 63))) >>> ((v2 - v2 / 31 * 31).toInt64 &&& 63)) &&& 2147483647).toInt32))) none) none
      else
        cond (inb ((40 * v1) + (v4 + (v2 / 31))) n_t_limbs) (
        if 40 ≤ (v4 + (v2 / 31)) + 1 then
          cond (inb ((40 * v3) + v4) n_t_limbs) (
          f_X_shift_L3 k v1 v2 v3 n_t_limbs j (v4 + 1) (upd a_t_limbs ((40 * v3) + v4).toNatClampNeg ((((((a_t_limbs ((40 * v1) + (v4 + (v2 / 31))).toNatClampNeg).toInt64) ||| ((0 : Int64) <<< ((31 : Int32).toInt64 &&& 63))) >>> ((v2 - v2 / 31 * 31).toInt64 &&& 63)) &&& 2147483647).toInt32))) none
        else
          cond (inb (((40 * v1) + (v4 + (v2 / 31))) + 1) n_t_limbs) (
          cond (inb ((40 * v3) + v4) n_t_limbs) (
          f_X_shift_L3 k v1 v2 v3 n_t_limbs j (v4 + 1) (upd a_t_limbs ((40 * v3) + v4).toNatClampNeg ((((((a_t_limbs ((40 * v1) + (v4 + (v2 / 31))).toNatClampNeg).toInt64) ||| (((a_t_limbs (((40 * v1) + (v4 + (v2 / 31))) + 1).toNatClampNeg).toInt64) <<< ((31 : Int32).toInt64 &&& 63))) >>> ((v2 - v2 / 31 * 31).toInt64 &&& 63)) &&& 2147483647).toInt32))) none) none) none
def f_X_shift (k : Nat) (n_t_limbs : Nat) (a_t_limbs : Nat → Int32) (fro : Int32) (by_ : Int32) (tt : Int32) : Option ((Nat → Int32)) :=
  (f_X_shift_L3 k fro by_ tt n_t_limbs k (0 : Int32) a_t_limbs).bind fun x34 =>
  some x34.2
def f_X_divide_L56 (k : Nat) (v3 : Int64) : Nat → Int64 → Int32 → Option (Int64 × Int32)
  | 0, _, _ => none
  | j + 1, v5, v7 =>
    if 5 ≤ v7 then
      some (v5, v7)
    else
      f_X_divide_L56 k v3 j ((v5 * ((2 - (v3 * v5)) &&& 2147483647)) &&& 2147483647) (v7 + 1)
def f_X_divide_L140 (k : Nat) (v7 : Int32) (v8 : Int64) (n_t_limbs : Nat) : Nat → Int64 → Int32 → (Nat → Int32) → Option (Int64 × Int32 × (Nat → Int32))
  | 0, _, _, _ => none
  | j + 1, v10, v12, a_t_limbs =>
    if 40 ≤ v7 + v12 then
      some (v10, v12, a_t_limbs)
    else
      cond (inb (2040 + v12) n_t_limbs) (
      cond (inb ((2000 + v7) + v12) n_t_limbs) (
      cond (inb ((2000 + v7) + v12) n_t_limbs) (
      if 0 ≤ lg_cmp (((a_t_limbs ((2000 + v7) + v12).toNatClampNeg).toInt64) - (((v8 * ((a_t_limbs (2040 + v12).toNatClampNeg).toInt64)) + v10) &&& 2147483647)) (0 : Int64) then
        f_X_divide_L140 k v7 v8 n_t_limbs j ((((v8 * ((a_t_limbs (2040 + v12).toNatClampNeg).toInt64)) + v10) >>> ((31 : Int32).toInt64 &&& 63)) + 0) (v12 + 1) (upd a_t_limbs ((2000 + v7) + v12).toNatClampNeg (((((a_t_limbs ((2000 + v7) + v12).toNatClampNeg).toInt64) - (((v8 * ((a_t_limbs (2040 + v12).toNatClampNeg).toInt64)) + v10) &&& 2147483647)) &&& 2147483647).toInt32))
      else
        f_X_divide_L140 k v7 v8 n_t_limbs j ((((v8 * ((a_t_limbs (2040 + v12).toNatClampNeg).toInt64)) + v10) >>> ((31 : Int32).toInt64 &&& 63)) + 1) (v12 + 1) (upd a_t_limbs ((2000 + v7) + v12).toNatClampNeg (((((a_t_limbs ((2000 + v7) + v12).toNatClampNeg).toInt64) - (((v8 * ((a_t_limbs (2040 + v12).toNatClampNeg).toInt64)) + v10) &&& 2147483647)) &&& 2147483647).toInt32))) none) none) none
def f_X_divide_L92 (k : Nat) (v5 : Int64) (n_t_limbs : Nat) : Nat → Int32 → (Nat → Int32) → Option (Int32 × (Nat → Int32))
  | 0, _, _ => none
  | j + 1, v7, a_t_limbs =>
    if 40 ≤ v7 then
      some (v7, a_t_limbs)
    else
      cond (inb (2000 + v7) n_t_limbs) (
      cond (inb (2080 + v7) n_t_limbs) (
      (f_X_divide_L140 k v7 ((((a_t_limbs (2000 + v7).toNatClampNeg).toInt64) * v5) &&& 2147483647) n_t_limbs k (0 : Int64) (0 : Int32) (upd a_t_limbs (2080 + v7).toNatClampNeg (((((a_t_limbs (2000 + v7).toNatClampNeg).toInt64) * v5) &&& 2147483647).toInt32))).bind fun x60 =>
      f_X_divide_L92 k v5 n_t_limbs j (v7 + 1) x60.2.2) none) none
def f_X_divide (k : Nat) (n_t_limbs : Nat) (a_t_limbs : Nat → Int32) (n_t_signs : Nat) (a_t_signs : Nat → Int32) (by_ : Int32) : Option ((Nat → Int32) × (Nat → Int32)) :=
  (f_X_clear k n_t_limbs a_t_limbs n_t_signs a_t_signs (52 : Int32)).bind fun x1 =>
  cond (inb 49 n_t_signs) (
  if x1.2 (49 : Int32).toNatClampNeg = 0 then
    some (x1.1, x1.2)
  else
    (f_X_zeros k n_t_limbs x1.1 by_).bind fun x5 =>
    (f_X_shift k n_t_limbs x1.1 (49 : Int32) x5 (50 : Int32)).bind fun x7 =>
    (f_X_shift k n_t_limbs x7 by_ x5 (51 : Int32)).bind fun x9 =>
    cond (inb 2040 n_t_limbs) (
    (f_X_divide_L56 k ((x9 (2040 : Int32).toNatClampNeg).toInt64) k ((x9 (2040 : Int32).toNatClampNeg).toInt64) (0 : Int32)).bind fun x15 =>
    (f_X_divide_L92 k x15.1 n_t_limbs k (0 : Int32) x9).bind fun x62 =>
    cond (inb 49 n_t_signs) (
    cond (inb by_ n_t_signs) (
    cond (inb 52 n_t_signs) (
    some (x62.2, upd x1.2 (52 : Int32).toNatClampNeg ((x1.2 (49 : Int32).toNatClampNeg) * (x1.2 by_.toNatClampNeg)))) none) none) none) none) none
def f_X_swap_L2 (k : Nat) (v1 : Int32) (v2 : Int32) (n_t_limbs : Nat) (n_t_signs : Nat) : Nat → Int32 → (Nat → Int32) → (Nat → Int32) → Option (Int32 × (Nat → Int32) × (Nat → Int32))
  | 0, _, _, _ => none
  | j + 1, v3, a_t_limbs, a_t_signs =>
    if 7 ≤ v3 then
      some (v3, a_t_limbs, a_t_signs)
    else
      (f_X_copy k n_t_limbs a_t_limbs n_t_signs a_t_signs ((7 * v1) + v3) (50 : Int32)).bind fun x16 =>
      (f_X_copy k n_t_limbs x16.1 n_t_signs x16.2 ((7 * v2) + v3) ((7 * v1) + v3)).bind fun x18 =>
      (f_X_copy k n_t_limbs x18.1 n_t_signs x18.2 (50 : Int32) ((7 * v2) + v3)).bind fun x20 =>
      f_X_swap_L2 k v1 v2 n_t_limbs n_t_signs j (v3 + 1) x20.1 x20.2
def f_X_swap (k : Nat) (t_odd : Int32) (n_t_limbs : Nat) (a_t_limbs : Nat → Int32) (n_t_signs : Nat) (a_t_signs : Nat → Int32) (n_t_rows : Nat) (a_t_rows : Nat → Int32) (ii : Int32) (kk : Int32) : Option (Int32 × (Nat → Int32) × (Nat → Int32) × (Nat → Int32)) :=
  (f_X_swap_L2 k ii kk n_t_limbs n_t_signs k (0 : Int32) a_t_limbs a_t_signs).bind fun x22 =>
  cond (inb ii n_t_rows) (
  cond (inb kk n_t_rows) (
  cond (inb ii n_t_rows) (
  cond (inb kk n_t_rows) (
  if ii = kk then
    cond (isz t_odd) (
    some (t_odd, x22.2.1, x22.2.2, upd (upd a_t_rows ii.toNatClampNeg (a_t_rows kk.toNatClampNeg)) kk.toNatClampNeg (a_t_rows ii.toNatClampNeg))) none
  else
    if t_odd = 0 then
      some ((1 : Int32), x22.2.1, x22.2.2, upd (upd a_t_rows ii.toNatClampNeg (a_t_rows kk.toNatClampNeg)) kk.toNatClampNeg (a_t_rows ii.toNatClampNeg))
    else
      some ((0 : Int32), x22.2.1, x22.2.2, upd (upd a_t_rows ii.toNatClampNeg (a_t_rows kk.toNatClampNeg)) kk.toNatClampNeg (a_t_rows ii.toNatClampNeg))) none) none) none) none
def f_X_eliminate_L2 (k : Nat) (v1 : Int32) (i0_t : Int32) (n_t_signs : Nat) (a_t_signs : Nat → Int32) : Nat → Int32 → Option (Int32)
  | 0, _ => none
  | j + 1, v2 =>
    if i0_t ≤ v2 then
      some v2
    else
      (f_X_place i0_t v2 v1).bind fun x12 =>
      cond (inb x12 n_t_signs) (
      if a_t_signs x12.toNatClampNeg = 0 then
        f_X_eliminate_L2 k v1 i0_t n_t_signs a_t_signs j (v2 + 1)
      else
        some v2) none
def f_X_eliminate_L70 (k : Nat) (v1 : Int32) (v3 : Int32) (i0_t : Int32) (i1_t : Int32) (n_t_limbs : Nat) (n_t_signs : Nat) : Nat → Int32 → (Nat → Int32) → (Nat → Int32) → Option (Bool × Int32 × Int32 × (Nat → Int32) × (Nat → Int32))
  | 0, _, _, _ => none
  | j + 1, v4, a_t_limbs, a_t_signs =>
    if i0_t < v4 then
      some (false, 0, v4, a_t_limbs, a_t_signs)
    else
      (f_X_place i0_t v1 v1).bind fun x217 =>
      (f_X_place i0_t v3 v4).bind fun x219 =>
      (f_X_multiply k n_t_limbs a_t_limbs n_t_signs a_t_signs x217 x219).bind fun x221 =>
      (f_X_copy k n_t_limbs x221.1 n_t_signs x221.2 (48 : Int32) (49 : Int32)).bind fun x223 =>
      (f_X_place i0_t v3 v1).bind fun x225 =>
      (f_X_place i0_t v1 v4).bind fun x227 =>
      (f_X_multiply k n_t_limbs x223.1 n_t_signs x223.2 x225 x227).bind fun x229 =>
      (f_X_less k n_t_limbs x229.1 n_t_signs x229.2).bind fun x231 =>
      (f_X_copy k n_t_limbs x231.1 n_t_signs x231.2 (49 : Int32) (52 : Int32)).bind fun x233 =>
      if v1 ≤ 0 then
        (f_X_count k n_t_limbs x233.1 (52 : Int32)).bind fun x236 =>
        if x236 ≤ i1_t then
          (f_X_place i0_t v3 v4).bind fun x239 =>
          (f_X_copy k n_t_limbs x233.1 n_t_signs x233.2 (52 : Int32) x239).bind fun x241 =>
          f_X_eliminate_L70 k v1 v3 i0_t i1_t n_t_limbs n_t_signs j (v4 + 1) x241.1 x241.2
        else
          some (true, 3, v4, x233.1, x233.2)
      else
        (f_X_place i0_t (v1 - 1) (v1 - 1)).bind fun x243 =>
        (f_X_divide k n_t_limbs x233.1 n_t_signs x233.2 x243).bind fun x245 =>
        (f_X_count k n_t_limbs x245.1 (52 : Int32)).bind fun x247 =>
        if x247 ≤ i1_t then
          (f_X_place i0_t v3 v4).bind fun x250 =>
          (f_X_copy k n_t_limbs x245.1 n_t_signs x245.2 (52 : Int32) x250).bind fun x252 =>
          f_X_eliminate_L70 k v1 v3 i0_t i1_t n_t_limbs n_t_signs j (v4 + 1) x252.1 x252.2
        else
          some (true, 3, v4, x245.1, x245.2)
def f_X_eliminate_L57 (k : Nat) (v1 : Int32) (i0_t : Int32) (i1_t : Int32) (n_t_limbs : Nat) (n_t_signs : Nat) : Nat → Int32 → (Nat → Int32) → (Nat → Int32) → Option (Bool × Int32 × Int32 × (Nat → Int32) × (Nat → Int32))
  | 0, _, _, _ => none
  | j + 1, v3, a_t_limbs, a_t_signs =>
    if i0_t ≤ v3 then
      some (false, 0, v3, a_t_limbs, a_t_signs)
    else
      (f_X_eliminate_L70 k v1 v3 i0_t i1_t n_t_limbs n_t_signs k (v1 + 1) a_t_limbs a_t_signs).bind fun x258 =>
      if x258.1 = true then
        some (true, x258.2.1, (0 : Int32), x258.2.2.2.1, x258.2.2.2.2)
      else
        f_X_eliminate_L57 k v1 i0_t i1_t n_t_limbs n_t_signs j (v3 + 1) x258.2.2.2.1 x258.2.2.2.2
def f_X_eliminate (k : Nat) (t_n : Int32) (t_room : Int32) (t_pivots : Int32) (t_odd : Int32) (n_t_limbs : Nat) (a_t_limbs : Nat → Int32) (n_t_signs : Nat) (a_t_signs : Nat → Int32) (n_t_rows : Nat) (a_t_rows : Nat → Int32) (kk : Int32) : Option (Int32 × Int32 × Int32 × (Nat → Int32) × (Nat → Int32) × (Nat → Int32)) :=
  (f_X_eliminate_L2 k kk t_n n_t_signs a_t_signs k kk).bind fun x16 =>
  if x16 = t_n then
    some ((2 : Int32), t_pivots, t_odd, a_t_limbs, a_t_signs, a_t_rows)
  else
    (f_X_swap k t_odd n_t_limbs a_t_limbs n_t_signs a_t_signs n_t_rows a_t_rows x16 kk).bind fun x19 =>
    (f_X_eliminate_L57 k kk t_n t_room n_t_limbs n_t_signs k (kk + 1) x19.2.1 x19.2.2.1).bind fun x261 =>
    if x261.1 = true then
      some (x261.2.1, kk + 1, x19.1, x261.2.2.2.1, x261.2.2.2.2, x19.2.2.2)
    else
      some ((0 : Int32), kk + 1, x19.1, x261.2.2.2.1, x261.2.2.2.2, x19.2.2.2)
def f_X_insert_L41 (k : Nat) (v1 : Int32) (i0_t : Int32) (n_t_limbs : Nat) (n_t_signs : Nat) : Nat → Int32 → (Nat → Int32) → (Nat → Int32) → Option (Int32 × (Nat → Int32) × (Nat → Int32))
  | 0, _, _, _ => none
  | j + 1, v2, a_t_limbs, a_t_signs =>
    if i0_t ≤ v2 then
      some (v2, a_t_limbs, a_t_signs)
    else
      (f_X_place i0_t v1 v2).bind fun x24 =>
      (f_X_multiply k n_t_limbs a_t_limbs n_t_signs a_t_signs x24 (42 + v2)).bind fun x26 =>
      (f_X_less k n_t_limbs x26.1 n_t_signs x26.2).bind fun x28 =>
      f_X_insert_L41 k v1 i0_t n_t_limbs n_t_signs j (v2 + 1) x28.1 x28.2
def f_X_insert (k : Nat) (t_n : Int32) (t_room : Int32) (n_t_limbs : Nat) (a_t_limbs : Nat → Int32) (n_t_signs : Nat) (a_t_signs : Nat → Int32) (ii : Int32) : Option (Int32 × (Nat → Int32) × (Nat → Int32)) :=
  (f_X_place t_n (t_n - 1) (t_n - 1)).bind fun x1 =>
  (f_X_place t_n ii t_n).bind fun x3 =>
  (f_X_multiply k n_t_limbs a_t_limbs n_t_signs a_t_signs x1 x3).bind fun x5 =>
  (f_X_copy k n_t_limbs x5.1 n_t_signs x5.2 (48 : Int32) (49 : Int32)).bind fun x7 =>
  (f_X_insert_L41 k ii t_n n_t_limbs n_t_signs k (ii + 1) x7.1 x7.2).bind fun x30 =>
  (f_X_place t_n ii ii).bind fun x32 =>
  (f_X_divide k n_t_limbs x30.2.1 n_t_signs x30.2.2 x32).bind fun x34 =>
  (f_X_count k n_t_limbs x34.1 (52 : Int32)).bind fun x36 =>
  if x36 ≤ t_room then
    (f_X_copy k n_t_limbs x34.1 n_t_signs x34.2 (52 : Int32) (42 + ii)).bind fun x39 =>
    if ii ≤ 0 then
      some ((1 : Int32), x39.1, x39.2)
    else
      some ((0 : Int32), x39.1, x39.2)
  else
    some ((3 : Int32), x34.1, x34.2)
def f_X_step (k : Nat) (t_n : Int32) (t_room : Int32) (t_state : Int32) (t_done : Int32) (t_pivots : Int32) (t_odd : Int32) (n_t_limbs : Nat) (a_t_limbs : Nat → Int32) (n_t_signs : Nat) (a_t_signs : Nat → Int32) (n_t_rows : Nat) (a_t_rows : Nat → Int32) : Option (Int32 × Int32 × Int32 × Int32 × Int32 × (Nat → Int32) × (Nat → Int32) × (Nat → Int32)) :=
  if t_state = 4 then
    if t_n ≤ t_done then
      (f_X_insert k t_n t_room n_t_limbs a_t_limbs n_t_signs a_t_signs (((2 * t_n) - 1) - t_done)).bind fun x3 =>
      some (x3.1, x3.1, t_done + 1, t_pivots, t_odd, x3.2.1, x3.2.2, a_t_rows)
    else
      (f_X_eliminate k t_n t_room t_pivots t_odd n_t_limbs a_t_limbs n_t_signs a_t_signs n_t_rows a_t_rows t_done).bind fun x5 =>
      some (x5.1, x5.1, t_done + 1, x5.2.1, x5.2.2.1, x5.2.2.2.1, x5.2.2.2.2.1, x5.2.2.2.2.2)
  else
    if t_state = 0 then
      if t_n ≤ t_done then
        (f_X_insert k t_n t_room n_t_limbs a_t_limbs n_t_signs a_t_signs (((2 * t_n) - 1) - t_done)).bind fun x9 =>
        some (x9.1, x9.1, t_done + 1, t_pivots, t_odd, x9.2.1, x9.2.2, a_t_rows)
      else
        (f_X_eliminate k t_n t_room t_pivots t_odd n_t_limbs a_t_limbs n_t_signs a_t_signs n_t_rows a_t_rows t_done).bind fun x11 =>
        some (x11.1, x11.1, t_done + 1, x11.2.1, x11.2.2.1, x11.2.2.2.1, x11.2.2.2.2.1, x11.2.2.2.2.2)
    else
      some (t_state, t_state, t_done, t_pivots, t_odd, a_t_limbs, a_t_signs, a_t_rows)
def f_X_status (t_state : Int32) : Option (Int32) :=
  some t_state
def f_X_steps (t_done : Int32) : Option (Int32) :=
  some t_done
def f_X_told (k : Nat) (n_t_limbs : Nat) (a_t_limbs : Nat → Int32) (n_t_signs : Nat) (a_t_signs : Nat → Int32) (pp : Int32) (what : Int32) (turn : Int32) : Option (Int32) :=
  (f_X_count k n_t_limbs a_t_limbs pp).bind fun x1 =>
  if what = (-2) then
    cond (inb pp n_t_signs) (
    some (turn * (a_t_signs pp.toNatClampNeg))) none
  else
    if what = (-1) then
      some x1
    else
      if what < 0 then
        some (-1 : Int32)
      else
        if x1 ≤ what then
          some (-1 : Int32)
        else
          cond (inb ((40 * pp) + what) n_t_limbs) (
          some (a_t_limbs ((40 * pp) + what).toNatClampNeg)) none
def f_X_determinant (k : Nat) (t_n : Int32) (t_state : Int32) (t_odd : Int32) (n_t_limbs : Nat) (a_t_limbs : Nat → Int32) (n_t_signs : Nat) (a_t_signs : Nat → Int32) (what : Int32) : Option (Int32) :=
  if t_state = 2 then
    if what = (-2) then
      some (0 : Int32)
    else
      if what = (-1) then
        some (0 : Int32)
      else
        some (-1 : Int32)
  else
    if t_state = 1 then
      (f_X_place t_n (t_n - 1) (t_n - 1)).bind fun x3 =>
      if t_odd = 0 then
        (f_X_told k n_t_limbs a_t_limbs n_t_signs a_t_signs x3 what (1 : Int32)).bind fun x6 =>
        some x6
      else
        (f_X_told k n_t_limbs a_t_limbs n_t_signs a_t_signs x3 what (-1 : Int32)).bind fun x8 =>
        some x8
    else
      some (-1 : Int32)
def f_X_numerator (k : Nat) (t_n : Int32) (t_state : Int32) (t_odd : Int32) (n_t_limbs : Nat) (a_t_limbs : Nat → Int32) (n_t_signs : Nat) (a_t_signs : Nat → Int32) (jj : Int32) (what : Int32) : Option (Int32) :=
  if t_state = 1 then
    if jj < 0 then
      some (-1 : Int32)
    else
      if t_n ≤ jj then
        some (-1 : Int32)
      else
        if t_odd = 0 then
          (f_X_told k n_t_limbs a_t_limbs n_t_signs a_t_signs (42 + jj) what (1 : Int32)).bind fun x5 =>
          some x5
        else
          (f_X_told k n_t_limbs a_t_limbs n_t_signs a_t_signs (42 + jj) what (-1 : Int32)).bind fun x7 =>
          some x7
  else
    some (-1 : Int32)
def f_X_pivot (k : Nat) (t_n : Int32) (t_pivots : Int32) (n_t_limbs : Nat) (a_t_limbs : Nat → Int32) (n_t_signs : Nat) (a_t_signs : Nat → Int32) (kk : Int32) (what : Int32) : Option (Int32) :=
  if kk < 0 then
    some (-1 : Int32)
  else
    if t_pivots ≤ kk then
      some (-1 : Int32)
    else
      (f_X_place t_n kk kk).bind fun x3 =>
      (f_X_told k n_t_limbs a_t_limbs n_t_signs a_t_signs x3 what (1 : Int32)).bind fun x5 =>
      some x5
def f_X_number (k : Nat) (t_n : Int32) (n_t_limbs : Nat) (a_t_limbs : Nat → Int32) (n_t_signs : Nat) (a_t_signs : Nat → Int32) (row : Int32) (column : Int32) (what : Int32) : Option (Int32) :=
  (f_X_isPlace t_n row column).bind fun x1 =>
  if x1 = 0 then
    some (-1 : Int32)
  else
    (f_X_place t_n row column).bind fun x4 =>
    (f_X_told k n_t_limbs a_t_limbs n_t_signs a_t_signs x4 what (1 : Int32)).bind fun x6 =>
    some x6
def f_X_row (t_n : Int32) (n_t_rows : Nat) (a_t_rows : Nat → Int32) (ii : Int32) : Option (Int32) :=
  if ii < 0 then
    some (-1 : Int32)
  else
    if t_n ≤ ii then
      some (-1 : Int32)
    else
      cond (inb ii n_t_rows) (
      some (a_t_rows ii.toNatClampNeg)) none
def f_X_holds (t_state : Int32) : Option (Int32) :=
  if t_state = 1 then
    some (1 : Int32)
  else
    some (0 : Int32)
def f_N_init (slots : Int32) (room : Int32) : Option (Int32 × Nat × (Nat → Int32) × Nat × (Nat → Int32) × Nat × (Nat → Int32)) :=
  cond (nab slots 42) (
  cond (nab slots 42) (
  cond (nab (slots * room) 672) (
  some (room, slots.toNatClampNeg, (fun _ => 0), slots.toNatClampNeg, (fun _ => 0), (slots * room).toNatClampNeg, (fun _ => 0))) none) none) none
def f_S_init (room : Int32) : Option (Int32 × Int32 × Int32 × Nat × (Nat → Int32) × Nat × (Nat → Int32) × Nat × (Nat → Int32)) :=
  cond (nab ((2 * room) + 1) 33) (
  cond (nab ((2 * room) + 1) 33) (
  cond (nab room 16) (
  some (room, (0 : Int32), (0 : Int32), ((2 * room) + 1).toNatClampNeg, (fun _ => 0), ((2 * room) + 1).toNatClampNeg, (fun _ => 0), room.toNatClampNeg, (fun _ => 0))) none) none) none
def f_M_init (k : Nat) (rows : Int32) (limbs : Int32) : Option (Int32 × Int32 × Int32 × Int32 × Int32 × Int32 × Int32 × Int32 × Int32 × Int32 × Nat × (Nat → Int32) × Nat × (Nat → Int32) × Nat × (Nat → Int32) × Int32 × Nat × (Nat → Int32) × Nat × (Nat → Int32) × Nat × (Nat → Int32) × Int32 × Nat × (Nat → Int32) × Nat × (Nat → Int32) × Nat × (Nat → Int32) × Int32 × Int32 × Int32 × Nat × (Nat → Int32) × Nat × (Nat → Int32) × Nat × (Nat → Int32) × Nat × (Nat → Int32)) :=
  (f_M_within rows (6 : Int32)).bind fun x1 =>
  (f_M_within limbs (16 : Int32)).bind fun x3 =>
  (f_N_init (x1 * (x1 + 1)) x3).bind fun x6 =>
  (f_N_init (x1 * (x1 + 1)) x3).bind fun x13 =>
  (f_N_init (x1 + 1) x3).bind fun x20 =>
  (f_S_init x3).bind fun x27 =>
  cond (nab x1 6) (
  (f_M_startLoading k x1 x6.2.1 x6.2.2.1 x6.2.2.2.1 x6.2.2.2.2.1 x1.toNatClampNeg (fun _ => 0)).bind fun x35 =>
  some (x1, x3, x35.1, x35.2.1, x35.2.2.1, x35.2.2.2.1, x35.2.2.2.2.1, x35.2.2.2.2.2.1, x35.2.2.2.2.2.2.1, x6.1, x6.2.1, x35.2.2.2.2.2.2.2.1, x6.2.2.2.1, x35.2.2.2.2.2.2.2.2.1, x6.2.2.2.2.2.1, x6.2.2.2.2.2.2, x13.1, x13.2.1, x13.2.2.1, x13.2.2.2.1, x13.2.2.2.2.1, x13.2.2.2.2.2.1, x13.2.2.2.2.2.2, x20.1, x20.2.1, x20.2.2.1, x20.2.2.2.1, x20.2.2.2.2.1, x20.2.2.2.2.2.1, x20.2.2.2.2.2.2, x27.1, x27.2.1, x27.2.2.1, x27.2.2.2.1, x27.2.2.2.2.1, x27.2.2.2.2.2.1, x27.2.2.2.2.2.2.1, x27.2.2.2.2.2.2.2.1, x27.2.2.2.2.2.2.2.2, x1.toNatClampNeg, x35.2.2.2.2.2.2.2.2.2)) none
def f_X_init (k : Nat) (rows : Int32) (limbs : Int32) : Option (Int32 × Int32 × Int32 × Int32 × Int32 × Int32 × Int32 × Int32 × Int32 × Nat × (Nat → Int32) × Nat × (Nat → Int32) × Nat × (Nat → Int32)) :=
  cond (nab (2160 : Int32) 2160) (
  cond (nab (54 : Int32) 54) (
  cond (nab (6 : Int32) 6) (
  if 1 ≤ rows then
    if rows ≤ 6 then
      if 1 ≤ limbs then
        if limbs ≤ 16 then
          (f_X_reset k ((2160 : Int32).toNatClampNeg) (fun _ => 0) ((54 : Int32).toNatClampNeg) (fun _ => 0) ((6 : Int32).toNatClampNeg) (fun _ => 0)).bind fun x11 =>
          some (rows, limbs, x11.1, (0 : Int32), (0 : Int32), x11.2.1, x11.2.2.1, x11.2.2.2.1, x11.2.2.2.2.1, (2160 : Int32).toNatClampNeg, x11.2.2.2.2.2.1, (54 : Int32).toNatClampNeg, x11.2.2.2.2.2.2.1, (6 : Int32).toNatClampNeg, x11.2.2.2.2.2.2.2)
        else
          (f_X_reset k ((2160 : Int32).toNatClampNeg) (fun _ => 0) ((54 : Int32).toNatClampNeg) (fun _ => 0) ((6 : Int32).toNatClampNeg) (fun _ => 0)).bind fun x13 =>
          some (rows, (16 : Int32), x13.1, (0 : Int32), (0 : Int32), x13.2.1, x13.2.2.1, x13.2.2.2.1, x13.2.2.2.2.1, (2160 : Int32).toNatClampNeg, x13.2.2.2.2.2.1, (54 : Int32).toNatClampNeg, x13.2.2.2.2.2.2.1, (6 : Int32).toNatClampNeg, x13.2.2.2.2.2.2.2)
      else
        (f_X_reset k ((2160 : Int32).toNatClampNeg) (fun _ => 0) ((54 : Int32).toNatClampNeg) (fun _ => 0) ((6 : Int32).toNatClampNeg) (fun _ => 0)).bind fun x15 =>
        some (rows, (1 : Int32), x15.1, (0 : Int32), (0 : Int32), x15.2.1, x15.2.2.1, x15.2.2.2.1, x15.2.2.2.2.1, (2160 : Int32).toNatClampNeg, x15.2.2.2.2.2.1, (54 : Int32).toNatClampNeg, x15.2.2.2.2.2.2.1, (6 : Int32).toNatClampNeg, x15.2.2.2.2.2.2.2)
    else
      if 1 ≤ limbs then
        if limbs ≤ 16 then
          (f_X_reset k ((2160 : Int32).toNatClampNeg) (fun _ => 0) ((54 : Int32).toNatClampNeg) (fun _ => 0) ((6 : Int32).toNatClampNeg) (fun _ => 0)).bind fun x19 =>
          some ((6 : Int32), limbs, x19.1, (0 : Int32), (0 : Int32), x19.2.1, x19.2.2.1, x19.2.2.2.1, x19.2.2.2.2.1, (2160 : Int32).toNatClampNeg, x19.2.2.2.2.2.1, (54 : Int32).toNatClampNeg, x19.2.2.2.2.2.2.1, (6 : Int32).toNatClampNeg, x19.2.2.2.2.2.2.2)
        else
          (f_X_reset k ((2160 : Int32).toNatClampNeg) (fun _ => 0) ((54 : Int32).toNatClampNeg) (fun _ => 0) ((6 : Int32).toNatClampNeg) (fun _ => 0)).bind fun x21 =>
          some ((6 : Int32), (16 : Int32), x21.1, (0 : Int32), (0 : Int32), x21.2.1, x21.2.2.1, x21.2.2.2.1, x21.2.2.2.2.1, (2160 : Int32).toNatClampNeg, x21.2.2.2.2.2.1, (54 : Int32).toNatClampNeg, x21.2.2.2.2.2.2.1, (6 : Int32).toNatClampNeg, x21.2.2.2.2.2.2.2)
      else
        (f_X_reset k ((2160 : Int32).toNatClampNeg) (fun _ => 0) ((54 : Int32).toNatClampNeg) (fun _ => 0) ((6 : Int32).toNatClampNeg) (fun _ => 0)).bind fun x23 =>
        some ((6 : Int32), (1 : Int32), x23.1, (0 : Int32), (0 : Int32), x23.2.1, x23.2.2.1, x23.2.2.2.1, x23.2.2.2.2.1, (2160 : Int32).toNatClampNeg, x23.2.2.2.2.2.1, (54 : Int32).toNatClampNeg, x23.2.2.2.2.2.2.1, (6 : Int32).toNatClampNeg, x23.2.2.2.2.2.2.2)
  else
    if 1 ≤ limbs then
      if limbs ≤ 16 then
        (f_X_reset k ((2160 : Int32).toNatClampNeg) (fun _ => 0) ((54 : Int32).toNatClampNeg) (fun _ => 0) ((6 : Int32).toNatClampNeg) (fun _ => 0)).bind fun x27 =>
        some ((1 : Int32), limbs, x27.1, (0 : Int32), (0 : Int32), x27.2.1, x27.2.2.1, x27.2.2.2.1, x27.2.2.2.2.1, (2160 : Int32).toNatClampNeg, x27.2.2.2.2.2.1, (54 : Int32).toNatClampNeg, x27.2.2.2.2.2.2.1, (6 : Int32).toNatClampNeg, x27.2.2.2.2.2.2.2)
      else
        (f_X_reset k ((2160 : Int32).toNatClampNeg) (fun _ => 0) ((54 : Int32).toNatClampNeg) (fun _ => 0) ((6 : Int32).toNatClampNeg) (fun _ => 0)).bind fun x29 =>
        some ((1 : Int32), (16 : Int32), x29.1, (0 : Int32), (0 : Int32), x29.2.1, x29.2.2.1, x29.2.2.2.1, x29.2.2.2.2.1, (2160 : Int32).toNatClampNeg, x29.2.2.2.2.2.1, (54 : Int32).toNatClampNeg, x29.2.2.2.2.2.2.1, (6 : Int32).toNatClampNeg, x29.2.2.2.2.2.2.2)
    else
      (f_X_reset k ((2160 : Int32).toNatClampNeg) (fun _ => 0) ((54 : Int32).toNatClampNeg) (fun _ => 0) ((6 : Int32).toNatClampNeg) (fun _ => 0)).bind fun x31 =>
      some ((1 : Int32), (1 : Int32), x31.1, (0 : Int32), (0 : Int32), x31.2.1, x31.2.2.1, x31.2.2.2.1, x31.2.2.2.2.1, (2160 : Int32).toNatClampNeg, x31.2.2.2.2.2.1, (54 : Int32).toNatClampNeg, x31.2.2.2.2.2.2.1, (6 : Int32).toNatClampNeg, x31.2.2.2.2.2.2.2)) none) none) none
