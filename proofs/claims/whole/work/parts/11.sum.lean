def rm_S_clear : Room := { frames := 1, cells := 0, slots := 0, locals := 23 }
theorem kw_S_clear_0 : (.fieldLink RX1 15 "MinorSteps$Sum" "plus" "[I" : Cond) ∈ wsX1_clear := by decide +kernel
theorem kw_S_clear_1 : (.fieldLink RX1 19 "MinorSteps$Sum" "minus" "[I" : Cond) ∈ wsX1_clear := by decide +kernel
theorem kw_S_clear_2 : (.fieldLink RX1 31 "MinorSteps$Sum" "sign" "I" : Cond) ∈ wsX1_clear := by decide +kernel
theorem kw_S_clear_3 : (.fieldLink RX1 34 "MinorSteps$Sum" "length" "I" : Cond) ∈ wsX1_clear := by decide +kernel
theorem ki_S_clear_X1 : ∀ w ∈ u_ws RX1 TX1 6, w ∈ wsX1_clear := by decide +kernel
set_option maxHeartbeats 4000000 in
set_option maxRecDepth 100000 in
theorem c_S_clear (l : Launch) (dC : Nat → ClassId) (dI : Nat → Nat → Nat) (cA : ClassId) (sz : Nat) (q_t : Nat) (q_t_plus : Nat) (q_t_minus : Nat) (q_t_divisor : Nat) (k : Nat) (t_room : Int32) (t_sign : Int32) (t_length : Int32) (n_t_plus : Nat) (a_t_plus : Nat → Int32) (n_t_minus : Nat) (a_t_minus : Nat → Int32) (n_t_divisor : Nat) (a_t_divisor : Nat → Int32) (o : Int32 × Int32 × (Nat → Int32) × (Nat → Int32)) (hf : f_S_clear k n_t_plus a_t_plus n_t_minus a_t_minus = some o) : Met l yX1_clear wsX1_clear rm_S_clear (c_Pre (dC, dI) vwCl [(cA, .int)] [(q_t, .inr (1, [.int t_room, .ref q_t_plus, .ref q_t_minus, .ref q_t_divisor, .int t_sign, .int t_length])), (q_t_plus, .inl (cA, n_t_plus, .inl a_t_plus)), (q_t_minus, .inl (cA, n_t_minus, .inl a_t_minus)), (q_t_divisor, .inl (cA, n_t_divisor, .inl a_t_divisor))] sz [.ref q_t]) (c_Qv (dC, dI) vwCl [(cA, .int)] [(q_t, .inr (1, [.int t_room, .ref q_t_plus, .ref q_t_minus, .ref q_t_divisor, .int o.1, .int o.2.1])), (q_t_plus, .inl (cA, n_t_plus, .inl o.2.2.1)), (q_t_minus, .inl (cA, n_t_minus, .inl o.2.2.2)), (q_t_divisor, .inl (cA, n_t_divisor, .inl a_t_divisor))] (va_A [(q_t, .inr (1, [.int t_room, .ref q_t_plus, .ref q_t_minus, .ref q_t_divisor, .int t_sign, .int t_length])), (q_t_plus, .inl (cA, n_t_plus, .inl a_t_plus)), (q_t_minus, .inl (cA, n_t_minus, .inl a_t_minus)), (q_t_divisor, .inl (cA, n_t_divisor, .inl a_t_divisor))] sz)) 0 0 (va_A [(q_t, .inr (1, [.int t_room, .ref q_t_plus, .ref q_t_minus, .ref q_t_divisor, .int t_sign, .int t_length])), (q_t_plus, .inl (cA, n_t_plus, .inl a_t_plus)), (q_t_minus, .inl (cA, n_t_minus, .inl a_t_minus)), (q_t_divisor, .inl (cA, n_t_divisor, .inl a_t_divisor))] sz) := by
  unfold f_S_clear at hf
  refine k_ent (Qc := fun A => c_Qv (dC, dI) vwCl [(cA, .int)] [(q_t, .inr (1, [.int t_room, .ref q_t_plus, .ref q_t_minus, .ref q_t_divisor, .int o.1, .int o.2.1])), (q_t_plus, .inl (cA, n_t_plus, .inl o.2.2.1)), (q_t_minus, .inl (cA, n_t_minus, .inl o.2.2.2)), (q_t_divisor, .inl (cA, n_t_divisor, .inl a_t_divisor))] A) (by decide) rfl (Nat.le_of_ble_eq_true rfl) ?_
  intro p e s m below meth c A hx hb hr hown hts hml hlocks hin hsz hA hK H locs hP hD hS ls hl
  have hown : s.vm.findClass RX1 = some m.cls := hown
  have hl : lv_has ls 1 [(0, .ref q_t)] := hl
  refine lv_aload_n hx hb dX1_clear_0 rfl (lv_at hl 0 rfl) ?_
  refine va_get (D := (dC, dI)) (ci := 1) (v := .ref q_t_plus) (C := RX1) (T := TX1) (N := 6) hx hb hts ki_S_clear_X1 hown hK hP 0 rfl rfl 1 (by decide) (hts (.fieldLink RX1 15 "MinorSteps$Sum" "plus" "[I") kw_S_clear_0) (fun _ h9 => h9) rfl dX1_clear_1 ?_
  refine lv_iconst (v := 0) hx hb dX1_clear_4 (by decide) ?_
  obtain ⟨x1, g2, hf⟩ := og_b hf
  refine kc_v (wr := [(q_t, .inr (1, [.int t_room, .ref q_t_plus, .ref q_t_minus, .ref q_t_divisor, .int t_sign, .int t_length])), (q_t_minus, .inl (cA, n_t_minus, .inl a_t_minus)), (q_t_divisor, .inl (cA, n_t_divisor, .inl a_t_divisor))]) (w1 := [(q_t_plus, .inl (cA, n_t_plus, .inl x1))]) [1] [0, 2, 3] (va_runS (As := [.ref q_t_plus, .int 0]) (rest := []) ⟨hx, hb, hml, hown, hts⟩ (c_fill l dC dI cA H.size q_t_plus k n_t_plus a_t_plus (0 : Int32) x1 g2) (va_cwS 2 hts gX1_clear_J7_fill_53178 rfl rfl rfl (by decide +kernel) ⟨Nat.le_of_ble_eq_true rfl, Nat.le_of_ble_eq_true rfl⟩) (kc_preS hP hD hK [1] rfl rfl (by decide)) rfl rfl hl.1 rfl (lv_room (Nat.le_of_ble_eq_true rfl)) dX1_clear_5 ⟨Nat.le_of_ble_eq_true rfl, Nat.le_of_ble_eq_true rfl⟩) hP hD hS hA rfl rfl (by decide) (by decide) (fun H locs hP hD hS => ?_)
  have hP : va_P (dC, dI) vwCl [(q_t, .inr (1, [.int t_room, .ref q_t_plus, .ref q_t_minus, .ref q_t_divisor, .int t_sign, .int t_length])), (q_t_minus, .inl (cA, n_t_minus, .inl a_t_minus)), (q_t_divisor, .inl (cA, n_t_divisor, .inl a_t_divisor)), (q_t_plus, .inl (cA, n_t_plus, .inl x1))] H := hP
  have hD : va_D A [(q_t, .inr (1, [.int t_room, .ref q_t_plus, .ref q_t_minus, .ref q_t_divisor, .int t_sign, .int t_length])), (q_t_minus, .inl (cA, n_t_minus, .inl a_t_minus)), (q_t_divisor, .inl (cA, n_t_divisor, .inl a_t_divisor)), (q_t_plus, .inl (cA, n_t_plus, .inl x1))] := hD
  refine lv_aload_n hx hb dX1_clear_8 rfl (lv_at hl 0 rfl) ?_
  refine va_get (D := (dC, dI)) (ci := 1) (v := .ref q_t_minus) (C := RX1) (T := TX1) (N := 6) hx hb hts ki_S_clear_X1 hown hK hP 0 rfl rfl 2 (by decide) (hts (.fieldLink RX1 19 "MinorSteps$Sum" "minus" "[I") kw_S_clear_1) (fun _ h9 => h9) rfl dX1_clear_9 ?_
  refine lv_iconst (v := 0) hx hb dX1_clear_12 (by decide) ?_
  obtain ⟨x3, g4, hf⟩ := og_b hf
  refine kc_v (wr := [(q_t, .inr (1, [.int t_room, .ref q_t_plus, .ref q_t_minus, .ref q_t_divisor, .int t_sign, .int t_length])), (q_t_divisor, .inl (cA, n_t_divisor, .inl a_t_divisor)), (q_t_plus, .inl (cA, n_t_plus, .inl x1))]) (w1 := [(q_t_minus, .inl (cA, n_t_minus, .inl x3))]) [1] [0, 2, 3] (va_runS (As := [.ref q_t_minus, .int 0]) (rest := []) ⟨hx, hb, hml, hown, hts⟩ (c_fill l dC dI cA H.size q_t_minus k n_t_minus a_t_minus (0 : Int32) x3 g4) (va_cwS 2 hts gX1_clear_J7_fill_53178 rfl rfl rfl (by decide +kernel) ⟨Nat.le_of_ble_eq_true rfl, Nat.le_of_ble_eq_true rfl⟩) (kc_preS hP hD hK [1] rfl rfl (by decide)) rfl rfl hl.1 rfl (lv_room (Nat.le_of_ble_eq_true rfl)) dX1_clear_13 ⟨Nat.le_of_ble_eq_true rfl, Nat.le_of_ble_eq_true rfl⟩) hP hD hS hA rfl rfl (by decide) (by decide) (fun H locs hP hD hS => ?_)
  have hP : va_P (dC, dI) vwCl [(q_t, .inr (1, [.int t_room, .ref q_t_plus, .ref q_t_minus, .ref q_t_divisor, .int t_sign, .int t_length])), (q_t_divisor, .inl (cA, n_t_divisor, .inl a_t_divisor)), (q_t_plus, .inl (cA, n_t_plus, .inl x1)), (q_t_minus, .inl (cA, n_t_minus, .inl x3))] H := hP
  have hD : va_D A [(q_t, .inr (1, [.int t_room, .ref q_t_plus, .ref q_t_minus, .ref q_t_divisor, .int t_sign, .int t_length])), (q_t_divisor, .inl (cA, n_t_divisor, .inl a_t_divisor)), (q_t_plus, .inl (cA, n_t_plus, .inl x1)), (q_t_minus, .inl (cA, n_t_minus, .inl x3))] := hD
  refine lv_aload_n hx hb dX1_clear_16 rfl (lv_at hl 0 rfl) ?_
  refine lv_iconst (v := 0) hx hb dX1_clear_17 (by decide) ?_
  refine va_put (D := (dC, dI)) (ci := 1) (v := .int 0) (ty := .int) (C := RX1) (T := TX1) (N := 6) hx hb hts ki_S_clear_X1 tyX1 tyX1_ok nmX1 hown hK hP hD hS 0 rfl rfl 4 (by decide) (hts (.fieldLink RX1 31 "MinorSteps$Sum" "sign" "I") kw_S_clear_2) (fun _ h9 => h9) rfl (by decide +kernel) rfl rfl (Nat.le_of_ble_eq_true rfl) dX1_clear_18 (fun H locs hP hD hS => ?_)
  have hP : va_P (dC, dI) vwCl [(q_t, .inr (1, [.int t_room, .ref q_t_plus, .ref q_t_minus, .ref q_t_divisor, .int 0, .int t_length])), (q_t_divisor, .inl (cA, n_t_divisor, .inl a_t_divisor)), (q_t_plus, .inl (cA, n_t_plus, .inl x1)), (q_t_minus, .inl (cA, n_t_minus, .inl x3))] H := hP
  have hD : va_D A [(q_t, .inr (1, [.int t_room, .ref q_t_plus, .ref q_t_minus, .ref q_t_divisor, .int 0, .int t_length])), (q_t_divisor, .inl (cA, n_t_divisor, .inl a_t_divisor)), (q_t_plus, .inl (cA, n_t_plus, .inl x1)), (q_t_minus, .inl (cA, n_t_minus, .inl x3))] := hD
  refine lv_aload_n hx hb dX1_clear_21 rfl (lv_at hl 0 rfl) ?_
  refine lv_iconst (v := 0) hx hb dX1_clear_22 (by decide) ?_
  refine va_put (D := (dC, dI)) (ci := 1) (v := .int 0) (ty := .int) (C := RX1) (T := TX1) (N := 6) hx hb hts ki_S_clear_X1 tyX1 tyX1_ok nmX1 hown hK hP hD hS 0 rfl rfl 5 (by decide) (hts (.fieldLink RX1 34 "MinorSteps$Sum" "length" "I") kw_S_clear_3) (fun _ h9 => h9) rfl (by decide +kernel) rfl rfl (Nat.le_of_ble_eq_true rfl) dX1_clear_23 (fun H locs hP hD hS => ?_)
  have hP : va_P (dC, dI) vwCl [(q_t, .inr (1, [.int t_room, .ref q_t_plus, .ref q_t_minus, .ref q_t_divisor, .int 0, .int 0])), (q_t_divisor, .inl (cA, n_t_divisor, .inl a_t_divisor)), (q_t_plus, .inl (cA, n_t_plus, .inl x1)), (q_t_minus, .inl (cA, n_t_minus, .inl x3))] H := hP
  have hD : va_D A [(q_t, .inr (1, [.int t_room, .ref q_t_plus, .ref q_t_minus, .ref q_t_divisor, .int 0, .int 0])), (q_t_divisor, .inl (cA, n_t_divisor, .inl a_t_divisor)), (q_t_plus, .inl (cA, n_t_plus, .inl x1)), (q_t_minus, .inl (cA, n_t_minus, .inl x3))] := hD
  have e9 := Option.some.inj hf
  subst e9
  exact kr_v hx hb hr hlocks hK hS (hP.sub [0, 2, 3, 1] rfl) (hD.sub [0, 2, 3, 1] (by decide) rfl) dX1_clear_26
def rm_S_addMultiple : Room := { frames := 1, cells := 0, slots := 0, locals := 22 }
theorem kw_S_addMultiple_0 : (.constantLong RX1 54 2147483647 : Cond) ∈ wsX1_addMultiple := by decide +kernel
set_option maxHeartbeats 4000000 in
set_option maxRecDepth 100000 in
theorem w_S_addMultiple_L13 {p : Program} {l : Launch} {e : Env} {s : State} {m : MethodId} {args : Array Value} {below : List Frame} {meth : Method} {c : Code} {Q : State → Prop} {A : Nat → Prop} {H0 : Heap} {dC : Nat → ClassId} {dI : Nat → Nat → Nat} {cA : ClassId} (hx : p.tables.exec = Jvm.exec) (hb : c.code = cX1_addMultiple) (hown : s.vm.findClass RX1 = some m.cls) (hts : ∀ w ∈ wsX1_addMultiple, w.before args s = true) (hml : c.maxLocals = 10) (hA : ∀ q, H0.size ≤ q → A q) (hK : va_K (dC, dI) vwCl [(cA, .int)] s) (k : Nat) (q_row : Nat) (q_b : Nat) (q_b_signs : Nat) (q_b_lengths : Nat) (q_b_limbs : Nat) (v1 : Int32) (v3 : Int32) (v4 : Int64) (v6 : Int32) (n_row : Nat) (i0_b : Int32) (n_b_signs : Nat) (a_b_signs : Nat → Int32) (n_b_lengths : Nat) (a_b_lengths : Nat → Int32) (n_b_limbs : Nat) (a_b_limbs : Nat → Int32) : ∀ (j : Nat) (v7 : Int64) (v9 : Int32) (a_row : Nat → Int32) (o : Int64 × Int32 × (Nat → Int32)), f_S_addMultiple_L13 k v1 v3 v4 v6 n_row i0_b n_b_limbs a_b_limbs j v7 v9 a_row = some o → ∀ (H : Heap) (locs : List Loc), va_P (dC, dI) vwCl [(q_row, .inl (cA, n_row, .inl a_row)), (q_b, .inr (0, [.int i0_b, .ref q_b_signs, .ref q_b_lengths, .ref q_b_limbs])), (q_b_signs, .inl (cA, n_b_signs, .inl a_b_signs)), (q_b_lengths, .inl (cA, n_b_lengths, .inl a_b_lengths)), (q_b_limbs, .inl (cA, n_b_limbs, .inl a_b_limbs))] H → va_D A [(q_row, .inl (cA, n_row, .inl a_row)), (q_b, .inr (0, [.int i0_b, .ref q_b_signs, .ref q_b_lengths, .ref q_b_limbs])), (q_b_signs, .inl (cA, n_b_signs, .inl a_b_signs)), (q_b_lengths, .inl (cA, n_b_lengths, .inl a_b_lengths)), (q_b_limbs, .inl (cA, n_b_limbs, .inl a_b_limbs))] → va_S A H0 H locs → ∀ ls : Array Slot, lv_has ls 10 [(0, .ref q_row), (1, .int v1), (2, .ref q_b), (3, .int v3), (4, .long v4), (6, .int v6), (7, .long v7), (9, .int v9)] → ∀ (he : ∀ (H : Heap) (locs : List Loc), va_P (dC, dI) vwCl [(q_row, .inl (cA, n_row, .inl o.2.2)), (q_b, .inr (0, [.int i0_b, .ref q_b_signs, .ref q_b_lengths, .ref q_b_limbs])), (q_b_signs, .inl (cA, n_b_signs, .inl a_b_signs)), (q_b_lengths, .inl (cA, n_b_lengths, .inl a_b_lengths)), (q_b_limbs, .inl (cA, n_b_limbs, .inl a_b_limbs))] H → va_D A [(q_row, .inl (cA, n_row, .inl o.2.2)), (q_b, .inr (0, [.int i0_b, .ref q_b_signs, .ref q_b_lengths, .ref q_b_limbs])), (q_b_signs, .inl (cA, n_b_signs, .inl a_b_signs)), (q_b_lengths, .inl (cA, n_b_lengths, .inl a_b_lengths)), (q_b_limbs, .inl (cA, n_b_limbs, .inl a_b_limbs))] → va_S A H0 H locs → ∀ ls : Array Slot, lv_has ls 10 [(0, .ref q_row), (1, .int v1), (6, .int v6), (7, .long o.1)] → W p l e rm_S_addMultiple s m args below meth c H locs 0 0 Q (F0 m 70 ls [])), W p l e rm_S_addMultiple s m args below meth c H locs 0 0 Q (F0 m 13 ls []) := by
  intro j
  induction j with
  | zero =>
    intro v7 v9 a_row o hf
    rw [f_S_addMultiple_L13] at hf
    cases hf
  | succ j ih =>
    intro v7 v9 a_row o hf H locs hP hD hS ls hl he
    rw [f_S_addMultiple_L13] at hf
    refine lv_iload hx hb dX1_addMultiple_13 (lv_at hl 7 rfl) ?_
    refine lv_iload hx hb dX1_addMultiple_15 (lv_at hl 5 rfl) ?_
    refine lv_icmp_ge (tgt := 70) hx hb dX1_addMultiple_17 (by decide) (fun c13 => ?_) (fun c13 => ?_)
    · have hf := og_t c13 hf
      have e9 := Option.some.inj hf
      subst e9
      exact he _ _ (hP.sub [0, 1, 2, 3, 4] rfl) (hD.sub [0, 1, 2, 3, 4] (by decide) rfl) hS _ (lv_sub hl [0, 1, 5, 6] rfl)
    · have hf := og_f c13 hf
      refine lv_lload hx hb dX1_addMultiple_20 (lv_at hl 6 rfl) ?_
      refine lv_aload_n hx hb dX1_addMultiple_22 rfl (lv_at hl 0 rfl) ?_
      refine lv_iload_n hx hb dX1_addMultiple_23 rfl (lv_at hl 1 rfl) ?_
      refine lv_iload hx hb dX1_addMultiple_24 (lv_at hl 7 rfl) ?_
      refine lv_iadd hx hb dX1_addMultiple_26 ?_
      obtain ⟨g14, hf⟩ := og_c hf
      refine va_iald hx hb hK hP 0 0 rfl rfl (og_in g14) dX1_addMultiple_27 ?_
      refine lv_i2l (v := (a_row (v1 + v9).toNatClampNeg).toInt64) hx hb dX1_addMultiple_28 rfl ?_
      refine lv_lload hx hb dX1_addMultiple_29 (lv_at hl 4 rfl) ?_
      refine lv_aload_n hx hb dX1_addMultiple_31 rfl (lv_at hl 2 rfl) ?_
      refine lv_iload_n hx hb dX1_addMultiple_32 rfl (lv_at hl 3 rfl) ?_
      refine lv_iload hx hb dX1_addMultiple_33 (lv_at hl 7 rfl) ?_
      obtain ⟨x15, g16, hf⟩ := og_b hf
      refine kc_i (wr := [(q_row, .inl (cA, n_row, .inl a_row))]) (w1 := [(q_b, .inr (0, [.int i0_b, .ref q_b_signs, .ref q_b_lengths, .ref q_b_limbs])), (q_b_signs, .inl (cA, n_b_signs, .inl a_b_signs)), (q_b_lengths, .inl (cA, n_b_lengths, .inl a_b_lengths)), (q_b_limbs, .inl (cA, n_b_limbs, .inl a_b_limbs))]) [1, 2, 3, 4] [0] (va_runV (As := [.int v3, .int v9]) (rest := [.long v4, .long ((a_row (v1 + v9).toNatClampNeg).toInt64), .long v7]) ⟨hx, hb, hml, hown, hts⟩ (c_N_limbOf l dC dI cA H.size q_b q_b_signs q_b_lengths q_b_limbs i0_b n_b_signs a_b_signs n_b_lengths a_b_lengths n_b_limbs a_b_limbs v3 v9 x15 g16) (cwV 2 hts gX1_addMultiple_X0_limbOf rfl rfl rfl (by decide +kernel) ⟨Nat.le_of_ble_eq_true rfl, Nat.le_of_ble_eq_true rfl⟩) (kc_preV hP hD hK [1, 2, 3, 4] rfl rfl (by decide) (ci := 0) (q0 := 1) rfl rfl) rfl rfl hl.1 rfl (lv_room (Nat.le_of_ble_eq_true rfl)) dX1_addMultiple_35 ⟨Nat.le_of_ble_eq_true rfl, Nat.le_of_ble_eq_true rfl⟩) hP hD hS hA rfl rfl (by decide) (by decide) (fun H locs hP hD hS => ?_)
      have hP : va_P (dC, dI) vwCl [(q_row, .inl (cA, n_row, .inl a_row)), (q_b, .inr (0, [.int i0_b, .ref q_b_signs, .ref q_b_lengths, .ref q_b_limbs])), (q_b_signs, .inl (cA, n_b_signs, .inl a_b_signs)), (q_b_lengths, .inl (cA, n_b_lengths, .inl a_b_lengths)), (q_b_limbs, .inl (cA, n_b_limbs, .inl a_b_limbs))] H := hP
      have hD : va_D A [(q_row, .inl (cA, n_row, .inl a_row)), (q_b, .inr (0, [.int i0_b, .ref q_b_signs, .ref q_b_lengths, .ref q_b_limbs])), (q_b_signs, .inl (cA, n_b_signs, .inl a_b_signs)), (q_b_lengths, .inl (cA, n_b_lengths, .inl a_b_lengths)), (q_b_limbs, .inl (cA, n_b_limbs, .inl a_b_limbs))] := hD
      refine lv_i2l (v := x15.toInt64) hx hb dX1_addMultiple_38 rfl ?_
      refine lv_lmul hx hb dX1_addMultiple_39 ?_
      refine lv_ladd hx hb dX1_addMultiple_40 ?_
      refine lv_ladd hx hb dX1_addMultiple_41 ?_
      refine lv_lstore (lv' := [(7, .long (v7 + (((a_row (v1 + v9).toNatClampNeg).toInt64) + (v4 * x15.toInt64)))), (0, .ref q_row), (1, .int v1), (2, .ref q_b), (3, .int v3), (4, .long v4), (6, .int v6), (9, .int v9)]) hx hb dX1_addMultiple_42 hl (by decide) rfl (fun ls hl => ?_)
      refine lv_aload_n hx hb dX1_addMultiple_44 rfl (lv_at hl 1 rfl) ?_
      refine lv_iload_n hx hb dX1_addMultiple_45 rfl (lv_at hl 2 rfl) ?_
      refine lv_iload hx hb dX1_addMultiple_46 (lv_at hl 7 rfl) ?_
      refine lv_iadd hx hb dX1_addMultiple_48 ?_
      refine lv_lload hx hb dX1_addMultiple_49 (lv_at hl 0 rfl) ?_
      refine lv_ldc2 (v := 2147483647) hx hb hown (hts (.constantLong RX1 54 2147483647) kw_S_addMultiple_0) dX1_addMultiple_51 ?_
      refine lv_land hx hb dX1_addMultiple_54 ?_
      refine lv_l2i (v := ((v7 + (((a_row (v1 + v9).toNatClampNeg).toInt64) + (v4 * x15.toInt64))) &&& 2147483647).toInt32) hx hb dX1_addMultiple_55 rfl ?_
      obtain ⟨g17, hf⟩ := og_c hf
      refine va_iast hx hb hK hP hD hS 0 0 rfl rfl (og_in g17) dX1_addMultiple_56 (fun H locs hP hD hS => ?_)
      have hP : va_P (dC, dI) vwCl [(q_row, .inl (cA, n_row, .inl (upd a_row (v1 + v9).toNatClampNeg (((v7 + (((a_row (v1 + v9).toNatClampNeg).toInt64) + (v4 * x15.toInt64))) &&& 2147483647).toInt32)))), (q_b, .inr (0, [.int i0_b, .ref q_b_signs, .ref q_b_lengths, .ref q_b_limbs])), (q_b_signs, .inl (cA, n_b_signs, .inl a_b_signs)), (q_b_lengths, .inl (cA, n_b_lengths, .inl a_b_lengths)), (q_b_limbs, .inl (cA, n_b_limbs, .inl a_b_limbs))] H := hP
      have hD : va_D A [(q_row, .inl (cA, n_row, .inl (upd a_row (v1 + v9).toNatClampNeg (((v7 + (((a_row (v1 + v9).toNatClampNeg).toInt64) + (v4 * x15.toInt64))) &&& 2147483647).toInt32)))), (q_b, .inr (0, [.int i0_b, .ref q_b_signs, .ref q_b_lengths, .ref q_b_limbs])), (q_b_signs, .inl (cA, n_b_signs, .inl a_b_signs)), (q_b_lengths, .inl (cA, n_b_lengths, .inl a_b_lengths)), (q_b_limbs, .inl (cA, n_b_limbs, .inl a_b_limbs))] := hD
      refine lv_lload hx hb dX1_addMultiple_57 (lv_at hl 0 rfl) ?_
      refine lv_bipush (v := 31) hx hb dX1_addMultiple_59 (by decide) ?_
      refine lv_lshr (v := (v7 + (((a_row (v1 + v9).toNatClampNeg).toInt64) + (v4 * x15.toInt64))) >>> ((31 : Int32).toInt64 &&& 63)) hx hb dX1_addMultiple_61 rfl ?_
      refine lv_lstore (lv' := [(7, .long ((v7 + (((a_row (v1 + v9).toNatClampNeg).toInt64) + (v4 * x15.toInt64))) >>> ((31 : Int32).toInt64 &&& 63))), (0, .ref q_row), (1, .int v1), (2, .ref q_b), (3, .int v3), (4, .long v4), (6, .int v6), (9, .int v9)]) hx hb dX1_addMultiple_62 hl (by decide) rfl (fun ls hl => ?_)
      refine lv_iinc (v := v9 + 1) (lv' := [(9, .int (v9 + 1)), (7, .long ((v7 + (((a_row (v1 + v9).toNatClampNeg).toInt64) + (v4 * x15.toInt64))) >>> ((31 : Int32).toInt64 &&& 63))), (0, .ref q_row), (1, .int v1), (2, .ref q_b), (3, .int v3), (4, .long v4), (6, .int v6)]) hx hb dX1_addMultiple_64 hl (k := 7) rfl rfl (by decide) rfl (fun ls hl => ?_)
      refine lv_goto (tgt := 13) hx hb dX1_addMultiple_67 (by decide) ?_
      exact ih ((v7 + (((a_row (v1 + v9).toNatClampNeg).toInt64) + (v4 * x15.toInt64))) >>> ((31 : Int32).toInt64 &&& 63)) (v9 + 1) (upd a_row (v1 + v9).toNatClampNeg (((v7 + (((a_row (v1 + v9).toNatClampNeg).toInt64) + (v4 * x15.toInt64))) &&& 2147483647).toInt32)) _ hf _ _ (hP.sub [0, 1, 2, 3, 4] rfl) (hD.sub [0, 1, 2, 3, 4] (by decide) rfl) hS _ (lv_sub hl [2, 3, 4, 5, 6, 7, 1, 0] rfl) he
set_option maxHeartbeats 4000000 in
set_option maxRecDepth 100000 in
theorem w_S_addMultiple_L76 {p : Program} {l : Launch} {e : Env} {s : State} {m : MethodId} {args : Array Value} {below : List Frame} {meth : Method} {c : Code} {Q : State → Prop} {A : Nat → Prop} {H0 : Heap} {dC : Nat → ClassId} {dI : Nat → Nat → Nat} {cA : ClassId} (hx : p.tables.exec = Jvm.exec) (hb : c.code = cX1_addMultiple) (hown : s.vm.findClass RX1 = some m.cls) (hts : ∀ w ∈ wsX1_addMultiple, w.before args s = true) (hml : c.maxLocals = 10) (hA : ∀ q, H0.size ≤ q → A q) (hK : va_K (dC, dI) vwCl [(cA, .int)] s) (k : Nat) (q_row : Nat) (q_b : Nat) (q_b_signs : Nat) (q_b_lengths : Nat) (q_b_limbs : Nat) (n_row : Nat) (i0_b : Int32) (n_b_signs : Nat) (a_b_signs : Nat → Int32) (n_b_lengths : Nat) (a_b_lengths : Nat → Int32) (n_b_limbs : Nat) (a_b_limbs : Nat → Int32) : ∀ (j : Nat) (v7 : Int64) (v9 : Int32) (a_row : Nat → Int32) (o : Int64 × Int32 × (Nat → Int32)), f_S_addMultiple_L76 k n_row j v7 v9 a_row = some o → ∀ (H : Heap) (locs : List Loc), va_P (dC, dI) vwCl [(q_row, .inl (cA, n_row, .inl a_row)), (q_b, .inr (0, [.int i0_b, .ref q_b_signs, .ref q_b_lengths, .ref q_b_limbs])), (q_b_signs, .inl (cA, n_b_signs, .inl a_b_signs)), (q_b_lengths, .inl (cA, n_b_lengths, .inl a_b_lengths)), (q_b_limbs, .inl (cA, n_b_limbs, .inl a_b_limbs))] H → va_D A [(q_row, .inl (cA, n_row, .inl a_row)), (q_b, .inr (0, [.int i0_b, .ref q_b_signs, .ref q_b_lengths, .ref q_b_limbs])), (q_b_signs, .inl (cA, n_b_signs, .inl a_b_signs)), (q_b_lengths, .inl (cA, n_b_lengths, .inl a_b_lengths)), (q_b_limbs, .inl (cA, n_b_limbs, .inl a_b_limbs))] → va_S A H0 H locs → ∀ ls : Array Slot, lv_has ls 10 [(0, .ref q_row), (7, .long v7), (9, .int v9)] → ∀ (he : ∀ (H : Heap) (locs : List Loc), va_P (dC, dI) vwCl [(q_row, .inl (cA, n_row, .inl o.2.2)), (q_b, .inr (0, [.int i0_b, .ref q_b_signs, .ref q_b_lengths, .ref q_b_limbs])), (q_b_signs, .inl (cA, n_b_signs, .inl a_b_signs)), (q_b_lengths, .inl (cA, n_b_lengths, .inl a_b_lengths)), (q_b_limbs, .inl (cA, n_b_limbs, .inl a_b_limbs))] H → va_D A [(q_row, .inl (cA, n_row, .inl o.2.2)), (q_b, .inr (0, [.int i0_b, .ref q_b_signs, .ref q_b_lengths, .ref q_b_limbs])), (q_b_signs, .inl (cA, n_b_signs, .inl a_b_signs)), (q_b_lengths, .inl (cA, n_b_lengths, .inl a_b_lengths)), (q_b_limbs, .inl (cA, n_b_limbs, .inl a_b_limbs))] → va_S A H0 H locs → ∀ ls : Array Slot, lv_has ls 10 [] → W p l e rm_S_addMultiple s m args below meth c H locs 0 0 Q (F0 m 124 ls [])), W p l e rm_S_addMultiple s m args below meth c H locs 0 0 Q (F0 m 76 ls []) := by
  intro j
  induction j with
  | zero =>
    intro v7 v9 a_row o hf
    rw [f_S_addMultiple_L76] at hf
    cases hf
  | succ j ih =>
    intro v7 v9 a_row o hf H locs hP hD hS ls hl he
    rw [f_S_addMultiple_L76] at hf
    refine lv_lload hx hb dX1_addMultiple_76 (lv_at hl 1 rfl) ?_
    refine lv_lconst (v := 0) hx hb dX1_addMultiple_78 (by decide) ?_
    refine W.lcmp hx hb dX1_addMultiple_79 ?_
    refine lv_if_eq (tgt := 124) hx hb dX1_addMultiple_80 (by decide) (fun c28 => ?_) (fun c28 => ?_)
    · have hf := og_t c28 hf
      have e9 := Option.some.inj hf
      subst e9
      exact he _ _ (hP.sub [0, 1, 2, 3, 4] rfl) (hD.sub [0, 1, 2, 3, 4] (by decide) rfl) hS _ (lv_sub hl [] rfl)
    · have hf := og_f c28 hf
      refine lv_iload hx hb dX1_addMultiple_83 (lv_at hl 2 rfl) ?_
      refine lv_aload_n hx hb dX1_addMultiple_85 rfl (lv_at hl 0 rfl) ?_
      refine va_alen hx hb hK hP 0 0 rfl rfl (v := nI n_row) rfl dX1_addMultiple_86 ?_
      refine lv_icmp_ge (tgt := 124) hx hb dX1_addMultiple_87 (by decide) (fun c29 => ?_) (fun c29 => ?_)
      · have hf := og_t c29 hf
        have e9 := Option.some.inj hf
        subst e9
        exact he _ _ (hP.sub [0, 1, 2, 3, 4] rfl) (hD.sub [0, 1, 2, 3, 4] (by decide) rfl) hS _ (lv_sub hl [] rfl)
      · have hf := og_f c29 hf
        refine lv_lload hx hb dX1_addMultiple_90 (lv_at hl 1 rfl) ?_
        refine lv_aload_n hx hb dX1_addMultiple_92 rfl (lv_at hl 0 rfl) ?_
        refine lv_iload hx hb dX1_addMultiple_93 (lv_at hl 2 rfl) ?_
        obtain ⟨g30, hf⟩ := og_c hf
        refine va_iald hx hb hK hP 0 0 rfl rfl (og_in g30) dX1_addMultiple_95 ?_
        refine lv_i2l (v := (a_row v9.toNatClampNeg).toInt64) hx hb dX1_addMultiple_96 rfl ?_
        refine lv_ladd hx hb dX1_addMultiple_97 ?_
        refine lv_lstore (lv' := [(7, .long (v7 + ((a_row v9.toNatClampNeg).toInt64))), (0, .ref q_row), (9, .int v9)]) hx hb dX1_addMultiple_98 hl (by decide) rfl (fun ls hl => ?_)
        refine lv_aload_n hx hb dX1_addMultiple_100 rfl (lv_at hl 1 rfl) ?_
        refine lv_iload hx hb dX1_addMultiple_101 (lv_at hl 2 rfl) ?_
        refine lv_lload hx hb dX1_addMultiple_103 (lv_at hl 0 rfl) ?_
        refine lv_ldc2 (v := 2147483647) hx hb hown (hts (.constantLong RX1 54 2147483647) kw_S_addMultiple_0) dX1_addMultiple_105 ?_
        refine lv_land hx hb dX1_addMultiple_108 ?_
        refine lv_l2i (v := ((v7 + ((a_row v9.toNatClampNeg).toInt64)) &&& 2147483647).toInt32) hx hb dX1_addMultiple_109 rfl ?_
        obtain ⟨g31, hf⟩ := og_c hf
        refine va_iast hx hb hK hP hD hS 0 0 rfl rfl (og_in g31) dX1_addMultiple_110 (fun H locs hP hD hS => ?_)
        have hP : va_P (dC, dI) vwCl [(q_row, .inl (cA, n_row, .inl (upd a_row v9.toNatClampNeg (((v7 + ((a_row v9.toNatClampNeg).toInt64)) &&& 2147483647).toInt32)))), (q_b, .inr (0, [.int i0_b, .ref q_b_signs, .ref q_b_lengths, .ref q_b_limbs])), (q_b_signs, .inl (cA, n_b_signs, .inl a_b_signs)), (q_b_lengths, .inl (cA, n_b_lengths, .inl a_b_lengths)), (q_b_limbs, .inl (cA, n_b_limbs, .inl a_b_limbs))] H := hP
        have hD : va_D A [(q_row, .inl (cA, n_row, .inl (upd a_row v9.toNatClampNeg (((v7 + ((a_row v9.toNatClampNeg).toInt64)) &&& 2147483647).toInt32)))), (q_b, .inr (0, [.int i0_b, .ref q_b_signs, .ref q_b_lengths, .ref q_b_limbs])), (q_b_signs, .inl (cA, n_b_signs, .inl a_b_signs)), (q_b_lengths, .inl (cA, n_b_lengths, .inl a_b_lengths)), (q_b_limbs, .inl (cA, n_b_limbs, .inl a_b_limbs))] := hD
        refine lv_lload hx hb dX1_addMultiple_111 (lv_at hl 0 rfl) ?_
        refine lv_bipush (v := 31) hx hb dX1_addMultiple_113 (by decide) ?_
        refine lv_lshr (v := (v7 + ((a_row v9.toNatClampNeg).toInt64)) >>> ((31 : Int32).toInt64 &&& 63)) hx hb dX1_addMultiple_115 rfl ?_
        refine lv_lstore (lv' := [(7, .long ((v7 + ((a_row v9.toNatClampNeg).toInt64)) >>> ((31 : Int32).toInt64 &&& 63))), (0, .ref q_row), (9, .int v9)]) hx hb dX1_addMultiple_116 hl (by decide) rfl (fun ls hl => ?_)
        refine lv_iinc (v := v9 + 1) (lv' := [(9, .int (v9 + 1)), (7, .long ((v7 + ((a_row v9.toNatClampNeg).toInt64)) >>> ((31 : Int32).toInt64 &&& 63))), (0, .ref q_row)]) hx hb dX1_addMultiple_118 hl (k := 2) rfl rfl (by decide) rfl (fun ls hl => ?_)
        refine lv_goto (tgt := 76) hx hb dX1_addMultiple_121 (by decide) ?_
        exact ih ((v7 + ((a_row v9.toNatClampNeg).toInt64)) >>> ((31 : Int32).toInt64 &&& 63)) (v9 + 1) (upd a_row v9.toNatClampNeg (((v7 + ((a_row v9.toNatClampNeg).toInt64)) &&& 2147483647).toInt32)) _ hf _ _ (hP.sub [0, 1, 2, 3, 4] rfl) (hD.sub [0, 1, 2, 3, 4] (by decide) rfl) hS _ (lv_sub hl [2, 1, 0] rfl) he
set_option maxHeartbeats 4000000 in
set_option maxRecDepth 100000 in
theorem c_S_addMultiple (l : Launch) (dC : Nat → ClassId) (dI : Nat → Nat → Nat) (cA : ClassId) (sz : Nat) (q_row : Nat) (q_b : Nat) (q_b_signs : Nat) (q_b_lengths : Nat) (q_b_limbs : Nat) (k : Nat) (n_row : Nat) (a_row : Nat → Int32) (fro : Int32) (b_room : Int32) (n_b_signs : Nat) (a_b_signs : Nat → Int32) (n_b_lengths : Nat) (a_b_lengths : Nat → Int32) (n_b_limbs : Nat) (a_b_limbs : Nat → Int32) (slotB : Int32) (word : Int64) (o : (Nat → Int32)) (hf : f_S_addMultiple k n_row a_row fro b_room n_b_lengths a_b_lengths n_b_limbs a_b_limbs slotB word = some o) : Met l yX1_addMultiple wsX1_addMultiple rm_S_addMultiple (c_Pre (dC, dI) vwCl [(cA, .int)] [(q_row, .inl (cA, n_row, .inl a_row)), (q_b, .inr (0, [.int b_room, .ref q_b_signs, .ref q_b_lengths, .ref q_b_limbs])), (q_b_signs, .inl (cA, n_b_signs, .inl a_b_signs)), (q_b_lengths, .inl (cA, n_b_lengths, .inl a_b_lengths)), (q_b_limbs, .inl (cA, n_b_limbs, .inl a_b_limbs))] sz [.ref q_row, .int fro, .ref q_b, .int slotB, .long word]) (c_Qv (dC, dI) vwCl [(cA, .int)] [(q_row, .inl (cA, n_row, .inl o)), (q_b, .inr (0, [.int b_room, .ref q_b_signs, .ref q_b_lengths, .ref q_b_limbs])), (q_b_signs, .inl (cA, n_b_signs, .inl a_b_signs)), (q_b_lengths, .inl (cA, n_b_lengths, .inl a_b_lengths)), (q_b_limbs, .inl (cA, n_b_limbs, .inl a_b_limbs))] (va_A [(q_row, .inl (cA, n_row, .inl a_row)), (q_b, .inr (0, [.int b_room, .ref q_b_signs, .ref q_b_lengths, .ref q_b_limbs])), (q_b_signs, .inl (cA, n_b_signs, .inl a_b_signs)), (q_b_lengths, .inl (cA, n_b_lengths, .inl a_b_lengths)), (q_b_limbs, .inl (cA, n_b_limbs, .inl a_b_limbs))] sz)) 0 0 (va_A [(q_row, .inl (cA, n_row, .inl a_row)), (q_b, .inr (0, [.int b_room, .ref q_b_signs, .ref q_b_lengths, .ref q_b_limbs])), (q_b_signs, .inl (cA, n_b_signs, .inl a_b_signs)), (q_b_lengths, .inl (cA, n_b_lengths, .inl a_b_lengths)), (q_b_limbs, .inl (cA, n_b_limbs, .inl a_b_limbs))] sz) := by
  unfold f_S_addMultiple at hf
  refine k_ent (Qc := fun A => c_Qv (dC, dI) vwCl [(cA, .int)] [(q_row, .inl (cA, n_row, .inl o)), (q_b, .inr (0, [.int b_room, .ref q_b_signs, .ref q_b_lengths, .ref q_b_limbs])), (q_b_signs, .inl (cA, n_b_signs, .inl a_b_signs)), (q_b_lengths, .inl (cA, n_b_lengths, .inl a_b_lengths)), (q_b_limbs, .inl (cA, n_b_limbs, .inl a_b_limbs))] A) (by decide) rfl (Nat.le_of_ble_eq_true rfl) ?_
  intro p e s m below meth c A hx hb hr hown hts hml hlocks hin hsz hA hK H locs hP hD hS ls hl
  have hown : s.vm.findClass RX1 = some m.cls := hown
  have hl : lv_has ls 10 [(0, .ref q_row), (1, .int fro), (2, .ref q_b), (3, .int slotB), (4, .long word)] := hl
  refine lv_aload_n hx hb dX1_addMultiple_0 rfl (lv_at hl 2 rfl) ?_
  refine lv_iload_n hx hb dX1_addMultiple_1 rfl (lv_at hl 3 rfl) ?_
  obtain ⟨x1, g2, hf⟩ := og_b hf
  refine kc_i (wr := [(q_row, .inl (cA, n_row, .inl a_row))]) (w1 := [(q_b, .inr (0, [.int b_room, .ref q_b_signs, .ref q_b_lengths, .ref q_b_limbs])), (q_b_signs, .inl (cA, n_b_signs, .inl a_b_signs)), (q_b_lengths, .inl (cA, n_b_lengths, .inl a_b_lengths)), (q_b_limbs, .inl (cA, n_b_limbs, .inl a_b_limbs))]) [1, 2, 3, 4] [0] (va_runV (As := [.int slotB]) (rest := []) ⟨hx, hb, hml, hown, hts⟩ (c_N_lengthOf l dC dI cA H.size q_b q_b_signs q_b_lengths q_b_limbs b_room n_b_signs a_b_signs n_b_lengths a_b_lengths n_b_limbs a_b_limbs slotB x1 g2) (cwV 1 hts gX1_addMultiple_X0_lengthOf rfl rfl rfl (by decide +kernel) ⟨Nat.le_of_ble_eq_true rfl, Nat.le_of_ble_eq_true rfl⟩) (kc_preV hP hD hK [1, 2, 3, 4] rfl rfl (by decide) (ci := 0) (q0 := 1) rfl rfl) rfl rfl hl.1 rfl (lv_room (Nat.le_of_ble_eq_true rfl)) dX1_addMultiple_2 ⟨Nat.le_of_ble_eq_true rfl, Nat.le_of_ble_eq_true rfl⟩) hP hD hS hA rfl rfl (by decide) (by decide) (fun H locs hP hD hS => ?_)
  have hP : va_P (dC, dI) vwCl [(q_row, .inl (cA, n_row, .inl a_row)), (q_b, .inr (0, [.int b_room, .ref q_b_signs, .ref q_b_lengths, .ref q_b_limbs])), (q_b_signs, .inl (cA, n_b_signs, .inl a_b_signs)), (q_b_lengths, .inl (cA, n_b_lengths, .inl a_b_lengths)), (q_b_limbs, .inl (cA, n_b_limbs, .inl a_b_limbs))] H := hP
  have hD : va_D A [(q_row, .inl (cA, n_row, .inl a_row)), (q_b, .inr (0, [.int b_room, .ref q_b_signs, .ref q_b_lengths, .ref q_b_limbs])), (q_b_signs, .inl (cA, n_b_signs, .inl a_b_signs)), (q_b_lengths, .inl (cA, n_b_lengths, .inl a_b_lengths)), (q_b_limbs, .inl (cA, n_b_limbs, .inl a_b_limbs))] := hD
  refine lv_istore (lv' := [(6, .int x1), (0, .ref q_row), (1, .int fro), (2, .ref q_b), (3, .int slotB), (4, .long word)]) hx hb dX1_addMultiple_5 hl (by decide) rfl (fun ls hl => ?_)
  refine lv_lconst (v := 0) hx hb dX1_addMultiple_7 (by decide) ?_
  refine lv_lstore (lv' := [(7, .long 0), (6, .int x1), (0, .ref q_row), (1, .int fro), (2, .ref q_b), (3, .int slotB), (4, .long word)]) hx hb dX1_addMultiple_8 hl (by decide) rfl (fun ls hl => ?_)
  refine lv_iconst (v := 0) hx hb dX1_addMultiple_10 (by decide) ?_
  refine lv_istore (lv' := [(9, .int 0), (7, .long 0), (6, .int x1), (0, .ref q_row), (1, .int fro), (2, .ref q_b), (3, .int slotB), (4, .long word)]) hx hb dX1_addMultiple_11 hl (by decide) rfl (fun ls hl => ?_)
  obtain ⟨x18, g19, hf⟩ := og_b hf
  refine w_S_addMultiple_L13 hx hb hown hts hml hA hK k q_row q_b q_b_signs q_b_lengths q_b_limbs fro slotB word x1 n_row b_room n_b_signs a_b_signs n_b_lengths a_b_lengths n_b_limbs a_b_limbs k (0 : Int64) (0 : Int32) a_row _ g19 _ _ (hP.sub [0, 1, 2, 3, 4] rfl) (hD.sub [0, 1, 2, 3, 4] (by decide) rfl) hS _ (lv_sub hl [3, 4, 5, 6, 7, 2, 1, 0] rfl) ?_
  intro H locs hP hD hS ls hl
  refine lv_iload_n hx hb dX1_addMultiple_70 rfl (lv_at hl 1 rfl) ?_
  refine lv_iload hx hb dX1_addMultiple_71 (lv_at hl 2 rfl) ?_
  refine lv_iadd hx hb dX1_addMultiple_73 ?_
  refine lv_istore (lv' := [(9, .int (fro + x1)), (0, .ref q_row), (1, .int fro), (6, .int x1), (7, .long x18.1)]) hx hb dX1_addMultiple_74 hl (by decide) rfl (fun ls hl => ?_)
  obtain ⟨x32, g33, hf⟩ := og_b hf
  refine w_S_addMultiple_L76 hx hb hown hts hml hA hK k q_row q_b q_b_signs q_b_lengths q_b_limbs n_row b_room n_b_signs a_b_signs n_b_lengths a_b_lengths n_b_limbs a_b_limbs k x18.1 (fro + x1) x18.2.2 _ g33 _ _ (hP.sub [0, 1, 2, 3, 4] rfl) (hD.sub [0, 1, 2, 3, 4] (by decide) rfl) hS _ (lv_sub hl [1, 4, 0] rfl) ?_
  intro H locs hP hD hS ls hl
  have e9 := Option.some.inj hf
  subst e9
  exact kr_v hx hb hr hlocks hK hS (hP.sub [0, 1, 2, 3, 4] rfl) (hD.sub [0, 1, 2, 3, 4] (by decide) rfl) dX1_addMultiple_124
def rm_S_addProduct : Room := { frames := 2, cells := 0, slots := 0, locals := 51 }
theorem kw_S_addProduct_0 : (.fieldLink RX1 19 "MinorSteps$Sum" "minus" "[I" : Cond) ∈ wsX1_addProduct := by decide +kernel
theorem kw_S_addProduct_1 : (.fieldLink RX1 15 "MinorSteps$Sum" "plus" "[I" : Cond) ∈ wsX1_addProduct := by decide +kernel
theorem ki_S_addProduct_X1 : ∀ w ∈ u_ws RX1 TX1 6, w ∈ wsX1_addProduct := by decide +kernel
set_option maxHeartbeats 4000000 in
set_option maxRecDepth 100000 in
theorem w_S_addProduct_L44 {p : Program} {l : Launch} {e : Env} {s : State} {m : MethodId} {args : Array Value} {below : List Frame} {meth : Method} {c : Code} {Q : State → Prop} {A : Nat → Prop} {H0 : Heap} {dC : Nat → ClassId} {dI : Nat → Nat → Nat} {cA : ClassId} (hx : p.tables.exec = Jvm.exec) (hb : c.code = cX1_addProduct) (hown : s.vm.findClass RX1 = some m.cls) (hts : ∀ w ∈ wsX1_addProduct, w.before args s = true) (hml : c.maxLocals = 9) (hA : ∀ q, H0.size ≤ q → A q) (hK : va_K (dC, dI) vwCl [(cA, .int)] s) (k : Nat) (q_t : Nat) (q_t_plus : Nat) (q_t_minus : Nat) (q_t_divisor : Nat) (q_a : Nat) (q_a_signs : Nat) (q_a_lengths : Nat) (q_a_limbs : Nat) (q_b : Nat) (q_b_signs : Nat) (q_b_lengths : Nat) (q_b_limbs : Nat) (v2 : Int32) (v4 : Int32) (i0_t : Int32) (i4_t : Int32) (i5_t : Int32) (n_t_plus : Nat) (a_t_plus : Nat → Int32) (n_t_minus : Nat) (n_t_divisor : Nat) (a_t_divisor : Nat → Int32) (i0_a : Int32) (n_a_signs : Nat) (a_a_signs : Nat → Int32) (n_a_lengths : Nat) (a_a_lengths : Nat → Int32) (n_a_limbs : Nat) (a_a_limbs : Nat → Int32) (i0_b : Int32) (n_b_signs : Nat) (a_b_signs : Nat → Int32) (n_b_lengths : Nat) (a_b_lengths : Nat → Int32) (n_b_limbs : Nat) (a_b_limbs : Nat → Int32) : ∀ (j : Nat) (v8 : Int32) (a_t_minus : Nat → Int32) (o : Int32 × (Nat → Int32)), f_S_addProduct_L44 k v2 v4 n_t_minus i0_a n_a_lengths a_a_lengths n_a_limbs a_a_limbs i0_b n_b_lengths a_b_lengths n_b_limbs a_b_limbs j v8 a_t_minus = some o → ∀ (H : Heap) (locs : List Loc), va_P (dC, dI) vwCl [(q_t, .inr (1, [.int i0_t, .ref q_t_plus, .ref q_t_minus, .ref q_t_divisor, .int i4_t, .int i5_t])), (q_t_plus, .inl (cA, n_t_plus, .inl a_t_plus)), (q_t_minus, .inl (cA, n_t_minus, .inl a_t_minus)), (q_t_divisor, .inl (cA, n_t_divisor, .inl a_t_divisor)), (q_a, .inr (0, [.int i0_a, .ref q_a_signs, .ref q_a_lengths, .ref q_a_limbs])), (q_a_signs, .inl (cA, n_a_signs, .inl a_a_signs)), (q_a_lengths, .inl (cA, n_a_lengths, .inl a_a_lengths)), (q_a_limbs, .inl (cA, n_a_limbs, .inl a_a_limbs)), (q_b, .inr (0, [.int i0_b, .ref q_b_signs, .ref q_b_lengths, .ref q_b_limbs])), (q_b_signs, .inl (cA, n_b_signs, .inl a_b_signs)), (q_b_lengths, .inl (cA, n_b_lengths, .inl a_b_lengths)), (q_b_limbs, .inl (cA, n_b_limbs, .inl a_b_limbs))] H → va_D A [(q_t, .inr (1, [.int i0_t, .ref q_t_plus, .ref q_t_minus, .ref q_t_divisor, .int i4_t, .int i5_t])), (q_t_plus, .inl (cA, n_t_plus, .inl a_t_plus)), (q_t_minus, .inl (cA, n_t_minus, .inl a_t_minus)), (q_t_divisor, .inl (cA, n_t_divisor, .inl a_t_divisor)), (q_a, .inr (0, [.int i0_a, .ref q_a_signs, .ref q_a_lengths, .ref q_a_limbs])), (q_a_signs, .inl (cA, n_a_signs, .inl a_a_signs)), (q_a_lengths, .inl (cA, n_a_lengths, .inl a_a_lengths)), (q_a_limbs, .inl (cA, n_a_limbs, .inl a_a_limbs)), (q_b, .inr (0, [.int i0_b, .ref q_b_signs, .ref q_b_lengths, .ref q_b_limbs])), (q_b_signs, .inl (cA, n_b_signs, .inl a_b_signs)), (q_b_lengths, .inl (cA, n_b_lengths, .inl a_b_lengths)), (q_b_limbs, .inl (cA, n_b_limbs, .inl a_b_limbs))] → va_S A H0 H locs → ∀ ls : Array Slot, lv_has ls 9 [(1, .ref q_a), (2, .int v2), (3, .ref q_b), (4, .int v4), (7, .ref q_t_minus), (8, .int v8)] → ∀ (he : ∀ (H : Heap) (locs : List Loc), va_P (dC, dI) vwCl [(q_t, .inr (1, [.int i0_t, .ref q_t_plus, .ref q_t_minus, .ref q_t_divisor, .int i4_t, .int i5_t])), (q_t_plus, .inl (cA, n_t_plus, .inl a_t_plus)), (q_t_minus, .inl (cA, n_t_minus, .inl o.2)), (q_t_divisor, .inl (cA, n_t_divisor, .inl a_t_divisor)), (q_a, .inr (0, [.int i0_a, .ref q_a_signs, .ref q_a_lengths, .ref q_a_limbs])), (q_a_signs, .inl (cA, n_a_signs, .inl a_a_signs)), (q_a_lengths, .inl (cA, n_a_lengths, .inl a_a_lengths)), (q_a_limbs, .inl (cA, n_a_limbs, .inl a_a_limbs)), (q_b, .inr (0, [.int i0_b, .ref q_b_signs, .ref q_b_lengths, .ref q_b_limbs])), (q_b_signs, .inl (cA, n_b_signs, .inl a_b_signs)), (q_b_lengths, .inl (cA, n_b_lengths, .inl a_b_lengths)), (q_b_limbs, .inl (cA, n_b_limbs, .inl a_b_limbs))] H → va_D A [(q_t, .inr (1, [.int i0_t, .ref q_t_plus, .ref q_t_minus, .ref q_t_divisor, .int i4_t, .int i5_t])), (q_t_plus, .inl (cA, n_t_plus, .inl a_t_plus)), (q_t_minus, .inl (cA, n_t_minus, .inl o.2)), (q_t_divisor, .inl (cA, n_t_divisor, .inl a_t_divisor)), (q_a, .inr (0, [.int i0_a, .ref q_a_signs, .ref q_a_lengths, .ref q_a_limbs])), (q_a_signs, .inl (cA, n_a_signs, .inl a_a_signs)), (q_a_lengths, .inl (cA, n_a_lengths, .inl a_a_lengths)), (q_a_limbs, .inl (cA, n_a_limbs, .inl a_a_limbs)), (q_b, .inr (0, [.int i0_b, .ref q_b_signs, .ref q_b_lengths, .ref q_b_limbs])), (q_b_signs, .inl (cA, n_b_signs, .inl a_b_signs)), (q_b_lengths, .inl (cA, n_b_lengths, .inl a_b_lengths)), (q_b_limbs, .inl (cA, n_b_limbs, .inl a_b_limbs))] → va_S A H0 H locs → ∀ ls : Array Slot, lv_has ls 9 [] → W p l e rm_S_addProduct s m args below meth c H locs 0 0 Q (F0 m 78 ls [])), W p l e rm_S_addProduct s m args below meth c H locs 0 0 Q (F0 m 44 ls []) := by
  intro j
  induction j with
  | zero =>
    intro v8 a_t_minus o hf
    rw [f_S_addProduct_L44] at hf
    cases hf
  | succ j ih =>
    intro v8 a_t_minus o hf H locs hP hD hS ls hl he
    rw [f_S_addProduct_L44] at hf
    refine lv_iload hx hb dX1_addProduct_44 (lv_at hl 5 rfl) ?_
    refine lv_aload_n hx hb dX1_addProduct_46 rfl (lv_at hl 0 rfl) ?_
    refine lv_iload_n hx hb dX1_addProduct_47 rfl (lv_at hl 1 rfl) ?_
    obtain ⟨x21, g22, hf⟩ := og_b hf
    refine kc_i (wr := [(q_t, .inr (1, [.int i0_t, .ref q_t_plus, .ref q_t_minus, .ref q_t_divisor, .int i4_t, .int i5_t])), (q_t_plus, .inl (cA, n_t_plus, .inl a_t_plus)), (q_t_minus, .inl (cA, n_t_minus, .inl a_t_minus)), (q_t_divisor, .inl (cA, n_t_divisor, .inl a_t_divisor)), (q_b, .inr (0, [.int i0_b, .ref q_b_signs, .ref q_b_lengths, .ref q_b_limbs])), (q_b_signs, .inl (cA, n_b_signs, .inl a_b_signs)), (q_b_lengths, .inl (cA, n_b_lengths, .inl a_b_lengths)), (q_b_limbs, .inl (cA, n_b_limbs, .inl a_b_limbs))]) (w1 := [(q_a, .inr (0, [.int i0_a, .ref q_a_signs, .ref q_a_lengths, .ref q_a_limbs])), (q_a_signs, .inl (cA, n_a_signs, .inl a_a_signs)), (q_a_lengths, .inl (cA, n_a_lengths, .inl a_a_lengths)), (q_a_limbs, .inl (cA, n_a_limbs, .inl a_a_limbs))]) [4, 5, 6, 7] [0, 1, 2, 3, 8, 9, 10, 11] (va_runV (As := [.int v2]) (rest := [.int v8]) ⟨hx, hb, hml, hown, hts⟩ (c_N_lengthOf l dC dI cA H.size q_a q_a_signs q_a_lengths q_a_limbs i0_a n_a_signs a_a_signs n_a_lengths a_a_lengths n_a_limbs a_a_limbs v2 x21 g22) (cwV 1 hts gX1_addProduct_X0_lengthOf rfl rfl rfl (by decide +kernel) ⟨Nat.le_of_ble_eq_true rfl, Nat.le_of_ble_eq_true rfl⟩) (kc_preV hP hD hK [4, 5, 6, 7] rfl rfl (by decide) (ci := 0) (q0 := 4) rfl rfl) rfl rfl hl.1 rfl (lv_room (Nat.le_of_ble_eq_true rfl)) dX1_addProduct_48 ⟨Nat.le_of_ble_eq_true rfl, Nat.le_of_ble_eq_true rfl⟩) hP hD hS hA rfl rfl (by decide) (by decide) (fun H locs hP hD hS => ?_)
    have hP : va_P (dC, dI) vwCl [(q_t, .inr (1, [.int i0_t, .ref q_t_plus, .ref q_t_minus, .ref q_t_divisor, .int i4_t, .int i5_t])), (q_t_plus, .inl (cA, n_t_plus, .inl a_t_plus)), (q_t_minus, .inl (cA, n_t_minus, .inl a_t_minus)), (q_t_divisor, .inl (cA, n_t_divisor, .inl a_t_divisor)), (q_b, .inr (0, [.int i0_b, .ref q_b_signs, .ref q_b_lengths, .ref q_b_limbs])), (q_b_signs, .inl (cA, n_b_signs, .inl a_b_signs)), (q_b_lengths, .inl (cA, n_b_lengths, .inl a_b_lengths)), (q_b_limbs, .inl (cA, n_b_limbs, .inl a_b_limbs)), (q_a, .inr (0, [.int i0_a, .ref q_a_signs, .ref q_a_lengths, .ref q_a_limbs])), (q_a_signs, .inl (cA, n_a_signs, .inl a_a_signs)), (q_a_lengths, .inl (cA, n_a_lengths, .inl a_a_lengths)), (q_a_limbs, .inl (cA, n_a_limbs, .inl a_a_limbs))] H := hP
    have hD : va_D A [(q_t, .inr (1, [.int i0_t, .ref q_t_plus, .ref q_t_minus, .ref q_t_divisor, .int i4_t, .int i5_t])), (q_t_plus, .inl (cA, n_t_plus, .inl a_t_plus)), (q_t_minus, .inl (cA, n_t_minus, .inl a_t_minus)), (q_t_divisor, .inl (cA, n_t_divisor, .inl a_t_divisor)), (q_b, .inr (0, [.int i0_b, .ref q_b_signs, .ref q_b_lengths, .ref q_b_limbs])), (q_b_signs, .inl (cA, n_b_signs, .inl a_b_signs)), (q_b_lengths, .inl (cA, n_b_lengths, .inl a_b_lengths)), (q_b_limbs, .inl (cA, n_b_limbs, .inl a_b_limbs)), (q_a, .inr (0, [.int i0_a, .ref q_a_signs, .ref q_a_lengths, .ref q_a_limbs])), (q_a_signs, .inl (cA, n_a_signs, .inl a_a_signs)), (q_a_lengths, .inl (cA, n_a_lengths, .inl a_a_lengths)), (q_a_limbs, .inl (cA, n_a_limbs, .inl a_a_limbs))] := hD
    refine lv_icmp_ge (tgt := 78) hx hb dX1_addProduct_51 (by decide) (fun c23 => ?_) (fun c23 => ?_)
    · have hf := og_t c23 hf
      have e9 := Option.some.inj hf
      subst e9
      exact he _ _ (hP.sub [0, 1, 2, 3, 8, 9, 10, 11, 4, 5, 6, 7] rfl) (hD.sub [0, 1, 2, 3, 8, 9, 10, 11, 4, 5, 6, 7] (by decide) rfl) hS _ (lv_sub hl [] rfl)
    · have hf := og_f c23 hf
      refine lv_aload hx hb dX1_addProduct_54 (lv_at hl 4 rfl) ?_
      refine lv_iload hx hb dX1_addProduct_56 (lv_at hl 5 rfl) ?_
      refine lv_aload_n hx hb dX1_addProduct_58 rfl (lv_at hl 2 rfl) ?_
      refine lv_iload hx hb dX1_addProduct_59 (lv_at hl 3 rfl) ?_
      refine lv_aload_n hx hb dX1_addProduct_61 rfl (lv_at hl 0 rfl) ?_
      refine lv_iload_n hx hb dX1_addProduct_62 rfl (lv_at hl 1 rfl) ?_
      refine lv_iload hx hb dX1_addProduct_63 (lv_at hl 5 rfl) ?_
      obtain ⟨x24, g25, hf⟩ := og_b hf
      refine kc_i (wr := [(q_t, .inr (1, [.int i0_t, .ref q_t_plus, .ref q_t_minus, .ref q_t_divisor, .int i4_t, .int i5_t])), (q_t_plus, .inl (cA, n_t_plus, .inl a_t_plus)), (q_t_minus, .inl (cA, n_t_minus, .inl a_t_minus)), (q_t_divisor, .inl (cA, n_t_divisor, .inl a_t_divisor)), (q_b, .inr (0, [.int i0_b, .ref q_b_signs, .ref q_b_lengths, .ref q_b_limbs])), (q_b_signs, .inl (cA, n_b_signs, .inl a_b_signs)), (q_b_lengths, .inl (cA, n_b_lengths, .inl a_b_lengths)), (q_b_limbs, .inl (cA, n_b_limbs, .inl a_b_limbs))]) (w1 := [(q_a, .inr (0, [.int i0_a, .ref q_a_signs, .ref q_a_lengths, .ref q_a_limbs])), (q_a_signs, .inl (cA, n_a_signs, .inl a_a_signs)), (q_a_lengths, .inl (cA, n_a_lengths, .inl a_a_lengths)), (q_a_limbs, .inl (cA, n_a_limbs, .inl a_a_limbs))]) [8, 9, 10, 11] [0, 1, 2, 3, 4, 5, 6, 7] (va_runV (As := [.int v2, .int v8]) (rest := [.int v4, .ref q_b, .int v8, .ref q_t_minus]) ⟨hx, hb, hml, hown, hts⟩ (c_N_limbOf l dC dI cA H.size q_a q_a_signs q_a_lengths q_a_limbs i0_a n_a_signs a_a_signs n_a_lengths a_a_lengths n_a_limbs a_a_limbs v2 v8 x24 g25) (cwV 2 hts gX1_addProduct_X0_limbOf rfl rfl rfl (by decide +kernel) ⟨Nat.le_of_ble_eq_true rfl, Nat.le_of_ble_eq_true rfl⟩) (kc_preV hP hD hK [8, 9, 10, 11] rfl rfl (by decide) (ci := 0) (q0 := 8) rfl rfl) rfl rfl hl.1 rfl (lv_room (Nat.le_of_ble_eq_true rfl)) dX1_addProduct_65 ⟨Nat.le_of_ble_eq_true rfl, Nat.le_of_ble_eq_true rfl⟩) hP hD hS hA rfl rfl (by decide) (by decide) (fun H locs hP hD hS => ?_)
      have hP : va_P (dC, dI) vwCl [(q_t, .inr (1, [.int i0_t, .ref q_t_plus, .ref q_t_minus, .ref q_t_divisor, .int i4_t, .int i5_t])), (q_t_plus, .inl (cA, n_t_plus, .inl a_t_plus)), (q_t_minus, .inl (cA, n_t_minus, .inl a_t_minus)), (q_t_divisor, .inl (cA, n_t_divisor, .inl a_t_divisor)), (q_b, .inr (0, [.int i0_b, .ref q_b_signs, .ref q_b_lengths, .ref q_b_limbs])), (q_b_signs, .inl (cA, n_b_signs, .inl a_b_signs)), (q_b_lengths, .inl (cA, n_b_lengths, .inl a_b_lengths)), (q_b_limbs, .inl (cA, n_b_limbs, .inl a_b_limbs)), (q_a, .inr (0, [.int i0_a, .ref q_a_signs, .ref q_a_lengths, .ref q_a_limbs])), (q_a_signs, .inl (cA, n_a_signs, .inl a_a_signs)), (q_a_lengths, .inl (cA, n_a_lengths, .inl a_a_lengths)), (q_a_limbs, .inl (cA, n_a_limbs, .inl a_a_limbs))] H := hP
      have hD : va_D A [(q_t, .inr (1, [.int i0_t, .ref q_t_plus, .ref q_t_minus, .ref q_t_divisor, .int i4_t, .int i5_t])), (q_t_plus, .inl (cA, n_t_plus, .inl a_t_plus)), (q_t_minus, .inl (cA, n_t_minus, .inl a_t_minus)), (q_t_divisor, .inl (cA, n_t_divisor, .inl a_t_divisor)), (q_b, .inr (0, [.int i0_b, .ref q_b_signs, .ref q_b_lengths, .ref q_b_limbs])), (q_b_signs, .inl (cA, n_b_signs, .inl a_b_signs)), (q_b_lengths, .inl (cA, n_b_lengths, .inl a_b_lengths)), (q_b_limbs, .inl (cA, n_b_limbs, .inl a_b_limbs)), (q_a, .inr (0, [.int i0_a, .ref q_a_signs, .ref q_a_lengths, .ref q_a_limbs])), (q_a_signs, .inl (cA, n_a_signs, .inl a_a_signs)), (q_a_lengths, .inl (cA, n_a_lengths, .inl a_a_lengths)), (q_a_limbs, .inl (cA, n_a_limbs, .inl a_a_limbs))] := hD
      refine lv_i2l (v := x24.toInt64) hx hb dX1_addProduct_68 rfl ?_
      obtain ⟨x26, g27, hf⟩ := og_b hf
      refine kc_v (wr := [(q_t, .inr (1, [.int i0_t, .ref q_t_plus, .ref q_t_minus, .ref q_t_divisor, .int i4_t, .int i5_t])), (q_t_plus, .inl (cA, n_t_plus, .inl a_t_plus)), (q_t_divisor, .inl (cA, n_t_divisor, .inl a_t_divisor)), (q_a, .inr (0, [.int i0_a, .ref q_a_signs, .ref q_a_lengths, .ref q_a_limbs])), (q_a_signs, .inl (cA, n_a_signs, .inl a_a_signs)), (q_a_lengths, .inl (cA, n_a_lengths, .inl a_a_lengths)), (q_a_limbs, .inl (cA, n_a_limbs, .inl a_a_limbs))]) (w1 := [(q_t_minus, .inl (cA, n_t_minus, .inl x26)), (q_b, .inr (0, [.int i0_b, .ref q_b_signs, .ref q_b_lengths, .ref q_b_limbs])), (q_b_signs, .inl (cA, n_b_signs, .inl a_b_signs)), (q_b_lengths, .inl (cA, n_b_lengths, .inl a_b_lengths)), (q_b_limbs, .inl (cA, n_b_limbs, .inl a_b_limbs))]) [2, 4, 5, 6, 7] [0, 1, 3, 8, 9, 10, 11] (va_runS (As := [.ref q_t_minus, .int v8, .ref q_b, .int v4, .long x24.toInt64]) (rest := []) ⟨hx, hb, hml, hown, hts⟩ (c_S_addMultiple l dC dI cA H.size q_t_minus q_b q_b_signs q_b_lengths q_b_limbs k n_t_minus a_t_minus v8 i0_b n_b_signs a_b_signs n_b_lengths a_b_lengths n_b_limbs a_b_limbs v4 x24.toInt64 x26 g27) (va_cwS 5 hts gX1_addProduct_X1_addMultiple rfl rfl rfl (by decide +kernel) ⟨Nat.le_of_ble_eq_true rfl, Nat.le_of_ble_eq_true rfl⟩) (kc_preS hP hD hK [2, 4, 5, 6, 7] rfl rfl (by decide)) rfl rfl hl.1 rfl (lv_room (Nat.le_of_ble_eq_true rfl)) dX1_addProduct_69 ⟨Nat.le_of_ble_eq_true rfl, Nat.le_of_ble_eq_true rfl⟩) hP hD hS hA rfl rfl (by decide) (by decide) (fun H locs hP hD hS => ?_)
      have hP : va_P (dC, dI) vwCl [(q_t, .inr (1, [.int i0_t, .ref q_t_plus, .ref q_t_minus, .ref q_t_divisor, .int i4_t, .int i5_t])), (q_t_plus, .inl (cA, n_t_plus, .inl a_t_plus)), (q_t_divisor, .inl (cA, n_t_divisor, .inl a_t_divisor)), (q_a, .inr (0, [.int i0_a, .ref q_a_signs, .ref q_a_lengths, .ref q_a_limbs])), (q_a_signs, .inl (cA, n_a_signs, .inl a_a_signs)), (q_a_lengths, .inl (cA, n_a_lengths, .inl a_a_lengths)), (q_a_limbs, .inl (cA, n_a_limbs, .inl a_a_limbs)), (q_t_minus, .inl (cA, n_t_minus, .inl x26)), (q_b, .inr (0, [.int i0_b, .ref q_b_signs, .ref q_b_lengths, .ref q_b_limbs])), (q_b_signs, .inl (cA, n_b_signs, .inl a_b_signs)), (q_b_lengths, .inl (cA, n_b_lengths, .inl a_b_lengths)), (q_b_limbs, .inl (cA, n_b_limbs, .inl a_b_limbs))] H := hP
      have hD : va_D A [(q_t, .inr (1, [.int i0_t, .ref q_t_plus, .ref q_t_minus, .ref q_t_divisor, .int i4_t, .int i5_t])), (q_t_plus, .inl (cA, n_t_plus, .inl a_t_plus)), (q_t_divisor, .inl (cA, n_t_divisor, .inl a_t_divisor)), (q_a, .inr (0, [.int i0_a, .ref q_a_signs, .ref q_a_lengths, .ref q_a_limbs])), (q_a_signs, .inl (cA, n_a_signs, .inl a_a_signs)), (q_a_lengths, .inl (cA, n_a_lengths, .inl a_a_lengths)), (q_a_limbs, .inl (cA, n_a_limbs, .inl a_a_limbs)), (q_t_minus, .inl (cA, n_t_minus, .inl x26)), (q_b, .inr (0, [.int i0_b, .ref q_b_signs, .ref q_b_lengths, .ref q_b_limbs])), (q_b_signs, .inl (cA, n_b_signs, .inl a_b_signs)), (q_b_lengths, .inl (cA, n_b_lengths, .inl a_b_lengths)), (q_b_limbs, .inl (cA, n_b_limbs, .inl a_b_limbs))] := hD
      refine lv_iinc (v := v8 + 1) (lv' := [(8, .int (v8 + 1)), (1, .ref q_a), (2, .int v2), (3, .ref q_b), (4, .int v4), (7, .ref q_t_minus)]) hx hb dX1_addProduct_72 hl (k := 5) rfl rfl (by decide) rfl (fun ls hl => ?_)
      refine lv_goto (tgt := 44) hx hb dX1_addProduct_75 (by decide) ?_
      exact ih (v8 + 1) x26 _ hf _ _ (hP.sub [0, 1, 7, 2, 3, 4, 5, 6, 8, 9, 10, 11] rfl) (hD.sub [0, 1, 7, 2, 3, 4, 5, 6, 8, 9, 10, 11] (by decide) rfl) hS _ (lv_sub hl [1, 2, 3, 4, 5, 0] rfl) he
set_option maxHeartbeats 4000000 in
set_option maxRecDepth 100000 in
theorem w_S_addProduct_L44b {p : Program} {l : Launch} {e : Env} {s : State} {m : MethodId} {args : Array Value} {below : List Frame} {meth : Method} {c : Code} {Q : State → Prop} {A : Nat → Prop} {H0 : Heap} {dC : Nat → ClassId} {dI : Nat → Nat → Nat} {cA : ClassId} (hx : p.tables.exec = Jvm.exec) (hb : c.code = cX1_addProduct) (hown : s.vm.findClass RX1 = some m.cls) (hts : ∀ w ∈ wsX1_addProduct, w.before args s = true) (hml : c.maxLocals = 9) (hA : ∀ q, H0.size ≤ q → A q) (hK : va_K (dC, dI) vwCl [(cA, .int)] s) (k : Nat) (q_t : Nat) (q_t_plus : Nat) (q_t_minus : Nat) (q_t_divisor : Nat) (q_a : Nat) (q_a_signs : Nat) (q_a_lengths : Nat) (q_a_limbs : Nat) (q_b : Nat) (q_b_signs : Nat) (q_b_lengths : Nat) (q_b_limbs : Nat) (v2 : Int32) (v4 : Int32) (i0_t : Int32) (i4_t : Int32) (i5_t : Int32) (n_t_plus : Nat) (n_t_minus : Nat) (a_t_minus : Nat → Int32) (n_t_divisor : Nat) (a_t_divisor : Nat → Int32) (i0_a : Int32) (n_a_signs : Nat) (a_a_signs : Nat → Int32) (n_a_lengths : Nat) (a_a_lengths : Nat → Int32) (n_a_limbs : Nat) (a_a_limbs : Nat → Int32) (i0_b : Int32) (n_b_signs : Nat) (a_b_signs : Nat → Int32) (n_b_lengths : Nat) (a_b_lengths : Nat → Int32) (n_b_limbs : Nat) (a_b_limbs : Nat → Int32) : ∀ (j : Nat) (v8 : Int32) (a_t_plus : Nat → Int32) (o : Int32 × (Nat → Int32)), f_S_addProduct_L44b k v2 v4 n_t_plus i0_a n_a_lengths a_a_lengths n_a_limbs a_a_limbs i0_b n_b_lengths a_b_lengths n_b_limbs a_b_limbs j v8 a_t_plus = some o → ∀ (H : Heap) (locs : List Loc), va_P (dC, dI) vwCl [(q_t, .inr (1, [.int i0_t, .ref q_t_plus, .ref q_t_minus, .ref q_t_divisor, .int i4_t, .int i5_t])), (q_t_plus, .inl (cA, n_t_plus, .inl a_t_plus)), (q_t_minus, .inl (cA, n_t_minus, .inl a_t_minus)), (q_t_divisor, .inl (cA, n_t_divisor, .inl a_t_divisor)), (q_a, .inr (0, [.int i0_a, .ref q_a_signs, .ref q_a_lengths, .ref q_a_limbs])), (q_a_signs, .inl (cA, n_a_signs, .inl a_a_signs)), (q_a_lengths, .inl (cA, n_a_lengths, .inl a_a_lengths)), (q_a_limbs, .inl (cA, n_a_limbs, .inl a_a_limbs)), (q_b, .inr (0, [.int i0_b, .ref q_b_signs, .ref q_b_lengths, .ref q_b_limbs])), (q_b_signs, .inl (cA, n_b_signs, .inl a_b_signs)), (q_b_lengths, .inl (cA, n_b_lengths, .inl a_b_lengths)), (q_b_limbs, .inl (cA, n_b_limbs, .inl a_b_limbs))] H → va_D A [(q_t, .inr (1, [.int i0_t, .ref q_t_plus, .ref q_t_minus, .ref q_t_divisor, .int i4_t, .int i5_t])), (q_t_plus, .inl (cA, n_t_plus, .inl a_t_plus)), (q_t_minus, .inl (cA, n_t_minus, .inl a_t_minus)), (q_t_divisor, .inl (cA, n_t_divisor, .inl a_t_divisor)), (q_a, .inr (0, [.int i0_a, .ref q_a_signs, .ref q_a_lengths, .ref q_a_limbs])), (q_a_signs, .inl (cA, n_a_signs, .inl a_a_signs)), (q_a_lengths, .inl (cA, n_a_lengths, .inl a_a_lengths)), (q_a_limbs, .inl (cA, n_a_limbs, .inl a_a_limbs)), (q_b, .inr (0, [.int i0_b, .ref q_b_signs, .ref q_b_lengths, .ref q_b_limbs])), (q_b_signs, .inl (cA, n_b_signs, .inl a_b_signs)), (q_b_lengths, .inl (cA, n_b_lengths, .inl a_b_lengths)), (q_b_limbs, .inl (cA, n_b_limbs, .inl a_b_limbs))] → va_S A H0 H locs → ∀ ls : Array Slot, lv_has ls 9 [(1, .ref q_a), (2, .int v2), (3, .ref q_b), (4, .int v4), (7, .ref q_t_plus), (8, .int v8)] → ∀ (he : ∀ (H : Heap) (locs : List Loc), va_P (dC, dI) vwCl [(q_t, .inr (1, [.int i0_t, .ref q_t_plus, .ref q_t_minus, .ref q_t_divisor, .int i4_t, .int i5_t])), (q_t_plus, .inl (cA, n_t_plus, .inl o.2)), (q_t_minus, .inl (cA, n_t_minus, .inl a_t_minus)), (q_t_divisor, .inl (cA, n_t_divisor, .inl a_t_divisor)), (q_a, .inr (0, [.int i0_a, .ref q_a_signs, .ref q_a_lengths, .ref q_a_limbs])), (q_a_signs, .inl (cA, n_a_signs, .inl a_a_signs)), (q_a_lengths, .inl (cA, n_a_lengths, .inl a_a_lengths)), (q_a_limbs, .inl (cA, n_a_limbs, .inl a_a_limbs)), (q_b, .inr (0, [.int i0_b, .ref q_b_signs, .ref q_b_lengths, .ref q_b_limbs])), (q_b_signs, .inl (cA, n_b_signs, .inl a_b_signs)), (q_b_lengths, .inl (cA, n_b_lengths, .inl a_b_lengths)), (q_b_limbs, .inl (cA, n_b_limbs, .inl a_b_limbs))] H → va_D A [(q_t, .inr (1, [.int i0_t, .ref q_t_plus, .ref q_t_minus, .ref q_t_divisor, .int i4_t, .int i5_t])), (q_t_plus, .inl (cA, n_t_plus, .inl o.2)), (q_t_minus, .inl (cA, n_t_minus, .inl a_t_minus)), (q_t_divisor, .inl (cA, n_t_divisor, .inl a_t_divisor)), (q_a, .inr (0, [.int i0_a, .ref q_a_signs, .ref q_a_lengths, .ref q_a_limbs])), (q_a_signs, .inl (cA, n_a_signs, .inl a_a_signs)), (q_a_lengths, .inl (cA, n_a_lengths, .inl a_a_lengths)), (q_a_limbs, .inl (cA, n_a_limbs, .inl a_a_limbs)), (q_b, .inr (0, [.int i0_b, .ref q_b_signs, .ref q_b_lengths, .ref q_b_limbs])), (q_b_signs, .inl (cA, n_b_signs, .inl a_b_signs)), (q_b_lengths, .inl (cA, n_b_lengths, .inl a_b_lengths)), (q_b_limbs, .inl (cA, n_b_limbs, .inl a_b_limbs))] → va_S A H0 H locs → ∀ ls : Array Slot, lv_has ls 9 [] → W p l e rm_S_addProduct s m args below meth c H locs 0 0 Q (F0 m 78 ls [])), W p l e rm_S_addProduct s m args below meth c H locs 0 0 Q (F0 m 44 ls []) := by
  intro j
  induction j with
  | zero =>
    intro v8 a_t_plus o hf
    rw [f_S_addProduct_L44b] at hf
    cases hf
  | succ j ih =>
    intro v8 a_t_plus o hf H locs hP hD hS ls hl he
    rw [f_S_addProduct_L44b] at hf
    refine lv_iload hx hb dX1_addProduct_44 (lv_at hl 5 rfl) ?_
    refine lv_aload_n hx hb dX1_addProduct_46 rfl (lv_at hl 0 rfl) ?_
    refine lv_iload_n hx hb dX1_addProduct_47 rfl (lv_at hl 1 rfl) ?_
    obtain ⟨x44, g45, hf⟩ := og_b hf
    refine kc_i (wr := [(q_t, .inr (1, [.int i0_t, .ref q_t_plus, .ref q_t_minus, .ref q_t_divisor, .int i4_t, .int i5_t])), (q_t_plus, .inl (cA, n_t_plus, .inl a_t_plus)), (q_t_minus, .inl (cA, n_t_minus, .inl a_t_minus)), (q_t_divisor, .inl (cA, n_t_divisor, .inl a_t_divisor)), (q_b, .inr (0, [.int i0_b, .ref q_b_signs, .ref q_b_lengths, .ref q_b_limbs])), (q_b_signs, .inl (cA, n_b_signs, .inl a_b_signs)), (q_b_lengths, .inl (cA, n_b_lengths, .inl a_b_lengths)), (q_b_limbs, .inl (cA, n_b_limbs, .inl a_b_limbs))]) (w1 := [(q_a, .inr (0, [.int i0_a, .ref q_a_signs, .ref q_a_lengths, .ref q_a_limbs])), (q_a_signs, .inl (cA, n_a_signs, .inl a_a_signs)), (q_a_lengths, .inl (cA, n_a_lengths, .inl a_a_lengths)), (q_a_limbs, .inl (cA, n_a_limbs, .inl a_a_limbs))]) [4, 5, 6, 7] [0, 1, 2, 3, 8, 9, 10, 11] (va_runV (As := [.int v2]) (rest := [.int v8]) ⟨hx, hb, hml, hown, hts⟩ (c_N_lengthOf l dC dI cA H.size q_a q_a_signs q_a_lengths q_a_limbs i0_a n_a_signs a_a_signs n_a_lengths a_a_lengths n_a_limbs a_a_limbs v2 x44 g45) (cwV 1 hts gX1_addProduct_X0_lengthOf rfl rfl rfl (by decide +kernel) ⟨Nat.le_of_ble_eq_true rfl, Nat.le_of_ble_eq_true rfl⟩) (kc_preV hP hD hK [4, 5, 6, 7] rfl rfl (by decide) (ci := 0) (q0 := 4) rfl rfl) rfl rfl hl.1 rfl (lv_room (Nat.le_of_ble_eq_true rfl)) dX1_addProduct_48 ⟨Nat.le_of_ble_eq_true rfl, Nat.le_of_ble_eq_true rfl⟩) hP hD hS hA rfl rfl (by decide) (by decide) (fun H locs hP hD hS => ?_)
    have hP : va_P (dC, dI) vwCl [(q_t, .inr (1, [.int i0_t, .ref q_t_plus, .ref q_t_minus, .ref q_t_divisor, .int i4_t, .int i5_t])), (q_t_plus, .inl (cA, n_t_plus, .inl a_t_plus)), (q_t_minus, .inl (cA, n_t_minus, .inl a_t_minus)), (q_t_divisor, .inl (cA, n_t_divisor, .inl a_t_divisor)), (q_b, .inr (0, [.int i0_b, .ref q_b_signs, .ref q_b_lengths, .ref q_b_limbs])), (q_b_signs, .inl (cA, n_b_signs, .inl a_b_signs)), (q_b_lengths, .inl (cA, n_b_lengths, .inl a_b_lengths)), (q_b_limbs, .inl (cA, n_b_limbs, .inl a_b_limbs)), (q_a, .inr (0, [.int i0_a, .ref q_a_signs, .ref q_a_lengths, .ref q_a_limbs])), (q_a_signs, .inl (cA, n_a_signs, .inl a_a_signs)), (q_a_lengths, .inl (cA, n_a_lengths, .inl a_a_lengths)), (q_a_limbs, .inl (cA, n_a_limbs, .inl a_a_limbs))] H := hP
    have hD : va_D A [(q_t, .inr (1, [.int i0_t, .ref q_t_plus, .ref q_t_minus, .ref q_t_divisor, .int i4_t, .int i5_t])), (q_t_plus, .inl (cA, n_t_plus, .inl a_t_plus)), (q_t_minus, .inl (cA, n_t_minus, .inl a_t_minus)), (q_t_divisor, .inl (cA, n_t_divisor, .inl a_t_divisor)), (q_b, .inr (0, [.int i0_b, .ref q_b_signs, .ref q_b_lengths, .ref q_b_limbs])), (q_b_signs, .inl (cA, n_b_signs, .inl a_b_signs)), (q_b_lengths, .inl (cA, n_b_lengths, .inl a_b_lengths)), (q_b_limbs, .inl (cA, n_b_limbs, .inl a_b_limbs)), (q_a, .inr (0, [.int i0_a, .ref q_a_signs, .ref q_a_lengths, .ref q_a_limbs])), (q_a_signs, .inl (cA, n_a_signs, .inl a_a_signs)), (q_a_lengths, .inl (cA, n_a_lengths, .inl a_a_lengths)), (q_a_limbs, .inl (cA, n_a_limbs, .inl a_a_limbs))] := hD
    refine lv_icmp_ge (tgt := 78) hx hb dX1_addProduct_51 (by decide) (fun c46 => ?_) (fun c46 => ?_)
    · have hf := og_t c46 hf
      have e9 := Option.some.inj hf
      subst e9
      exact he _ _ (hP.sub [0, 1, 2, 3, 8, 9, 10, 11, 4, 5, 6, 7] rfl) (hD.sub [0, 1, 2, 3, 8, 9, 10, 11, 4, 5, 6, 7] (by decide) rfl) hS _ (lv_sub hl [] rfl)
    · have hf := og_f c46 hf
      refine lv_aload hx hb dX1_addProduct_54 (lv_at hl 4 rfl) ?_
      refine lv_iload hx hb dX1_addProduct_56 (lv_at hl 5 rfl) ?_
      refine lv_aload_n hx hb dX1_addProduct_58 rfl (lv_at hl 2 rfl) ?_
      refine lv_iload hx hb dX1_addProduct_59 (lv_at hl 3 rfl) ?_
      refine lv_aload_n hx hb dX1_addProduct_61 rfl (lv_at hl 0 rfl) ?_
      refine lv_iload_n hx hb dX1_addProduct_62 rfl (lv_at hl 1 rfl) ?_
      refine lv_iload hx hb dX1_addProduct_63 (lv_at hl 5 rfl) ?_
      obtain ⟨x47, g48, hf⟩ := og_b hf
      refine kc_i (wr := [(q_t, .inr (1, [.int i0_t, .ref q_t_plus, .ref q_t_minus, .ref q_t_divisor, .int i4_t, .int i5_t])), (q_t_plus, .inl (cA, n_t_plus, .inl a_t_plus)), (q_t_minus, .inl (cA, n_t_minus, .inl a_t_minus)), (q_t_divisor, .inl (cA, n_t_divisor, .inl a_t_divisor)), (q_b, .inr (0, [.int i0_b, .ref q_b_signs, .ref q_b_lengths, .ref q_b_limbs])), (q_b_signs, .inl (cA, n_b_signs, .inl a_b_signs)), (q_b_lengths, .inl (cA, n_b_lengths, .inl a_b_lengths)), (q_b_limbs, .inl (cA, n_b_limbs, .inl a_b_limbs))]) (w1 := [(q_a, .inr (0, [.int i0_a, .ref q_a_signs, .ref q_a_lengths, .ref q_a_limbs])), (q_a_signs, .inl (cA, n_a_signs, .inl a_a_signs)), (q_a_lengths, .inl (cA, n_a_lengths, .inl a_a_lengths)), (q_a_limbs, .inl (cA, n_a_limbs, .inl a_a_limbs))]) [8, 9, 10, 11] [0, 1, 2, 3, 4, 5, 6, 7] (va_runV (As := [.int v2, .int v8]) (rest := [.int v4, .ref q_b, .int v8, .ref q_t_plus]) ⟨hx, hb, hml, hown, hts⟩ (c_N_limbOf l dC dI cA H.size q_a q_a_signs q_a_lengths q_a_limbs i0_a n_a_signs a_a_signs n_a_lengths a_a_lengths n_a_limbs a_a_limbs v2 v8 x47 g48) (cwV 2 hts gX1_addProduct_X0_limbOf rfl rfl rfl (by decide +kernel) ⟨Nat.le_of_ble_eq_true rfl, Nat.le_of_ble_eq_true rfl⟩) (kc_preV hP hD hK [8, 9, 10, 11] rfl rfl (by decide) (ci := 0) (q0 := 8) rfl rfl) rfl rfl hl.1 rfl (lv_room (Nat.le_of_ble_eq_true rfl)) dX1_addProduct_65 ⟨Nat.le_of_ble_eq_true rfl, Nat.le_of_ble_eq_true rfl⟩) hP hD hS hA rfl rfl (by decide) (by decide) (fun H locs hP hD hS => ?_)
      have hP : va_P (dC, dI) vwCl [(q_t, .inr (1, [.int i0_t, .ref q_t_plus, .ref q_t_minus, .ref q_t_divisor, .int i4_t, .int i5_t])), (q_t_plus, .inl (cA, n_t_plus, .inl a_t_plus)), (q_t_minus, .inl (cA, n_t_minus, .inl a_t_minus)), (q_t_divisor, .inl (cA, n_t_divisor, .inl a_t_divisor)), (q_b, .inr (0, [.int i0_b, .ref q_b_signs, .ref q_b_lengths, .ref q_b_limbs])), (q_b_signs, .inl (cA, n_b_signs, .inl a_b_signs)), (q_b_lengths, .inl (cA, n_b_lengths, .inl a_b_lengths)), (q_b_limbs, .inl (cA, n_b_limbs, .inl a_b_limbs)), (q_a, .inr (0, [.int i0_a, .ref q_a_signs, .ref q_a_lengths, .ref q_a_limbs])), (q_a_signs, .inl (cA, n_a_signs, .inl a_a_signs)), (q_a_lengths, .inl (cA, n_a_lengths, .inl a_a_lengths)), (q_a_limbs, .inl (cA, n_a_limbs, .inl a_a_limbs))] H := hP
      have hD : va_D A [(q_t, .inr (1, [.int i0_t, .ref q_t_plus, .ref q_t_minus, .ref q_t_divisor, .int i4_t, .int i5_t])), (q_t_plus, .inl (cA, n_t_plus, .inl a_t_plus)), (q_t_minus, .inl (cA, n_t_minus, .inl a_t_minus)), (q_t_divisor, .inl (cA, n_t_divisor, .inl a_t_divisor)), (q_b, .inr (0, [.int i0_b, .ref q_b_signs, .ref q_b_lengths, .ref q_b_limbs])), (q_b_signs, .inl (cA, n_b_signs, .inl a_b_signs)), (q_b_lengths, .inl (cA, n_b_lengths, .inl a_b_lengths)), (q_b_limbs, .inl (cA, n_b_limbs, .inl a_b_limbs)), (q_a, .inr (0, [.int i0_a, .ref q_a_signs, .ref q_a_lengths, .ref q_a_limbs])), (q_a_signs, .inl (cA, n_a_signs, .inl a_a_signs)), (q_a_lengths, .inl (cA, n_a_lengths, .inl a_a_lengths)), (q_a_limbs, .inl (cA, n_a_limbs, .inl a_a_limbs))] := hD
      refine lv_i2l (v := x47.toInt64) hx hb dX1_addProduct_68 rfl ?_
      obtain ⟨x49, g50, hf⟩ := og_b hf
      refine kc_v (wr := [(q_t, .inr (1, [.int i0_t, .ref q_t_plus, .ref q_t_minus, .ref q_t_divisor, .int i4_t, .int i5_t])), (q_t_minus, .inl (cA, n_t_minus, .inl a_t_minus)), (q_t_divisor, .inl (cA, n_t_divisor, .inl a_t_divisor)), (q_a, .inr (0, [.int i0_a, .ref q_a_signs, .ref q_a_lengths, .ref q_a_limbs])), (q_a_signs, .inl (cA, n_a_signs, .inl a_a_signs)), (q_a_lengths, .inl (cA, n_a_lengths, .inl a_a_lengths)), (q_a_limbs, .inl (cA, n_a_limbs, .inl a_a_limbs))]) (w1 := [(q_t_plus, .inl (cA, n_t_plus, .inl x49)), (q_b, .inr (0, [.int i0_b, .ref q_b_signs, .ref q_b_lengths, .ref q_b_limbs])), (q_b_signs, .inl (cA, n_b_signs, .inl a_b_signs)), (q_b_lengths, .inl (cA, n_b_lengths, .inl a_b_lengths)), (q_b_limbs, .inl (cA, n_b_limbs, .inl a_b_limbs))]) [1, 4, 5, 6, 7] [0, 2, 3, 8, 9, 10, 11] (va_runS (As := [.ref q_t_plus, .int v8, .ref q_b, .int v4, .long x47.toInt64]) (rest := []) ⟨hx, hb, hml, hown, hts⟩ (c_S_addMultiple l dC dI cA H.size q_t_plus q_b q_b_signs q_b_lengths q_b_limbs k n_t_plus a_t_plus v8 i0_b n_b_signs a_b_signs n_b_lengths a_b_lengths n_b_limbs a_b_limbs v4 x47.toInt64 x49 g50) (va_cwS 5 hts gX1_addProduct_X1_addMultiple rfl rfl rfl (by decide +kernel) ⟨Nat.le_of_ble_eq_true rfl, Nat.le_of_ble_eq_true rfl⟩) (kc_preS hP hD hK [1, 4, 5, 6, 7] rfl rfl (by decide)) rfl rfl hl.1 rfl (lv_room (Nat.le_of_ble_eq_true rfl)) dX1_addProduct_69 ⟨Nat.le_of_ble_eq_true rfl, Nat.le_of_ble_eq_true rfl⟩) hP hD hS hA rfl rfl (by decide) (by decide) (fun H locs hP hD hS => ?_)
      have hP : va_P (dC, dI) vwCl [(q_t, .inr (1, [.int i0_t, .ref q_t_plus, .ref q_t_minus, .ref q_t_divisor, .int i4_t, .int i5_t])), (q_t_minus, .inl (cA, n_t_minus, .inl a_t_minus)), (q_t_divisor, .inl (cA, n_t_divisor, .inl a_t_divisor)), (q_a, .inr (0, [.int i0_a, .ref q_a_signs, .ref q_a_lengths, .ref q_a_limbs])), (q_a_signs, .inl (cA, n_a_signs, .inl a_a_signs)), (q_a_lengths, .inl (cA, n_a_lengths, .inl a_a_lengths)), (q_a_limbs, .inl (cA, n_a_limbs, .inl a_a_limbs)), (q_t_plus, .inl (cA, n_t_plus, .inl x49)), (q_b, .inr (0, [.int i0_b, .ref q_b_signs, .ref q_b_lengths, .ref q_b_limbs])), (q_b_signs, .inl (cA, n_b_signs, .inl a_b_signs)), (q_b_lengths, .inl (cA, n_b_lengths, .inl a_b_lengths)), (q_b_limbs, .inl (cA, n_b_limbs, .inl a_b_limbs))] H := hP
      have hD : va_D A [(q_t, .inr (1, [.int i0_t, .ref q_t_plus, .ref q_t_minus, .ref q_t_divisor, .int i4_t, .int i5_t])), (q_t_minus, .inl (cA, n_t_minus, .inl a_t_minus)), (q_t_divisor, .inl (cA, n_t_divisor, .inl a_t_divisor)), (q_a, .inr (0, [.int i0_a, .ref q_a_signs, .ref q_a_lengths, .ref q_a_limbs])), (q_a_signs, .inl (cA, n_a_signs, .inl a_a_signs)), (q_a_lengths, .inl (cA, n_a_lengths, .inl a_a_lengths)), (q_a_limbs, .inl (cA, n_a_limbs, .inl a_a_limbs)), (q_t_plus, .inl (cA, n_t_plus, .inl x49)), (q_b, .inr (0, [.int i0_b, .ref q_b_signs, .ref q_b_lengths, .ref q_b_limbs])), (q_b_signs, .inl (cA, n_b_signs, .inl a_b_signs)), (q_b_lengths, .inl (cA, n_b_lengths, .inl a_b_lengths)), (q_b_limbs, .inl (cA, n_b_limbs, .inl a_b_limbs))] := hD
      refine lv_iinc (v := v8 + 1) (lv' := [(8, .int (v8 + 1)), (1, .ref q_a), (2, .int v2), (3, .ref q_b), (4, .int v4), (7, .ref q_t_plus)]) hx hb dX1_addProduct_72 hl (k := 5) rfl rfl (by decide) rfl (fun ls hl => ?_)
      refine lv_goto (tgt := 44) hx hb dX1_addProduct_75 (by decide) ?_
      exact ih (v8 + 1) x49 _ hf _ _ (hP.sub [0, 7, 1, 2, 3, 4, 5, 6, 8, 9, 10, 11] rfl) (hD.sub [0, 7, 1, 2, 3, 4, 5, 6, 8, 9, 10, 11] (by decide) rfl) hS _ (lv_sub hl [1, 2, 3, 4, 5, 0] rfl) he
set_option maxHeartbeats 4000000 in
set_option maxRecDepth 100000 in
theorem c_S_addProduct (l : Launch) (dC : Nat → ClassId) (dI : Nat → Nat → Nat) (cA : ClassId) (sz : Nat) (q_t : Nat) (q_t_plus : Nat) (q_t_minus : Nat) (q_t_divisor : Nat) (q_a : Nat) (q_a_signs : Nat) (q_a_lengths : Nat) (q_a_limbs : Nat) (q_b : Nat) (q_b_signs : Nat) (q_b_lengths : Nat) (q_b_limbs : Nat) (k : Nat) (t_room : Int32) (t_sign : Int32) (t_length : Int32) (n_t_plus : Nat) (a_t_plus : Nat → Int32) (n_t_minus : Nat) (a_t_minus : Nat → Int32) (n_t_divisor : Nat) (a_t_divisor : Nat → Int32) (a_room : Int32) (n_a_signs : Nat) (a_a_signs : Nat → Int32) (n_a_lengths : Nat) (a_a_lengths : Nat → Int32) (n_a_limbs : Nat) (a_a_limbs : Nat → Int32) (slotA : Int32) (b_room : Int32) (n_b_signs : Nat) (a_b_signs : Nat → Int32) (n_b_lengths : Nat) (a_b_lengths : Nat → Int32) (n_b_limbs : Nat) (a_b_limbs : Nat → Int32) (slotB : Int32) (factor : Int32) (o : (Nat → Int32) × (Nat → Int32)) (hf : f_S_addProduct k n_t_plus a_t_plus n_t_minus a_t_minus a_room n_a_signs a_a_signs n_a_lengths a_a_lengths n_a_limbs a_a_limbs slotA b_room n_b_signs a_b_signs n_b_lengths a_b_lengths n_b_limbs a_b_limbs slotB factor = some o) : Met l yX1_addProduct wsX1_addProduct rm_S_addProduct (c_Pre (dC, dI) vwCl [(cA, .int)] [(q_t, .inr (1, [.int t_room, .ref q_t_plus, .ref q_t_minus, .ref q_t_divisor, .int t_sign, .int t_length])), (q_t_plus, .inl (cA, n_t_plus, .inl a_t_plus)), (q_t_minus, .inl (cA, n_t_minus, .inl a_t_minus)), (q_t_divisor, .inl (cA, n_t_divisor, .inl a_t_divisor)), (q_a, .inr (0, [.int a_room, .ref q_a_signs, .ref q_a_lengths, .ref q_a_limbs])), (q_a_signs, .inl (cA, n_a_signs, .inl a_a_signs)), (q_a_lengths, .inl (cA, n_a_lengths, .inl a_a_lengths)), (q_a_limbs, .inl (cA, n_a_limbs, .inl a_a_limbs)), (q_b, .inr (0, [.int b_room, .ref q_b_signs, .ref q_b_lengths, .ref q_b_limbs])), (q_b_signs, .inl (cA, n_b_signs, .inl a_b_signs)), (q_b_lengths, .inl (cA, n_b_lengths, .inl a_b_lengths)), (q_b_limbs, .inl (cA, n_b_limbs, .inl a_b_limbs))] sz [.ref q_t, .ref q_a, .int slotA, .ref q_b, .int slotB, .int factor]) (c_Qv (dC, dI) vwCl [(cA, .int)] [(q_t, .inr (1, [.int t_room, .ref q_t_plus, .ref q_t_minus, .ref q_t_divisor, .int t_sign, .int t_length])), (q_t_plus, .inl (cA, n_t_plus, .inl o.1)), (q_t_minus, .inl (cA, n_t_minus, .inl o.2)), (q_t_divisor, .inl (cA, n_t_divisor, .inl a_t_divisor)), (q_a, .inr (0, [.int a_room, .ref q_a_signs, .ref q_a_lengths, .ref q_a_limbs])), (q_a_signs, .inl (cA, n_a_signs, .inl a_a_signs)), (q_a_lengths, .inl (cA, n_a_lengths, .inl a_a_lengths)), (q_a_limbs, .inl (cA, n_a_limbs, .inl a_a_limbs)), (q_b, .inr (0, [.int b_room, .ref q_b_signs, .ref q_b_lengths, .ref q_b_limbs])), (q_b_signs, .inl (cA, n_b_signs, .inl a_b_signs)), (q_b_lengths, .inl (cA, n_b_lengths, .inl a_b_lengths)), (q_b_limbs, .inl (cA, n_b_limbs, .inl a_b_limbs))] (va_A [(q_t, .inr (1, [.int t_room, .ref q_t_plus, .ref q_t_minus, .ref q_t_divisor, .int t_sign, .int t_length])), (q_t_plus, .inl (cA, n_t_plus, .inl a_t_plus)), (q_t_minus, .inl (cA, n_t_minus, .inl a_t_minus)), (q_t_divisor, .inl (cA, n_t_divisor, .inl a_t_divisor)), (q_a, .inr (0, [.int a_room, .ref q_a_signs, .ref q_a_lengths, .ref q_a_limbs])), (q_a_signs, .inl (cA, n_a_signs, .inl a_a_signs)), (q_a_lengths, .inl (cA, n_a_lengths, .inl a_a_lengths)), (q_a_limbs, .inl (cA, n_a_limbs, .inl a_a_limbs)), (q_b, .inr (0, [.int b_room, .ref q_b_signs, .ref q_b_lengths, .ref q_b_limbs])), (q_b_signs, .inl (cA, n_b_signs, .inl a_b_signs)), (q_b_lengths, .inl (cA, n_b_lengths, .inl a_b_lengths)), (q_b_limbs, .inl (cA, n_b_limbs, .inl a_b_limbs))] sz)) 0 0 (va_A [(q_t, .inr (1, [.int t_room, .ref q_t_plus, .ref q_t_minus, .ref q_t_divisor, .int t_sign, .int t_length])), (q_t_plus, .inl (cA, n_t_plus, .inl a_t_plus)), (q_t_minus, .inl (cA, n_t_minus, .inl a_t_minus)), (q_t_divisor, .inl (cA, n_t_divisor, .inl a_t_divisor)), (q_a, .inr (0, [.int a_room, .ref q_a_signs, .ref q_a_lengths, .ref q_a_limbs])), (q_a_signs, .inl (cA, n_a_signs, .inl a_a_signs)), (q_a_lengths, .inl (cA, n_a_lengths, .inl a_a_lengths)), (q_a_limbs, .inl (cA, n_a_limbs, .inl a_a_limbs)), (q_b, .inr (0, [.int b_room, .ref q_b_signs, .ref q_b_lengths, .ref q_b_limbs])), (q_b_signs, .inl (cA, n_b_signs, .inl a_b_signs)), (q_b_lengths, .inl (cA, n_b_lengths, .inl a_b_lengths)), (q_b_limbs, .inl (cA, n_b_limbs, .inl a_b_limbs))] sz) := by
  unfold f_S_addProduct at hf
  refine k_ent (Qc := fun A => c_Qv (dC, dI) vwCl [(cA, .int)] [(q_t, .inr (1, [.int t_room, .ref q_t_plus, .ref q_t_minus, .ref q_t_divisor, .int t_sign, .int t_length])), (q_t_plus, .inl (cA, n_t_plus, .inl o.1)), (q_t_minus, .inl (cA, n_t_minus, .inl o.2)), (q_t_divisor, .inl (cA, n_t_divisor, .inl a_t_divisor)), (q_a, .inr (0, [.int a_room, .ref q_a_signs, .ref q_a_lengths, .ref q_a_limbs])), (q_a_signs, .inl (cA, n_a_signs, .inl a_a_signs)), (q_a_lengths, .inl (cA, n_a_lengths, .inl a_a_lengths)), (q_a_limbs, .inl (cA, n_a_limbs, .inl a_a_limbs)), (q_b, .inr (0, [.int b_room, .ref q_b_signs, .ref q_b_lengths, .ref q_b_limbs])), (q_b_signs, .inl (cA, n_b_signs, .inl a_b_signs)), (q_b_lengths, .inl (cA, n_b_lengths, .inl a_b_lengths)), (q_b_limbs, .inl (cA, n_b_limbs, .inl a_b_limbs))] A) (by decide) rfl (Nat.le_of_ble_eq_true rfl) ?_
  intro p e s m below meth c A hx hb hr hown hts hml hlocks hin hsz hA hK H locs hP hD hS ls hl
  have hown : s.vm.findClass RX1 = some m.cls := hown
  have hl : lv_has ls 9 [(0, .ref q_t), (1, .ref q_a), (2, .int slotA), (3, .ref q_b), (4, .int slotB), (5, .int factor)] := hl
  refine lv_aload_n hx hb dX1_addProduct_0 rfl (lv_at hl 1 rfl) ?_
  refine lv_iload_n hx hb dX1_addProduct_1 rfl (lv_at hl 2 rfl) ?_
  obtain ⟨x1, g2, hf⟩ := og_b hf
  refine kc_i (wr := [(q_t, .inr (1, [.int t_room, .ref q_t_plus, .ref q_t_minus, .ref q_t_divisor, .int t_sign, .int t_length])), (q_t_plus, .inl (cA, n_t_plus, .inl a_t_plus)), (q_t_minus, .inl (cA, n_t_minus, .inl a_t_minus)), (q_t_divisor, .inl (cA, n_t_divisor, .inl a_t_divisor)), (q_b, .inr (0, [.int b_room, .ref q_b_signs, .ref q_b_lengths, .ref q_b_limbs])), (q_b_signs, .inl (cA, n_b_signs, .inl a_b_signs)), (q_b_lengths, .inl (cA, n_b_lengths, .inl a_b_lengths)), (q_b_limbs, .inl (cA, n_b_limbs, .inl a_b_limbs))]) (w1 := [(q_a, .inr (0, [.int a_room, .ref q_a_signs, .ref q_a_lengths, .ref q_a_limbs])), (q_a_signs, .inl (cA, n_a_signs, .inl a_a_signs)), (q_a_lengths, .inl (cA, n_a_lengths, .inl a_a_lengths)), (q_a_limbs, .inl (cA, n_a_limbs, .inl a_a_limbs))]) [4, 5, 6, 7] [0, 1, 2, 3, 8, 9, 10, 11] (va_runV (As := [.int slotA]) (rest := []) ⟨hx, hb, hml, hown, hts⟩ (c_N_signOf l dC dI cA H.size q_a q_a_signs q_a_lengths q_a_limbs a_room n_a_signs a_a_signs n_a_lengths a_a_lengths n_a_limbs a_a_limbs slotA x1 g2) (cwV 1 hts gX1_addProduct_X0_signOf rfl rfl rfl (by decide +kernel) ⟨Nat.le_of_ble_eq_true rfl, Nat.le_of_ble_eq_true rfl⟩) (kc_preV hP hD hK [4, 5, 6, 7] rfl rfl (by decide) (ci := 0) (q0 := 4) rfl rfl) rfl rfl hl.1 rfl (lv_room (Nat.le_of_ble_eq_true rfl)) dX1_addProduct_2 ⟨Nat.le_of_ble_eq_true rfl, Nat.le_of_ble_eq_true rfl⟩) hP hD hS hA rfl rfl (by decide) (by decide) (fun H locs hP hD hS => ?_)
  have hP : va_P (dC, dI) vwCl [(q_t, .inr (1, [.int t_room, .ref q_t_plus, .ref q_t_minus, .ref q_t_divisor, .int t_sign, .int t_length])), (q_t_plus, .inl (cA, n_t_plus, .inl a_t_plus)), (q_t_minus, .inl (cA, n_t_minus, .inl a_t_minus)), (q_t_divisor, .inl (cA, n_t_divisor, .inl a_t_divisor)), (q_b, .inr (0, [.int b_room, .ref q_b_signs, .ref q_b_lengths, .ref q_b_limbs])), (q_b_signs, .inl (cA, n_b_signs, .inl a_b_signs)), (q_b_lengths, .inl (cA, n_b_lengths, .inl a_b_lengths)), (q_b_limbs, .inl (cA, n_b_limbs, .inl a_b_limbs)), (q_a, .inr (0, [.int a_room, .ref q_a_signs, .ref q_a_lengths, .ref q_a_limbs])), (q_a_signs, .inl (cA, n_a_signs, .inl a_a_signs)), (q_a_lengths, .inl (cA, n_a_lengths, .inl a_a_lengths)), (q_a_limbs, .inl (cA, n_a_limbs, .inl a_a_limbs))] H := hP
  have hD : va_D A [(q_t, .inr (1, [.int t_room, .ref q_t_plus, .ref q_t_minus, .ref q_t_divisor, .int t_sign, .int t_length])), (q_t_plus, .inl (cA, n_t_plus, .inl a_t_plus)), (q_t_minus, .inl (cA, n_t_minus, .inl a_t_minus)), (q_t_divisor, .inl (cA, n_t_divisor, .inl a_t_divisor)), (q_b, .inr (0, [.int b_room, .ref q_b_signs, .ref q_b_lengths, .ref q_b_limbs])), (q_b_signs, .inl (cA, n_b_signs, .inl a_b_signs)), (q_b_lengths, .inl (cA, n_b_lengths, .inl a_b_lengths)), (q_b_limbs, .inl (cA, n_b_limbs, .inl a_b_limbs)), (q_a, .inr (0, [.int a_room, .ref q_a_signs, .ref q_a_lengths, .ref q_a_limbs])), (q_a_signs, .inl (cA, n_a_signs, .inl a_a_signs)), (q_a_lengths, .inl (cA, n_a_lengths, .inl a_a_lengths)), (q_a_limbs, .inl (cA, n_a_limbs, .inl a_a_limbs))] := hD
  refine lv_aload_n hx hb dX1_addProduct_5 rfl (lv_at hl 3 rfl) ?_
  refine lv_iload hx hb dX1_addProduct_6 (lv_at hl 4 rfl) ?_
  obtain ⟨x3, g4, hf⟩ := og_b hf
  refine kc_i (wr := [(q_t, .inr (1, [.int t_room, .ref q_t_plus, .ref q_t_minus, .ref q_t_divisor, .int t_sign, .int t_length])), (q_t_plus, .inl (cA, n_t_plus, .inl a_t_plus)), (q_t_minus, .inl (cA, n_t_minus, .inl a_t_minus)), (q_t_divisor, .inl (cA, n_t_divisor, .inl a_t_divisor)), (q_a, .inr (0, [.int a_room, .ref q_a_signs, .ref q_a_lengths, .ref q_a_limbs])), (q_a_signs, .inl (cA, n_a_signs, .inl a_a_signs)), (q_a_lengths, .inl (cA, n_a_lengths, .inl a_a_lengths)), (q_a_limbs, .inl (cA, n_a_limbs, .inl a_a_limbs))]) (w1 := [(q_b, .inr (0, [.int b_room, .ref q_b_signs, .ref q_b_lengths, .ref q_b_limbs])), (q_b_signs, .inl (cA, n_b_signs, .inl a_b_signs)), (q_b_lengths, .inl (cA, n_b_lengths, .inl a_b_lengths)), (q_b_limbs, .inl (cA, n_b_limbs, .inl a_b_limbs))]) [4, 5, 6, 7] [0, 1, 2, 3, 8, 9, 10, 11] (va_runV (As := [.int slotB]) (rest := [.int x1]) ⟨hx, hb, hml, hown, hts⟩ (c_N_signOf l dC dI cA H.size q_b q_b_signs q_b_lengths q_b_limbs b_room n_b_signs a_b_signs n_b_lengths a_b_lengths n_b_limbs a_b_limbs slotB x3 g4) (cwV 1 hts gX1_addProduct_X0_signOf rfl rfl rfl (by decide +kernel) ⟨Nat.le_of_ble_eq_true rfl, Nat.le_of_ble_eq_true rfl⟩) (kc_preV hP hD hK [4, 5, 6, 7] rfl rfl (by decide) (ci := 0) (q0 := 4) rfl rfl) rfl rfl hl.1 rfl (lv_room (Nat.le_of_ble_eq_true rfl)) dX1_addProduct_8 ⟨Nat.le_of_ble_eq_true rfl, Nat.le_of_ble_eq_true rfl⟩) hP hD hS hA rfl rfl (by decide) (by decide) (fun H locs hP hD hS => ?_)
  have hP : va_P (dC, dI) vwCl [(q_t, .inr (1, [.int t_room, .ref q_t_plus, .ref q_t_minus, .ref q_t_divisor, .int t_sign, .int t_length])), (q_t_plus, .inl (cA, n_t_plus, .inl a_t_plus)), (q_t_minus, .inl (cA, n_t_minus, .inl a_t_minus)), (q_t_divisor, .inl (cA, n_t_divisor, .inl a_t_divisor)), (q_a, .inr (0, [.int a_room, .ref q_a_signs, .ref q_a_lengths, .ref q_a_limbs])), (q_a_signs, .inl (cA, n_a_signs, .inl a_a_signs)), (q_a_lengths, .inl (cA, n_a_lengths, .inl a_a_lengths)), (q_a_limbs, .inl (cA, n_a_limbs, .inl a_a_limbs)), (q_b, .inr (0, [.int b_room, .ref q_b_signs, .ref q_b_lengths, .ref q_b_limbs])), (q_b_signs, .inl (cA, n_b_signs, .inl a_b_signs)), (q_b_lengths, .inl (cA, n_b_lengths, .inl a_b_lengths)), (q_b_limbs, .inl (cA, n_b_limbs, .inl a_b_limbs))] H := hP
  have hD : va_D A [(q_t, .inr (1, [.int t_room, .ref q_t_plus, .ref q_t_minus, .ref q_t_divisor, .int t_sign, .int t_length])), (q_t_plus, .inl (cA, n_t_plus, .inl a_t_plus)), (q_t_minus, .inl (cA, n_t_minus, .inl a_t_minus)), (q_t_divisor, .inl (cA, n_t_divisor, .inl a_t_divisor)), (q_a, .inr (0, [.int a_room, .ref q_a_signs, .ref q_a_lengths, .ref q_a_limbs])), (q_a_signs, .inl (cA, n_a_signs, .inl a_a_signs)), (q_a_lengths, .inl (cA, n_a_lengths, .inl a_a_lengths)), (q_a_limbs, .inl (cA, n_a_limbs, .inl a_a_limbs)), (q_b, .inr (0, [.int b_room, .ref q_b_signs, .ref q_b_lengths, .ref q_b_limbs])), (q_b_signs, .inl (cA, n_b_signs, .inl a_b_signs)), (q_b_lengths, .inl (cA, n_b_lengths, .inl a_b_lengths)), (q_b_limbs, .inl (cA, n_b_limbs, .inl a_b_limbs))] := hD
  refine lv_imul hx hb dX1_addProduct_11 ?_
  refine lv_iload hx hb dX1_addProduct_12 (lv_at hl 5 rfl) ?_
  refine lv_imul hx hb dX1_addProduct_14 ?_
  refine lv_istore (lv' := [(6, .int ((x1 * x3) * factor)), (0, .ref q_t), (1, .ref q_a), (2, .int slotA), (3, .ref q_b), (4, .int slotB), (5, .int factor)]) hx hb dX1_addProduct_15 hl (by decide) rfl (fun ls hl => ?_)
  refine lv_iload hx hb dX1_addProduct_17 (lv_at hl 0 rfl) ?_
  refine lv_if_ne (tgt := 23) hx hb dX1_addProduct_19 (by decide) (fun c5 => ?_) (fun c5 => ?_)
  · have hf := og_f c5 hf
    refine lv_iload hx hb dX1_addProduct_23 (lv_at hl 0 rfl) ?_
    refine lv_if_le (tgt := 35) hx hb dX1_addProduct_25 (by decide) (fun c6 => ?_) (fun c6 => ?_)
    · have hf := og_t c6 hf
      refine lv_aload_n hx hb dX1_addProduct_35 rfl (lv_at hl 1 rfl) ?_
      refine va_get (D := (dC, dI)) (ci := 1) (v := .ref q_t_minus) (C := RX1) (T := TX1) (N := 6) hx hb hts ki_S_addProduct_X1 hown hK hP 0 rfl rfl 2 (by decide) (hts (.fieldLink RX1 19 "MinorSteps$Sum" "minus" "[I") kw_S_addProduct_0) (fun _ h9 => h9) rfl dX1_addProduct_36 ?_
      refine lv_astore (lv' := [(7, .ref q_t_minus), (6, .int ((x1 * x3) * factor)), (0, .ref q_t), (1, .ref q_a), (2, .int slotA), (3, .ref q_b), (4, .int slotB), (5, .int factor)]) hx hb dX1_addProduct_39 hl (by decide) rfl (fun ls hl => ?_)
      refine lv_iconst (v := 0) hx hb dX1_addProduct_41 (by decide) ?_
      refine lv_istore (lv' := [(8, .int 0), (7, .ref q_t_minus), (6, .int ((x1 * x3) * factor)), (0, .ref q_t), (1, .ref q_a), (2, .int slotA), (3, .ref q_b), (4, .int slotB), (5, .int factor)]) hx hb dX1_addProduct_42 hl (by decide) rfl (fun ls hl => ?_)
      obtain ⟨x28, g29, hf⟩ := og_b hf
      refine w_S_addProduct_L44 hx hb hown hts hml hA hK k q_t q_t_plus q_t_minus q_t_divisor q_a q_a_signs q_a_lengths q_a_limbs q_b q_b_signs q_b_lengths q_b_limbs slotA slotB t_room t_sign t_length n_t_plus a_t_plus n_t_minus n_t_divisor a_t_divisor a_room n_a_signs a_a_signs n_a_lengths a_a_lengths n_a_limbs a_a_limbs b_room n_b_signs a_b_signs n_b_lengths a_b_lengths n_b_limbs a_b_limbs k (0 : Int32) a_t_minus _ g29 _ _ (hP.sub [0, 1, 2, 3, 4, 5, 6, 7, 8, 9, 10, 11] rfl) (hD.sub [0, 1, 2, 3, 4, 5, 6, 7, 8, 9, 10, 11] (by decide) rfl) hS _ (lv_sub hl [4, 5, 6, 7, 1, 0] rfl) ?_
      intro H locs hP hD hS ls hl
      have e9 := Option.some.inj hf
      subst e9
      exact kr_v hx hb hr hlocks hK hS (hP.sub [0, 1, 2, 3, 4, 5, 6, 7, 8, 9, 10, 11] rfl) (hD.sub [0, 1, 2, 3, 4, 5, 6, 7, 8, 9, 10, 11] (by decide) rfl) dX1_addProduct_78
    · have hf := og_f c6 hf
      refine lv_aload_n hx hb dX1_addProduct_28 rfl (lv_at hl 1 rfl) ?_
      refine va_get (D := (dC, dI)) (ci := 1) (v := .ref q_t_plus) (C := RX1) (T := TX1) (N := 6) hx hb hts ki_S_addProduct_X1 hown hK hP 0 rfl rfl 1 (by decide) (hts (.fieldLink RX1 15 "MinorSteps$Sum" "plus" "[I") kw_S_addProduct_1) (fun _ h9 => h9) rfl dX1_addProduct_29 ?_
      refine lv_goto (tgt := 39) hx hb dX1_addProduct_32 (by decide) ?_
      refine lv_astore (lv' := [(7, .ref q_t_plus), (6, .int ((x1 * x3) * factor)), (0, .ref q_t), (1, .ref q_a), (2, .int slotA), (3, .ref q_b), (4, .int slotB), (5, .int factor)]) hx hb dX1_addProduct_39 hl (by decide) rfl (fun ls hl => ?_)
      refine lv_iconst (v := 0) hx hb dX1_addProduct_41 (by decide) ?_
      refine lv_istore (lv' := [(8, .int 0), (7, .ref q_t_plus), (6, .int ((x1 * x3) * factor)), (0, .ref q_t), (1, .ref q_a), (2, .int slotA), (3, .ref q_b), (4, .int slotB), (5, .int factor)]) hx hb dX1_addProduct_42 hl (by decide) rfl (fun ls hl => ?_)
      obtain ⟨x51, g52, hf⟩ := og_b hf
      refine w_S_addProduct_L44b hx hb hown hts hml hA hK k q_t q_t_plus q_t_minus q_t_divisor q_a q_a_signs q_a_lengths q_a_limbs q_b q_b_signs q_b_lengths q_b_limbs slotA slotB t_room t_sign t_length n_t_plus n_t_minus a_t_minus n_t_divisor a_t_divisor a_room n_a_signs a_a_signs n_a_lengths a_a_lengths n_a_limbs a_a_limbs b_room n_b_signs a_b_signs n_b_lengths a_b_lengths n_b_limbs a_b_limbs k (0 : Int32) a_t_plus _ g52 _ _ (hP.sub [0, 1, 2, 3, 4, 5, 6, 7, 8, 9, 10, 11] rfl) (hD.sub [0, 1, 2, 3, 4, 5, 6, 7, 8, 9, 10, 11] (by decide) rfl) hS _ (lv_sub hl [4, 5, 6, 7, 1, 0] rfl) ?_
      intro H locs hP hD hS ls hl
      have e9 := Option.some.inj hf
      subst e9
      exact kr_v hx hb hr hlocks hK hS (hP.sub [0, 1, 2, 3, 4, 5, 6, 7, 8, 9, 10, 11] rfl) (hD.sub [0, 1, 2, 3, 4, 5, 6, 7, 8, 9, 10, 11] (by decide) rfl) dX1_addProduct_78
  · have hf := og_t c5 hf
    have e9 := Option.some.inj hf
    subst e9
    exact kr_v hx hb hr hlocks hK hS (hP.sub [0, 1, 2, 3, 4, 5, 6, 7, 8, 9, 10, 11] rfl) (hD.sub [0, 1, 2, 3, 4, 5, 6, 7, 8, 9, 10, 11] (by decide) rfl) dX1_addProduct_22
def rm_S_addProductSame : Room := { frames := 2, cells := 0, slots := 0, locals := 51 }
theorem kw_S_addProductSame_0 : (.fieldLink RX1 19 "MinorSteps$Sum" "minus" "[I" : Cond) ∈ wsX1_addProduct := by decide +kernel
theorem kw_S_addProductSame_1 : (.fieldLink RX1 15 "MinorSteps$Sum" "plus" "[I" : Cond) ∈ wsX1_addProduct := by decide +kernel
theorem ki_S_addProductSame_X1 : ∀ w ∈ u_ws RX1 TX1 6, w ∈ wsX1_addProduct := by decide +kernel
set_option maxHeartbeats 4000000 in
set_option maxRecDepth 100000 in
theorem w_S_addProductSame_L44 {p : Program} {l : Launch} {e : Env} {s : State} {m : MethodId} {args : Array Value} {below : List Frame} {meth : Method} {c : Code} {Q : State → Prop} {A : Nat → Prop} {H0 : Heap} {dC : Nat → ClassId} {dI : Nat → Nat → Nat} {cA : ClassId} (hx : p.tables.exec = Jvm.exec) (hb : c.code = cX1_addProduct) (hown : s.vm.findClass RX1 = some m.cls) (hts : ∀ w ∈ wsX1_addProduct, w.before args s = true) (hml : c.maxLocals = 9) (hA : ∀ q, H0.size ≤ q → A q) (hK : va_K (dC, dI) vwCl [(cA, .int)] s) (k : Nat) (q_t : Nat) (q_t_plus : Nat) (q_t_minus : Nat) (q_t_divisor : Nat) (q_a : Nat) (q_a_signs : Nat) (q_a_lengths : Nat) (q_a_limbs : Nat) (v2 : Int32) (v4 : Int32) (i0_t : Int32) (i4_t : Int32) (i5_t : Int32) (n_t_plus : Nat) (a_t_plus : Nat → Int32) (n_t_minus : Nat) (n_t_divisor : Nat) (a_t_divisor : Nat → Int32) (i0_a : Int32) (n_a_signs : Nat) (a_a_signs : Nat → Int32) (n_a_lengths : Nat) (a_a_lengths : Nat → Int32) (n_a_limbs : Nat) (a_a_limbs : Nat → Int32) : ∀ (j : Nat) (v8 : Int32) (a_t_minus : Nat → Int32) (o : Int32 × (Nat → Int32)), f_S_addProductSame_L44 k v2 v4 n_t_minus i0_a n_a_lengths a_a_lengths n_a_limbs a_a_limbs j v8 a_t_minus = some o → ∀ (H : Heap) (locs : List Loc), va_P (dC, dI) vwCl [(q_t, .inr (1, [.int i0_t, .ref q_t_plus, .ref q_t_minus, .ref q_t_divisor, .int i4_t, .int i5_t])), (q_t_plus, .inl (cA, n_t_plus, .inl a_t_plus)), (q_t_minus, .inl (cA, n_t_minus, .inl a_t_minus)), (q_t_divisor, .inl (cA, n_t_divisor, .inl a_t_divisor)), (q_a, .inr (0, [.int i0_a, .ref q_a_signs, .ref q_a_lengths, .ref q_a_limbs])), (q_a_signs, .inl (cA, n_a_signs, .inl a_a_signs)), (q_a_lengths, .inl (cA, n_a_lengths, .inl a_a_lengths)), (q_a_limbs, .inl (cA, n_a_limbs, .inl a_a_limbs))] H → va_D A [(q_t, .inr (1, [.int i0_t, .ref q_t_plus, .ref q_t_minus, .ref q_t_divisor, .int i4_t, .int i5_t])), (q_t_plus, .inl (cA, n_t_plus, .inl a_t_plus)), (q_t_minus, .inl (cA, n_t_minus, .inl a_t_minus)), (q_t_divisor, .inl (cA, n_t_divisor, .inl a_t_divisor)), (q_a, .inr (0, [.int i0_a, .ref q_a_signs, .ref q_a_lengths, .ref q_a_limbs])), (q_a_signs, .inl (cA, n_a_signs, .inl a_a_signs)), (q_a_lengths, .inl (cA, n_a_lengths, .inl a_a_lengths)), (q_a_limbs, .inl (cA, n_a_limbs, .inl a_a_limbs))] → va_S A H0 H locs → ∀ ls : Array Slot, lv_has ls 9 [(1, .ref q_a), (2, .int v2), (3, .ref q_a), (4, .int v4), (7, .ref q_t_minus), (8, .int v8)] → ∀ (he : ∀ (H : Heap) (locs : List Loc), va_P (dC, dI) vwCl [(q_t, .inr (1, [.int i0_t, .ref q_t_plus, .ref q_t_minus, .ref q_t_divisor, .int i4_t, .int i5_t])), (q_t_plus, .inl (cA, n_t_plus, .inl a_t_plus)), (q_t_minus, .inl (cA, n_t_minus, .inl o.2)), (q_t_divisor, .inl (cA, n_t_divisor, .inl a_t_divisor)), (q_a, .inr (0, [.int i0_a, .ref q_a_signs, .ref q_a_lengths, .ref q_a_limbs])), (q_a_signs, .inl (cA, n_a_signs, .inl a_a_signs)), (q_a_lengths, .inl (cA, n_a_lengths, .inl a_a_lengths)), (q_a_limbs, .inl (cA, n_a_limbs, .inl a_a_limbs))] H → va_D A [(q_t, .inr (1, [.int i0_t, .ref q_t_plus, .ref q_t_minus, .ref q_t_divisor, .int i4_t, .int i5_t])), (q_t_plus, .inl (cA, n_t_plus, .inl a_t_plus)), (q_t_minus, .inl (cA, n_t_minus, .inl o.2)), (q_t_divisor, .inl (cA, n_t_divisor, .inl a_t_divisor)), (q_a, .inr (0, [.int i0_a, .ref q_a_signs, .ref q_a_lengths, .ref q_a_limbs])), (q_a_signs, .inl (cA, n_a_signs, .inl a_a_signs)), (q_a_lengths, .inl (cA, n_a_lengths, .inl a_a_lengths)), (q_a_limbs, .inl (cA, n_a_limbs, .inl a_a_limbs))] → va_S A H0 H locs → ∀ ls : Array Slot, lv_has ls 9 [] → W p l e rm_S_addProductSame s m args below meth c H locs 0 0 Q (F0 m 78 ls [])), W p l e rm_S_addProductSame s m args below meth c H locs 0 0 Q (F0 m 44 ls []) := by
  intro j
  induction j with
  | zero =>
    intro v8 a_t_minus o hf
    rw [f_S_addProductSame_L44] at hf
    cases hf
  | succ j ih =>
    intro v8 a_t_minus o hf H locs hP hD hS ls hl he
    rw [f_S_addProductSame_L44] at hf
    refine lv_iload hx hb dX1_addProduct_44 (lv_at hl 5 rfl) ?_
    refine lv_aload_n hx hb dX1_addProduct_46 rfl (lv_at hl 0 rfl) ?_
    refine lv_iload_n hx hb dX1_addProduct_47 rfl (lv_at hl 1 rfl) ?_
    obtain ⟨x21, g22, hf⟩ := og_b hf
    refine kc_i (wr := [(q_t, .inr (1, [.int i0_t, .ref q_t_plus, .ref q_t_minus, .ref q_t_divisor, .int i4_t, .int i5_t])), (q_t_plus, .inl (cA, n_t_plus, .inl a_t_plus)), (q_t_minus, .inl (cA, n_t_minus, .inl a_t_minus)), (q_t_divisor, .inl (cA, n_t_divisor, .inl a_t_divisor))]) (w1 := [(q_a, .inr (0, [.int i0_a, .ref q_a_signs, .ref q_a_lengths, .ref q_a_limbs])), (q_a_signs, .inl (cA, n_a_signs, .inl a_a_signs)), (q_a_lengths, .inl (cA, n_a_lengths, .inl a_a_lengths)), (q_a_limbs, .inl (cA, n_a_limbs, .inl a_a_limbs))]) [4, 5, 6, 7] [0, 1, 2, 3] (va_runV (As := [.int v2]) (rest := [.int v8]) ⟨hx, hb, hml, hown, hts⟩ (c_N_lengthOf l dC dI cA H.size q_a q_a_signs q_a_lengths q_a_limbs i0_a n_a_signs a_a_signs n_a_lengths a_a_lengths n_a_limbs a_a_limbs v2 x21 g22) (cwV 1 hts gX1_addProduct_X0_lengthOf rfl rfl rfl (by decide +kernel) ⟨Nat.le_of_ble_eq_true rfl, Nat.le_of_ble_eq_true rfl⟩) (kc_preV hP hD hK [4, 5, 6, 7] rfl rfl (by decide) (ci := 0) (q0 := 4) rfl rfl) rfl rfl hl.1 rfl (lv_room (Nat.le_of_ble_eq_true rfl)) dX1_addProduct_48 ⟨Nat.le_of_ble_eq_true rfl, Nat.le_of_ble_eq_true rfl⟩) hP hD hS hA rfl rfl (by decide) (by decide) (fun H locs hP hD hS => ?_)
    have hP : va_P (dC, dI) vwCl [(q_t, .inr (1, [.int i0_t, .ref q_t_plus, .ref q_t_minus, .ref q_t_divisor, .int i4_t, .int i5_t])), (q_t_plus, .inl (cA, n_t_plus, .inl a_t_plus)), (q_t_minus, .inl (cA, n_t_minus, .inl a_t_minus)), (q_t_divisor, .inl (cA, n_t_divisor, .inl a_t_divisor)), (q_a, .inr (0, [.int i0_a, .ref q_a_signs, .ref q_a_lengths, .ref q_a_limbs])), (q_a_signs, .inl (cA, n_a_signs, .inl a_a_signs)), (q_a_lengths, .inl (cA, n_a_lengths, .inl a_a_lengths)), (q_a_limbs, .inl (cA, n_a_limbs, .inl a_a_limbs))] H := hP
    have hD : va_D A [(q_t, .inr (1, [.int i0_t, .ref q_t_plus, .ref q_t_minus, .ref q_t_divisor, .int i4_t, .int i5_t])), (q_t_plus, .inl (cA, n_t_plus, .inl a_t_plus)), (q_t_minus, .inl (cA, n_t_minus, .inl a_t_minus)), (q_t_divisor, .inl (cA, n_t_divisor, .inl a_t_divisor)), (q_a, .inr (0, [.int i0_a, .ref q_a_signs, .ref q_a_lengths, .ref q_a_limbs])), (q_a_signs, .inl (cA, n_a_signs, .inl a_a_signs)), (q_a_lengths, .inl (cA, n_a_lengths, .inl a_a_lengths)), (q_a_limbs, .inl (cA, n_a_limbs, .inl a_a_limbs))] := hD
    refine lv_icmp_ge (tgt := 78) hx hb dX1_addProduct_51 (by decide) (fun c23 => ?_) (fun c23 => ?_)
    · have hf := og_t c23 hf
      have e9 := Option.some.inj hf
      subst e9
      exact he _ _ (hP.sub [0, 1, 2, 3, 4, 5, 6, 7] rfl) (hD.sub [0, 1, 2, 3, 4, 5, 6, 7] (by decide) rfl) hS _ (lv_sub hl [] rfl)
    · have hf := og_f c23 hf
      refine lv_aload hx hb dX1_addProduct_54 (lv_at hl 4 rfl) ?_
      refine lv_iload hx hb dX1_addProduct_56 (lv_at hl 5 rfl) ?_
      refine lv_aload_n hx hb dX1_addProduct_58 rfl (lv_at hl 2 rfl) ?_
      refine lv_iload hx hb dX1_addProduct_59 (lv_at hl 3 rfl) ?_
      refine lv_aload_n hx hb dX1_addProduct_61 rfl (lv_at hl 0 rfl) ?_
      refine lv_iload_n hx hb dX1_addProduct_62 rfl (lv_at hl 1 rfl) ?_
      refine lv_iload hx hb dX1_addProduct_63 (lv_at hl 5 rfl) ?_
      obtain ⟨x24, g25, hf⟩ := og_b hf
      refine kc_i (wr := [(q_t, .inr (1, [.int i0_t, .ref q_t_plus, .ref q_t_minus, .ref q_t_divisor, .int i4_t, .int i5_t])), (q_t_plus, .inl (cA, n_t_plus, .inl a_t_plus)), (q_t_minus, .inl (cA, n_t_minus, .inl a_t_minus)), (q_t_divisor, .inl (cA, n_t_divisor, .inl a_t_divisor))]) (w1 := [(q_a, .inr (0, [.int i0_a, .ref q_a_signs, .ref q_a_lengths, .ref q_a_limbs])), (q_a_signs, .inl (cA, n_a_signs, .inl a_a_signs)), (q_a_lengths, .inl (cA, n_a_lengths, .inl a_a_lengths)), (q_a_limbs, .inl (cA, n_a_limbs, .inl a_a_limbs))]) [4, 5, 6, 7] [0, 1, 2, 3] (va_runV (As := [.int v2, .int v8]) (rest := [.int v4, .ref q_a, .int v8, .ref q_t_minus]) ⟨hx, hb, hml, hown, hts⟩ (c_N_limbOf l dC dI cA H.size q_a q_a_signs q_a_lengths q_a_limbs i0_a n_a_signs a_a_signs n_a_lengths a_a_lengths n_a_limbs a_a_limbs v2 v8 x24 g25) (cwV 2 hts gX1_addProduct_X0_limbOf rfl rfl rfl (by decide +kernel) ⟨Nat.le_of_ble_eq_true rfl, Nat.le_of_ble_eq_true rfl⟩) (kc_preV hP hD hK [4, 5, 6, 7] rfl rfl (by decide) (ci := 0) (q0 := 4) rfl rfl) rfl rfl hl.1 rfl (lv_room (Nat.le_of_ble_eq_true rfl)) dX1_addProduct_65 ⟨Nat.le_of_ble_eq_true rfl, Nat.le_of_ble_eq_true rfl⟩) hP hD hS hA rfl rfl (by decide) (by decide) (fun H locs hP hD hS => ?_)
      have hP : va_P (dC, dI) vwCl [(q_t, .inr (1, [.int i0_t, .ref q_t_plus, .ref q_t_minus, .ref q_t_divisor, .int i4_t, .int i5_t])), (q_t_plus, .inl (cA, n_t_plus, .inl a_t_plus)), (q_t_minus, .inl (cA, n_t_minus, .inl a_t_minus)), (q_t_divisor, .inl (cA, n_t_divisor, .inl a_t_divisor)), (q_a, .inr (0, [.int i0_a, .ref q_a_signs, .ref q_a_lengths, .ref q_a_limbs])), (q_a_signs, .inl (cA, n_a_signs, .inl a_a_signs)), (q_a_lengths, .inl (cA, n_a_lengths, .inl a_a_lengths)), (q_a_limbs, .inl (cA, n_a_limbs, .inl a_a_limbs))] H := hP
      have hD : va_D A [(q_t, .inr (1, [.int i0_t, .ref q_t_plus, .ref q_t_minus, .ref q_t_divisor, .int i4_t, .int i5_t])), (q_t_plus, .inl (cA, n_t_plus, .inl a_t_plus)), (q_t_minus, .inl (cA, n_t_minus, .inl a_t_minus)), (q_t_divisor, .inl (cA, n_t_divisor, .inl a_t_divisor)), (q_a, .inr (0, [.int i0_a, .ref q_a_signs, .ref q_a_lengths, .ref q_a_limbs])), (q_a_signs, .inl (cA, n_a_signs, .inl a_a_signs)), (q_a_lengths, .inl (cA, n_a_lengths, .inl a_a_lengths)), (q_a_limbs, .inl (cA, n_a_limbs, .inl a_a_limbs))] := hD
      refine lv_i2l (v := x24.toInt64) hx hb dX1_addProduct_68 rfl ?_
      obtain ⟨x26, g27, hf⟩ := og_b hf
      refine kc_v (wr := [(q_t, .inr (1, [.int i0_t, .ref q_t_plus, .ref q_t_minus, .ref q_t_divisor, .int i4_t, .int i5_t])), (q_t_plus, .inl (cA, n_t_plus, .inl a_t_plus)), (q_t_divisor, .inl (cA, n_t_divisor, .inl a_t_divisor))]) (w1 := [(q_t_minus, .inl (cA, n_t_minus, .inl x26)), (q_a, .inr (0, [.int i0_a, .ref q_a_signs, .ref q_a_lengths, .ref q_a_limbs])), (q_a_signs, .inl (cA, n_a_signs, .inl a_a_signs)), (q_a_lengths, .inl (cA, n_a_lengths, .inl a_a_lengths)), (q_a_limbs, .inl (cA, n_a_limbs, .inl a_a_limbs))]) [2, 4, 5, 6, 7] [0, 1, 3] (va_runS (As := [.ref q_t_minus, .int v8, .ref q_a, .int v4, .long x24.toInt64]) (rest := []) ⟨hx, hb, hml, hown, hts⟩ (c_S_addMultiple l dC dI cA H.size q_t_minus q_a q_a_signs q_a_lengths q_a_limbs k n_t_minus a_t_minus v8 i0_a n_a_signs a_a_signs n_a_lengths a_a_lengths n_a_limbs a_a_limbs v4 x24.toInt64 x26 g27) (va_cwS 5 hts gX1_addProduct_X1_addMultiple rfl rfl rfl (by decide +kernel) ⟨Nat.le_of_ble_eq_true rfl, Nat.le_of_ble_eq_true rfl⟩) (kc_preS hP hD hK [2, 4, 5, 6, 7] rfl rfl (by decide)) rfl rfl hl.1 rfl (lv_room (Nat.le_of_ble_eq_true rfl)) dX1_addProduct_69 ⟨Nat.le_of_ble_eq_true rfl, Nat.le_of_ble_eq_true rfl⟩) hP hD hS hA rfl rfl (by decide) (by decide) (fun H locs hP hD hS => ?_)
      have hP : va_P (dC, dI) vwCl [(q_t, .inr (1, [.int i0_t, .ref q_t_plus, .ref q_t_minus, .ref q_t_divisor, .int i4_t, .int i5_t])), (q_t_plus, .inl (cA, n_t_plus, .inl a_t_plus)), (q_t_divisor, .inl (cA, n_t_divisor, .inl a_t_divisor)), (q_t_minus, .inl (cA, n_t_minus, .inl x26)), (q_a, .inr (0, [.int i0_a, .ref q_a_signs, .ref q_a_lengths, .ref q_a_limbs])), (q_a_signs, .inl (cA, n_a_signs, .inl a_a_signs)), (q_a_lengths, .inl (cA, n_a_lengths, .inl a_a_lengths)), (q_a_limbs, .inl (cA, n_a_limbs, .inl a_a_limbs))] H := hP
      have hD : va_D A [(q_t, .inr (1, [.int i0_t, .ref q_t_plus, .ref q_t_minus, .ref q_t_divisor, .int i4_t, .int i5_t])), (q_t_plus, .inl (cA, n_t_plus, .inl a_t_plus)), (q_t_divisor, .inl (cA, n_t_divisor, .inl a_t_divisor)), (q_t_minus, .inl (cA, n_t_minus, .inl x26)), (q_a, .inr (0, [.int i0_a, .ref q_a_signs, .ref q_a_lengths, .ref q_a_limbs])), (q_a_signs, .inl (cA, n_a_signs, .inl a_a_signs)), (q_a_lengths, .inl (cA, n_a_lengths, .inl a_a_lengths)), (q_a_limbs, .inl (cA, n_a_limbs, .inl a_a_limbs))] := hD
      refine lv_iinc (v := v8 + 1) (lv' := [(8, .int (v8 + 1)), (1, .ref q_a), (2, .int v2), (3, .ref q_a), (4, .int v4), (7, .ref q_t_minus)]) hx hb dX1_addProduct_72 hl (k := 5) rfl rfl (by decide) rfl (fun ls hl => ?_)
      refine lv_goto (tgt := 44) hx hb dX1_addProduct_75 (by decide) ?_
      exact ih (v8 + 1) x26 _ hf _ _ (hP.sub [0, 1, 3, 2, 4, 5, 6, 7] rfl) (hD.sub [0, 1, 3, 2, 4, 5, 6, 7] (by decide) rfl) hS _ (lv_sub hl [1, 2, 3, 4, 5, 0] rfl) he
set_option maxHeartbeats 4000000 in
set_option maxRecDepth 100000 in
theorem w_S_addProductSame_L44b {p : Program} {l : Launch} {e : Env} {s : State} {m : MethodId} {args : Array Value} {below : List Frame} {meth : Method} {c : Code} {Q : State → Prop} {A : Nat → Prop} {H0 : Heap} {dC : Nat → ClassId} {dI : Nat → Nat → Nat} {cA : ClassId} (hx : p.tables.exec = Jvm.exec) (hb : c.code = cX1_addProduct) (hown : s.vm.findClass RX1 = some m.cls) (hts : ∀ w ∈ wsX1_addProduct, w.before args s = true) (hml : c.maxLocals = 9) (hA : ∀ q, H0.size ≤ q → A q) (hK : va_K (dC, dI) vwCl [(cA, .int)] s) (k : Nat) (q_t : Nat) (q_t_plus : Nat) (q_t_minus : Nat) (q_t_divisor : Nat) (q_a : Nat) (q_a_signs : Nat) (q_a_lengths : Nat) (q_a_limbs : Nat) (v2 : Int32) (v4 : Int32) (i0_t : Int32) (i4_t : Int32) (i5_t : Int32) (n_t_plus : Nat) (n_t_minus : Nat) (a_t_minus : Nat → Int32) (n_t_divisor : Nat) (a_t_divisor : Nat → Int32) (i0_a : Int32) (n_a_signs : Nat) (a_a_signs : Nat → Int32) (n_a_lengths : Nat) (a_a_lengths : Nat → Int32) (n_a_limbs : Nat) (a_a_limbs : Nat → Int32) : ∀ (j : Nat) (v8 : Int32) (a_t_plus : Nat → Int32) (o : Int32 × (Nat → Int32)), f_S_addProductSame_L44b k v2 v4 n_t_plus i0_a n_a_lengths a_a_lengths n_a_limbs a_a_limbs j v8 a_t_plus = some o → ∀ (H : Heap) (locs : List Loc), va_P (dC, dI) vwCl [(q_t, .inr (1, [.int i0_t, .ref q_t_plus, .ref q_t_minus, .ref q_t_divisor, .int i4_t, .int i5_t])), (q_t_plus, .inl (cA, n_t_plus, .inl a_t_plus)), (q_t_minus, .inl (cA, n_t_minus, .inl a_t_minus)), (q_t_divisor, .inl (cA, n_t_divisor, .inl a_t_divisor)), (q_a, .inr (0, [.int i0_a, .ref q_a_signs, .ref q_a_lengths, .ref q_a_limbs])), (q_a_signs, .inl (cA, n_a_signs, .inl a_a_signs)), (q_a_lengths, .inl (cA, n_a_lengths, .inl a_a_lengths)), (q_a_limbs, .inl (cA, n_a_limbs, .inl a_a_limbs))] H → va_D A [(q_t, .inr (1, [.int i0_t, .ref q_t_plus, .ref q_t_minus, .ref q_t_divisor, .int i4_t, .int i5_t])), (q_t_plus, .inl (cA, n_t_plus, .inl a_t_plus)), (q_t_minus, .inl (cA, n_t_minus, .inl a_t_minus)), (q_t_divisor, .inl (cA, n_t_divisor, .inl a_t_divisor)), (q_a, .inr (0, [.int i0_a, .ref q_a_signs, .ref q_a_lengths, .ref q_a_limbs])), (q_a_signs, .inl (cA, n_a_signs, .inl a_a_signs)), (q_a_lengths, .inl (cA, n_a_lengths, .inl a_a_lengths)), (q_a_limbs, .inl (cA, n_a_limbs, .inl a_a_limbs))] → va_S A H0 H locs → ∀ ls : Array Slot, lv_has ls 9 [(1, .ref q_a), (2, .int v2), (3, .ref q_a), (4, .int v4), (7, .ref q_t_plus), (8, .int v8)] → ∀ (he : ∀ (H : Heap) (locs : List Loc), va_P (dC, dI) vwCl [(q_t, .inr (1, [.int i0_t, .ref q_t_plus, .ref q_t_minus, .ref q_t_divisor, .int i4_t, .int i5_t])), (q_t_plus, .inl (cA, n_t_plus, .inl o.2)), (q_t_minus, .inl (cA, n_t_minus, .inl a_t_minus)), (q_t_divisor, .inl (cA, n_t_divisor, .inl a_t_divisor)), (q_a, .inr (0, [.int i0_a, .ref q_a_signs, .ref q_a_lengths, .ref q_a_limbs])), (q_a_signs, .inl (cA, n_a_signs, .inl a_a_signs)), (q_a_lengths, .inl (cA, n_a_lengths, .inl a_a_lengths)), (q_a_limbs, .inl (cA, n_a_limbs, .inl a_a_limbs))] H → va_D A [(q_t, .inr (1, [.int i0_t, .ref q_t_plus, .ref q_t_minus, .ref q_t_divisor, .int i4_t, .int i5_t])), (q_t_plus, .inl (cA, n_t_plus, .inl o.2)), (q_t_minus, .inl (cA, n_t_minus, .inl a_t_minus)), (q_t_divisor, .inl (cA, n_t_divisor, .inl a_t_divisor)), (q_a, .inr (0, [.int i0_a, .ref q_a_signs, .ref q_a_lengths, .ref q_a_limbs])), (q_a_signs, .inl (cA, n_a_signs, .inl a_a_signs)), (q_a_lengths, .inl (cA, n_a_lengths, .inl a_a_lengths)), (q_a_limbs, .inl (cA, n_a_limbs, .inl a_a_limbs))] → va_S A H0 H locs → ∀ ls : Array Slot, lv_has ls 9 [] → W p l e rm_S_addProductSame s m args below meth c H locs 0 0 Q (F0 m 78 ls [])), W p l e rm_S_addProductSame s m args below meth c H locs 0 0 Q (F0 m 44 ls []) := by
  intro j
  induction j with
  | zero =>
    intro v8 a_t_plus o hf
    rw [f_S_addProductSame_L44b] at hf
    cases hf
  | succ j ih =>
    intro v8 a_t_plus o hf H locs hP hD hS ls hl he
    rw [f_S_addProductSame_L44b] at hf
    refine lv_iload hx hb dX1_addProduct_44 (lv_at hl 5 rfl) ?_
    refine lv_aload_n hx hb dX1_addProduct_46 rfl (lv_at hl 0 rfl) ?_
    refine lv_iload_n hx hb dX1_addProduct_47 rfl (lv_at hl 1 rfl) ?_
    obtain ⟨x44, g45, hf⟩ := og_b hf
    refine kc_i (wr := [(q_t, .inr (1, [.int i0_t, .ref q_t_plus, .ref q_t_minus, .ref q_t_divisor, .int i4_t, .int i5_t])), (q_t_plus, .inl (cA, n_t_plus, .inl a_t_plus)), (q_t_minus, .inl (cA, n_t_minus, .inl a_t_minus)), (q_t_divisor, .inl (cA, n_t_divisor, .inl a_t_divisor))]) (w1 := [(q_a, .inr (0, [.int i0_a, .ref q_a_signs, .ref q_a_lengths, .ref q_a_limbs])), (q_a_signs, .inl (cA, n_a_signs, .inl a_a_signs)), (q_a_lengths, .inl (cA, n_a_lengths, .inl a_a_lengths)), (q_a_limbs, .inl (cA, n_a_limbs, .inl a_a_limbs))]) [4, 5, 6, 7] [0, 1, 2, 3] (va_runV (As := [.int v2]) (rest := [.int v8]) ⟨hx, hb, hml, hown, hts⟩ (c_N_lengthOf l dC dI cA H.size q_a q_a_signs q_a_lengths q_a_limbs i0_a n_a_signs a_a_signs n_a_lengths a_a_lengths n_a_limbs a_a_limbs v2 x44 g45) (cwV 1 hts gX1_addProduct_X0_lengthOf rfl rfl rfl (by decide +kernel) ⟨Nat.le_of_ble_eq_true rfl, Nat.le_of_ble_eq_true rfl⟩) (kc_preV hP hD hK [4, 5, 6, 7] rfl rfl (by decide) (ci := 0) (q0 := 4) rfl rfl) rfl rfl hl.1 rfl (lv_room (Nat.le_of_ble_eq_true rfl)) dX1_addProduct_48 ⟨Nat.le_of_ble_eq_true rfl, Nat.le_of_ble_eq_true rfl⟩) hP hD hS hA rfl rfl (by decide) (by decide) (fun H locs hP hD hS => ?_)
    have hP : va_P (dC, dI) vwCl [(q_t, .inr (1, [.int i0_t, .ref q_t_plus, .ref q_t_minus, .ref q_t_divisor, .int i4_t, .int i5_t])), (q_t_plus, .inl (cA, n_t_plus, .inl a_t_plus)), (q_t_minus, .inl (cA, n_t_minus, .inl a_t_minus)), (q_t_divisor, .inl (cA, n_t_divisor, .inl a_t_divisor)), (q_a, .inr (0, [.int i0_a, .ref q_a_signs, .ref q_a_lengths, .ref q_a_limbs])), (q_a_signs, .inl (cA, n_a_signs, .inl a_a_signs)), (q_a_lengths, .inl (cA, n_a_lengths, .inl a_a_lengths)), (q_a_limbs, .inl (cA, n_a_limbs, .inl a_a_limbs))] H := hP
    have hD : va_D A [(q_t, .inr (1, [.int i0_t, .ref q_t_plus, .ref q_t_minus, .ref q_t_divisor, .int i4_t, .int i5_t])), (q_t_plus, .inl (cA, n_t_plus, .inl a_t_plus)), (q_t_minus, .inl (cA, n_t_minus, .inl a_t_minus)), (q_t_divisor, .inl (cA, n_t_divisor, .inl a_t_divisor)), (q_a, .inr (0, [.int i0_a, .ref q_a_signs, .ref q_a_lengths, .ref q_a_limbs])), (q_a_signs, .inl (cA, n_a_signs, .inl a_a_signs)), (q_a_lengths, .inl (cA, n_a_lengths, .inl a_a_lengths)), (q_a_limbs, .inl (cA, n_a_limbs, .inl a_a_limbs))] := hD
    refine lv_icmp_ge (tgt := 78) hx hb dX1_addProduct_51 (by decide) (fun c46 => ?_) (fun c46 => ?_)
    · have hf := og_t c46 hf
      have e9 := Option.some.inj hf
      subst e9
      exact he _ _ (hP.sub [0, 1, 2, 3, 4, 5, 6, 7] rfl) (hD.sub [0, 1, 2, 3, 4, 5, 6, 7] (by decide) rfl) hS _ (lv_sub hl [] rfl)
    · have hf := og_f c46 hf
      refine lv_aload hx hb dX1_addProduct_54 (lv_at hl 4 rfl) ?_
      refine lv_iload hx hb dX1_addProduct_56 (lv_at hl 5 rfl) ?_
      refine lv_aload_n hx hb dX1_addProduct_58 rfl (lv_at hl 2 rfl) ?_
      refine lv_iload hx hb dX1_addProduct_59 (lv_at hl 3 rfl) ?_
      refine lv_aload_n hx hb dX1_addProduct_61 rfl (lv_at hl 0 rfl) ?_
      refine lv_iload_n hx hb dX1_addProduct_62 rfl (lv_at hl 1 rfl) ?_
      refine lv_iload hx hb dX1_addProduct_63 (lv_at hl 5 rfl) ?_
      obtain ⟨x47, g48, hf⟩ := og_b hf
      refine kc_i (wr := [(q_t, .inr (1, [.int i0_t, .ref q_t_plus, .ref q_t_minus, .ref q_t_divisor, .int i4_t, .int i5_t])), (q_t_plus, .inl (cA, n_t_plus, .inl a_t_plus)), (q_t_minus, .inl (cA, n_t_minus, .inl a_t_minus)), (q_t_divisor, .inl (cA, n_t_divisor, .inl a_t_divisor))]) (w1 := [(q_a, .inr (0, [.int i0_a, .ref q_a_signs, .ref q_a_lengths, .ref q_a_limbs])), (q_a_signs, .inl (cA, n_a_signs, .inl a_a_signs)), (q_a_lengths, .inl (cA, n_a_lengths, .inl a_a_lengths)), (q_a_limbs, .inl (cA, n_a_limbs, .inl a_a_limbs))]) [4, 5, 6, 7] [0, 1, 2, 3] (va_runV (As := [.int v2, .int v8]) (rest := [.int v4, .ref q_a, .int v8, .ref q_t_plus]) ⟨hx, hb, hml, hown, hts⟩ (c_N_limbOf l dC dI cA H.size q_a q_a_signs q_a_lengths q_a_limbs i0_a n_a_signs a_a_signs n_a_lengths a_a_lengths n_a_limbs a_a_limbs v2 v8 x47 g48) (cwV 2 hts gX1_addProduct_X0_limbOf rfl rfl rfl (by decide +kernel) ⟨Nat.le_of_ble_eq_true rfl, Nat.le_of_ble_eq_true rfl⟩) (kc_preV hP hD hK [4, 5, 6, 7] rfl rfl (by decide) (ci := 0) (q0 := 4) rfl rfl) rfl rfl hl.1 rfl (lv_room (Nat.le_of_ble_eq_true rfl)) dX1_addProduct_65 ⟨Nat.le_of_ble_eq_true rfl, Nat.le_of_ble_eq_true rfl⟩) hP hD hS hA rfl rfl (by decide) (by decide) (fun H locs hP hD hS => ?_)
      have hP : va_P (dC, dI) vwCl [(q_t, .inr (1, [.int i0_t, .ref q_t_plus, .ref q_t_minus, .ref q_t_divisor, .int i4_t, .int i5_t])), (q_t_plus, .inl (cA, n_t_plus, .inl a_t_plus)), (q_t_minus, .inl (cA, n_t_minus, .inl a_t_minus)), (q_t_divisor, .inl (cA, n_t_divisor, .inl a_t_divisor)), (q_a, .inr (0, [.int i0_a, .ref q_a_signs, .ref q_a_lengths, .ref q_a_limbs])), (q_a_signs, .inl (cA, n_a_signs, .inl a_a_signs)), (q_a_lengths, .inl (cA, n_a_lengths, .inl a_a_lengths)), (q_a_limbs, .inl (cA, n_a_limbs, .inl a_a_limbs))] H := hP
      have hD : va_D A [(q_t, .inr (1, [.int i0_t, .ref q_t_plus, .ref q_t_minus, .ref q_t_divisor, .int i4_t, .int i5_t])), (q_t_plus, .inl (cA, n_t_plus, .inl a_t_plus)), (q_t_minus, .inl (cA, n_t_minus, .inl a_t_minus)), (q_t_divisor, .inl (cA, n_t_divisor, .inl a_t_divisor)), (q_a, .inr (0, [.int i0_a, .ref q_a_signs, .ref q_a_lengths, .ref q_a_limbs])), (q_a_signs, .inl (cA, n_a_signs, .inl a_a_signs)), (q_a_lengths, .inl (cA, n_a_lengths, .inl a_a_lengths)), (q_a_limbs, .inl (cA, n_a_limbs, .inl a_a_limbs))] := hD
      refine lv_i2l (v := x47.toInt64) hx hb dX1_addProduct_68 rfl ?_
      obtain ⟨x49, g50, hf⟩ := og_b hf
      refine kc_v (wr := [(q_t, .inr (1, [.int i0_t, .ref q_t_plus, .ref q_t_minus, .ref q_t_divisor, .int i4_t, .int i5_t])), (q_t_minus, .inl (cA, n_t_minus, .inl a_t_minus)), (q_t_divisor, .inl (cA, n_t_divisor, .inl a_t_divisor))]) (w1 := [(q_t_plus, .inl (cA, n_t_plus, .inl x49)), (q_a, .inr (0, [.int i0_a, .ref q_a_signs, .ref q_a_lengths, .ref q_a_limbs])), (q_a_signs, .inl (cA, n_a_signs, .inl a_a_signs)), (q_a_lengths, .inl (cA, n_a_lengths, .inl a_a_lengths)), (q_a_limbs, .inl (cA, n_a_limbs, .inl a_a_limbs))]) [1, 4, 5, 6, 7] [0, 2, 3] (va_runS (As := [.ref q_t_plus, .int v8, .ref q_a, .int v4, .long x47.toInt64]) (rest := []) ⟨hx, hb, hml, hown, hts⟩ (c_S_addMultiple l dC dI cA H.size q_t_plus q_a q_a_signs q_a_lengths q_a_limbs k n_t_plus a_t_plus v8 i0_a n_a_signs a_a_signs n_a_lengths a_a_lengths n_a_limbs a_a_limbs v4 x47.toInt64 x49 g50) (va_cwS 5 hts gX1_addProduct_X1_addMultiple rfl rfl rfl (by decide +kernel) ⟨Nat.le_of_ble_eq_true rfl, Nat.le_of_ble_eq_true rfl⟩) (kc_preS hP hD hK [1, 4, 5, 6, 7] rfl rfl (by decide)) rfl rfl hl.1 rfl (lv_room (Nat.le_of_ble_eq_true rfl)) dX1_addProduct_69 ⟨Nat.le_of_ble_eq_true rfl, Nat.le_of_ble_eq_true rfl⟩) hP hD hS hA rfl rfl (by decide) (by decide) (fun H locs hP hD hS => ?_)
      have hP : va_P (dC, dI) vwCl [(q_t, .inr (1, [.int i0_t, .ref q_t_plus, .ref q_t_minus, .ref q_t_divisor, .int i4_t, .int i5_t])), (q_t_minus, .inl (cA, n_t_minus, .inl a_t_minus)), (q_t_divisor, .inl (cA, n_t_divisor, .inl a_t_divisor)), (q_t_plus, .inl (cA, n_t_plus, .inl x49)), (q_a, .inr (0, [.int i0_a, .ref q_a_signs, .ref q_a_lengths, .ref q_a_limbs])), (q_a_signs, .inl (cA, n_a_signs, .inl a_a_signs)), (q_a_lengths, .inl (cA, n_a_lengths, .inl a_a_lengths)), (q_a_limbs, .inl (cA, n_a_limbs, .inl a_a_limbs))] H := hP
      have hD : va_D A [(q_t, .inr (1, [.int i0_t, .ref q_t_plus, .ref q_t_minus, .ref q_t_divisor, .int i4_t, .int i5_t])), (q_t_minus, .inl (cA, n_t_minus, .inl a_t_minus)), (q_t_divisor, .inl (cA, n_t_divisor, .inl a_t_divisor)), (q_t_plus, .inl (cA, n_t_plus, .inl x49)), (q_a, .inr (0, [.int i0_a, .ref q_a_signs, .ref q_a_lengths, .ref q_a_limbs])), (q_a_signs, .inl (cA, n_a_signs, .inl a_a_signs)), (q_a_lengths, .inl (cA, n_a_lengths, .inl a_a_lengths)), (q_a_limbs, .inl (cA, n_a_limbs, .inl a_a_limbs))] := hD
      refine lv_iinc (v := v8 + 1) (lv' := [(8, .int (v8 + 1)), (1, .ref q_a), (2, .int v2), (3, .ref q_a), (4, .int v4), (7, .ref q_t_plus)]) hx hb dX1_addProduct_72 hl (k := 5) rfl rfl (by decide) rfl (fun ls hl => ?_)
      refine lv_goto (tgt := 44) hx hb dX1_addProduct_75 (by decide) ?_
      exact ih (v8 + 1) x49 _ hf _ _ (hP.sub [0, 3, 1, 2, 4, 5, 6, 7] rfl) (hD.sub [0, 3, 1, 2, 4, 5, 6, 7] (by decide) rfl) hS _ (lv_sub hl [1, 2, 3, 4, 5, 0] rfl) he
set_option maxHeartbeats 4000000 in
set_option maxRecDepth 100000 in
theorem c_S_addProductSame (l : Launch) (dC : Nat → ClassId) (dI : Nat → Nat → Nat) (cA : ClassId) (sz : Nat) (q_t : Nat) (q_t_plus : Nat) (q_t_minus : Nat) (q_t_divisor : Nat) (q_a : Nat) (q_a_signs : Nat) (q_a_lengths : Nat) (q_a_limbs : Nat) (k : Nat) (t_room : Int32) (t_sign : Int32) (t_length : Int32) (n_t_plus : Nat) (a_t_plus : Nat → Int32) (n_t_minus : Nat) (a_t_minus : Nat → Int32) (n_t_divisor : Nat) (a_t_divisor : Nat → Int32) (a_room : Int32) (n_a_signs : Nat) (a_a_signs : Nat → Int32) (n_a_lengths : Nat) (a_a_lengths : Nat → Int32) (n_a_limbs : Nat) (a_a_limbs : Nat → Int32) (slotA : Int32) (slotB : Int32) (factor : Int32) (o : (Nat → Int32) × (Nat → Int32)) (hf : f_S_addProductSame k n_t_plus a_t_plus n_t_minus a_t_minus a_room n_a_signs a_a_signs n_a_lengths a_a_lengths n_a_limbs a_a_limbs slotA slotB factor = some o) : Met l yX1_addProduct wsX1_addProduct rm_S_addProductSame (c_Pre (dC, dI) vwCl [(cA, .int)] [(q_t, .inr (1, [.int t_room, .ref q_t_plus, .ref q_t_minus, .ref q_t_divisor, .int t_sign, .int t_length])), (q_t_plus, .inl (cA, n_t_plus, .inl a_t_plus)), (q_t_minus, .inl (cA, n_t_minus, .inl a_t_minus)), (q_t_divisor, .inl (cA, n_t_divisor, .inl a_t_divisor)), (q_a, .inr (0, [.int a_room, .ref q_a_signs, .ref q_a_lengths, .ref q_a_limbs])), (q_a_signs, .inl (cA, n_a_signs, .inl a_a_signs)), (q_a_lengths, .inl (cA, n_a_lengths, .inl a_a_lengths)), (q_a_limbs, .inl (cA, n_a_limbs, .inl a_a_limbs))] sz [.ref q_t, .ref q_a, .int slotA, .ref q_a, .int slotB, .int factor]) (c_Qv (dC, dI) vwCl [(cA, .int)] [(q_t, .inr (1, [.int t_room, .ref q_t_plus, .ref q_t_minus, .ref q_t_divisor, .int t_sign, .int t_length])), (q_t_plus, .inl (cA, n_t_plus, .inl o.1)), (q_t_minus, .inl (cA, n_t_minus, .inl o.2)), (q_t_divisor, .inl (cA, n_t_divisor, .inl a_t_divisor)), (q_a, .inr (0, [.int a_room, .ref q_a_signs, .ref q_a_lengths, .ref q_a_limbs])), (q_a_signs, .inl (cA, n_a_signs, .inl a_a_signs)), (q_a_lengths, .inl (cA, n_a_lengths, .inl a_a_lengths)), (q_a_limbs, .inl (cA, n_a_limbs, .inl a_a_limbs))] (va_A [(q_t, .inr (1, [.int t_room, .ref q_t_plus, .ref q_t_minus, .ref q_t_divisor, .int t_sign, .int t_length])), (q_t_plus, .inl (cA, n_t_plus, .inl a_t_plus)), (q_t_minus, .inl (cA, n_t_minus, .inl a_t_minus)), (q_t_divisor, .inl (cA, n_t_divisor, .inl a_t_divisor)), (q_a, .inr (0, [.int a_room, .ref q_a_signs, .ref q_a_lengths, .ref q_a_limbs])), (q_a_signs, .inl (cA, n_a_signs, .inl a_a_signs)), (q_a_lengths, .inl (cA, n_a_lengths, .inl a_a_lengths)), (q_a_limbs, .inl (cA, n_a_limbs, .inl a_a_limbs))] sz)) 0 0 (va_A [(q_t, .inr (1, [.int t_room, .ref q_t_plus, .ref q_t_minus, .ref q_t_divisor, .int t_sign, .int t_length])), (q_t_plus, .inl (cA, n_t_plus, .inl a_t_plus)), (q_t_minus, .inl (cA, n_t_minus, .inl a_t_minus)), (q_t_divisor, .inl (cA, n_t_divisor, .inl a_t_divisor)), (q_a, .inr (0, [.int a_room, .ref q_a_signs, .ref q_a_lengths, .ref q_a_limbs])), (q_a_signs, .inl (cA, n_a_signs, .inl a_a_signs)), (q_a_lengths, .inl (cA, n_a_lengths, .inl a_a_lengths)), (q_a_limbs, .inl (cA, n_a_limbs, .inl a_a_limbs))] sz) := by
  unfold f_S_addProductSame at hf
  refine k_ent (Qc := fun A => c_Qv (dC, dI) vwCl [(cA, .int)] [(q_t, .inr (1, [.int t_room, .ref q_t_plus, .ref q_t_minus, .ref q_t_divisor, .int t_sign, .int t_length])), (q_t_plus, .inl (cA, n_t_plus, .inl o.1)), (q_t_minus, .inl (cA, n_t_minus, .inl o.2)), (q_t_divisor, .inl (cA, n_t_divisor, .inl a_t_divisor)), (q_a, .inr (0, [.int a_room, .ref q_a_signs, .ref q_a_lengths, .ref q_a_limbs])), (q_a_signs, .inl (cA, n_a_signs, .inl a_a_signs)), (q_a_lengths, .inl (cA, n_a_lengths, .inl a_a_lengths)), (q_a_limbs, .inl (cA, n_a_limbs, .inl a_a_limbs))] A) (by decide) rfl (Nat.le_of_ble_eq_true rfl) ?_
  intro p e s m below meth c A hx hb hr hown hts hml hlocks hin hsz hA hK H locs hP hD hS ls hl
  have hown : s.vm.findClass RX1 = some m.cls := hown
  have hl : lv_has ls 9 [(0, .ref q_t), (1, .ref q_a), (2, .int slotA), (3, .ref q_a), (4, .int slotB), (5, .int factor)] := hl
  refine lv_aload_n hx hb dX1_addProduct_0 rfl (lv_at hl 1 rfl) ?_
  refine lv_iload_n hx hb dX1_addProduct_1 rfl (lv_at hl 2 rfl) ?_
  obtain ⟨x1, g2, hf⟩ := og_b hf
  refine kc_i (wr := [(q_t, .inr (1, [.int t_room, .ref q_t_plus, .ref q_t_minus, .ref q_t_divisor, .int t_sign, .int t_length])), (q_t_plus, .inl (cA, n_t_plus, .inl a_t_plus)), (q_t_minus, .inl (cA, n_t_minus, .inl a_t_minus)), (q_t_divisor, .inl (cA, n_t_divisor, .inl a_t_divisor))]) (w1 := [(q_a, .inr (0, [.int a_room, .ref q_a_signs, .ref q_a_lengths, .ref q_a_limbs])), (q_a_signs, .inl (cA, n_a_signs, .inl a_a_signs)), (q_a_lengths, .inl (cA, n_a_lengths, .inl a_a_lengths)), (q_a_limbs, .inl (cA, n_a_limbs, .inl a_a_limbs))]) [4, 5, 6, 7] [0, 1, 2, 3] (va_runV (As := [.int slotA]) (rest := []) ⟨hx, hb, hml, hown, hts⟩ (c_N_signOf l dC dI cA H.size q_a q_a_signs q_a_lengths q_a_limbs a_room n_a_signs a_a_signs n_a_lengths a_a_lengths n_a_limbs a_a_limbs slotA x1 g2) (cwV 1 hts gX1_addProduct_X0_signOf rfl rfl rfl (by decide +kernel) ⟨Nat.le_of_ble_eq_true rfl, Nat.le_of_ble_eq_true rfl⟩) (kc_preV hP hD hK [4, 5, 6, 7] rfl rfl (by decide) (ci := 0) (q0 := 4) rfl rfl) rfl rfl hl.1 rfl (lv_room (Nat.le_of_ble_eq_true rfl)) dX1_addProduct_2 ⟨Nat.le_of_ble_eq_true rfl, Nat.le_of_ble_eq_true rfl⟩) hP hD hS hA rfl rfl (by decide) (by decide) (fun H locs hP hD hS => ?_)
  have hP : va_P (dC, dI) vwCl [(q_t, .inr (1, [.int t_room, .ref q_t_plus, .ref q_t_minus, .ref q_t_divisor, .int t_sign, .int t_length])), (q_t_plus, .inl (cA, n_t_plus, .inl a_t_plus)), (q_t_minus, .inl (cA, n_t_minus, .inl a_t_minus)), (q_t_divisor, .inl (cA, n_t_divisor, .inl a_t_divisor)), (q_a, .inr (0, [.int a_room, .ref q_a_signs, .ref q_a_lengths, .ref q_a_limbs])), (q_a_signs, .inl (cA, n_a_signs, .inl a_a_signs)), (q_a_lengths, .inl (cA, n_a_lengths, .inl a_a_lengths)), (q_a_limbs, .inl (cA, n_a_limbs, .inl a_a_limbs))] H := hP
  have hD : va_D A [(q_t, .inr (1, [.int t_room, .ref q_t_plus, .ref q_t_minus, .ref q_t_divisor, .int t_sign, .int t_length])), (q_t_plus, .inl (cA, n_t_plus, .inl a_t_plus)), (q_t_minus, .inl (cA, n_t_minus, .inl a_t_minus)), (q_t_divisor, .inl (cA, n_t_divisor, .inl a_t_divisor)), (q_a, .inr (0, [.int a_room, .ref q_a_signs, .ref q_a_lengths, .ref q_a_limbs])), (q_a_signs, .inl (cA, n_a_signs, .inl a_a_signs)), (q_a_lengths, .inl (cA, n_a_lengths, .inl a_a_lengths)), (q_a_limbs, .inl (cA, n_a_limbs, .inl a_a_limbs))] := hD
  refine lv_aload_n hx hb dX1_addProduct_5 rfl (lv_at hl 3 rfl) ?_
  refine lv_iload hx hb dX1_addProduct_6 (lv_at hl 4 rfl) ?_
  obtain ⟨x3, g4, hf⟩ := og_b hf
  refine kc_i (wr := [(q_t, .inr (1, [.int t_room, .ref q_t_plus, .ref q_t_minus, .ref q_t_divisor, .int t_sign, .int t_length])), (q_t_plus, .inl (cA, n_t_plus, .inl a_t_plus)), (q_t_minus, .inl (cA, n_t_minus, .inl a_t_minus)), (q_t_divisor, .inl (cA, n_t_divisor, .inl a_t_divisor))]) (w1 := [(q_a, .inr (0, [.int a_room, .ref q_a_signs, .ref q_a_lengths, .ref q_a_limbs])), (q_a_signs, .inl (cA, n_a_signs, .inl a_a_signs)), (q_a_lengths, .inl (cA, n_a_lengths, .inl a_a_lengths)), (q_a_limbs, .inl (cA, n_a_limbs, .inl a_a_limbs))]) [4, 5, 6, 7] [0, 1, 2, 3] (va_runV (As := [.int slotB]) (rest := [.int x1]) ⟨hx, hb, hml, hown, hts⟩ (c_N_signOf l dC dI cA H.size q_a q_a_signs q_a_lengths q_a_limbs a_room n_a_signs a_a_signs n_a_lengths a_a_lengths n_a_limbs a_a_limbs slotB x3 g4) (cwV 1 hts gX1_addProduct_X0_signOf rfl rfl rfl (by decide +kernel) ⟨Nat.le_of_ble_eq_true rfl, Nat.le_of_ble_eq_true rfl⟩) (kc_preV hP hD hK [4, 5, 6, 7] rfl rfl (by decide) (ci := 0) (q0 := 4) rfl rfl) rfl rfl hl.1 rfl (lv_room (Nat.le_of_ble_eq_true rfl)) dX1_addProduct_8 ⟨Nat.le_of_ble_eq_true rfl, Nat.le_of_ble_eq_true rfl⟩) hP hD hS hA rfl rfl (by decide) (by decide) (fun H locs hP hD hS => ?_)
  have hP : va_P (dC, dI) vwCl [(q_t, .inr (1, [.int t_room, .ref q_t_plus, .ref q_t_minus, .ref q_t_divisor, .int t_sign, .int t_length])), (q_t_plus, .inl (cA, n_t_plus, .inl a_t_plus)), (q_t_minus, .inl (cA, n_t_minus, .inl a_t_minus)), (q_t_divisor, .inl (cA, n_t_divisor, .inl a_t_divisor)), (q_a, .inr (0, [.int a_room, .ref q_a_signs, .ref q_a_lengths, .ref q_a_limbs])), (q_a_signs, .inl (cA, n_a_signs, .inl a_a_signs)), (q_a_lengths, .inl (cA, n_a_lengths, .inl a_a_lengths)), (q_a_limbs, .inl (cA, n_a_limbs, .inl a_a_limbs))] H := hP
  have hD : va_D A [(q_t, .inr (1, [.int t_room, .ref q_t_plus, .ref q_t_minus, .ref q_t_divisor, .int t_sign, .int t_length])), (q_t_plus, .inl (cA, n_t_plus, .inl a_t_plus)), (q_t_minus, .inl (cA, n_t_minus, .inl a_t_minus)), (q_t_divisor, .inl (cA, n_t_divisor, .inl a_t_divisor)), (q_a, .inr (0, [.int a_room, .ref q_a_signs, .ref q_a_lengths, .ref q_a_limbs])), (q_a_signs, .inl (cA, n_a_signs, .inl a_a_signs)), (q_a_lengths, .inl (cA, n_a_lengths, .inl a_a_lengths)), (q_a_limbs, .inl (cA, n_a_limbs, .inl a_a_limbs))] := hD
  refine lv_imul hx hb dX1_addProduct_11 ?_
  refine lv_iload hx hb dX1_addProduct_12 (lv_at hl 5 rfl) ?_
  refine lv_imul hx hb dX1_addProduct_14 ?_
  refine lv_istore (lv' := [(6, .int ((x1 * x3) * factor)), (0, .ref q_t), (1, .ref q_a), (2, .int slotA), (3, .ref q_a), (4, .int slotB), (5, .int factor)]) hx hb dX1_addProduct_15 hl (by decide) rfl (fun ls hl => ?_)
  refine lv_iload hx hb dX1_addProduct_17 (lv_at hl 0 rfl) ?_
  refine lv_if_ne (tgt := 23) hx hb dX1_addProduct_19 (by decide) (fun c5 => ?_) (fun c5 => ?_)
  · have hf := og_f c5 hf
    refine lv_iload hx hb dX1_addProduct_23 (lv_at hl 0 rfl) ?_
    refine lv_if_le (tgt := 35) hx hb dX1_addProduct_25 (by decide) (fun c6 => ?_) (fun c6 => ?_)
    · have hf := og_t c6 hf
      refine lv_aload_n hx hb dX1_addProduct_35 rfl (lv_at hl 1 rfl) ?_
      refine va_get (D := (dC, dI)) (ci := 1) (v := .ref q_t_minus) (C := RX1) (T := TX1) (N := 6) hx hb hts ki_S_addProductSame_X1 hown hK hP 0 rfl rfl 2 (by decide) (hts (.fieldLink RX1 19 "MinorSteps$Sum" "minus" "[I") kw_S_addProductSame_0) (fun _ h9 => h9) rfl dX1_addProduct_36 ?_
      refine lv_astore (lv' := [(7, .ref q_t_minus), (6, .int ((x1 * x3) * factor)), (0, .ref q_t), (1, .ref q_a), (2, .int slotA), (3, .ref q_a), (4, .int slotB), (5, .int factor)]) hx hb dX1_addProduct_39 hl (by decide) rfl (fun ls hl => ?_)
      refine lv_iconst (v := 0) hx hb dX1_addProduct_41 (by decide) ?_
      refine lv_istore (lv' := [(8, .int 0), (7, .ref q_t_minus), (6, .int ((x1 * x3) * factor)), (0, .ref q_t), (1, .ref q_a), (2, .int slotA), (3, .ref q_a), (4, .int slotB), (5, .int factor)]) hx hb dX1_addProduct_42 hl (by decide) rfl (fun ls hl => ?_)
      obtain ⟨x28, g29, hf⟩ := og_b hf
      refine w_S_addProductSame_L44 hx hb hown hts hml hA hK k q_t q_t_plus q_t_minus q_t_divisor q_a q_a_signs q_a_lengths q_a_limbs slotA slotB t_room t_sign t_length n_t_plus a_t_plus n_t_minus n_t_divisor a_t_divisor a_room n_a_signs a_a_signs n_a_lengths a_a_lengths n_a_limbs a_a_limbs k (0 : Int32) a_t_minus _ g29 _ _ (hP.sub [0, 1, 2, 3, 4, 5, 6, 7] rfl) (hD.sub [0, 1, 2, 3, 4, 5, 6, 7] (by decide) rfl) hS _ (lv_sub hl [4, 5, 6, 7, 1, 0] rfl) ?_
      intro H locs hP hD hS ls hl
      have e9 := Option.some.inj hf
      subst e9
      exact kr_v hx hb hr hlocks hK hS (hP.sub [0, 1, 2, 3, 4, 5, 6, 7] rfl) (hD.sub [0, 1, 2, 3, 4, 5, 6, 7] (by decide) rfl) dX1_addProduct_78
    · have hf := og_f c6 hf
      refine lv_aload_n hx hb dX1_addProduct_28 rfl (lv_at hl 1 rfl) ?_
      refine va_get (D := (dC, dI)) (ci := 1) (v := .ref q_t_plus) (C := RX1) (T := TX1) (N := 6) hx hb hts ki_S_addProductSame_X1 hown hK hP 0 rfl rfl 1 (by decide) (hts (.fieldLink RX1 15 "MinorSteps$Sum" "plus" "[I") kw_S_addProductSame_1) (fun _ h9 => h9) rfl dX1_addProduct_29 ?_
      refine lv_goto (tgt := 39) hx hb dX1_addProduct_32 (by decide) ?_
      refine lv_astore (lv' := [(7, .ref q_t_plus), (6, .int ((x1 * x3) * factor)), (0, .ref q_t), (1, .ref q_a), (2, .int slotA), (3, .ref q_a), (4, .int slotB), (5, .int factor)]) hx hb dX1_addProduct_39 hl (by decide) rfl (fun ls hl => ?_)
      refine lv_iconst (v := 0) hx hb dX1_addProduct_41 (by decide) ?_
      refine lv_istore (lv' := [(8, .int 0), (7, .ref q_t_plus), (6, .int ((x1 * x3) * factor)), (0, .ref q_t), (1, .ref q_a), (2, .int slotA), (3, .ref q_a), (4, .int slotB), (5, .int factor)]) hx hb dX1_addProduct_42 hl (by decide) rfl (fun ls hl => ?_)
      obtain ⟨x51, g52, hf⟩ := og_b hf
      refine w_S_addProductSame_L44b hx hb hown hts hml hA hK k q_t q_t_plus q_t_minus q_t_divisor q_a q_a_signs q_a_lengths q_a_limbs slotA slotB t_room t_sign t_length n_t_plus n_t_minus a_t_minus n_t_divisor a_t_divisor a_room n_a_signs a_a_signs n_a_lengths a_a_lengths n_a_limbs a_a_limbs k (0 : Int32) a_t_plus _ g52 _ _ (hP.sub [0, 1, 2, 3, 4, 5, 6, 7] rfl) (hD.sub [0, 1, 2, 3, 4, 5, 6, 7] (by decide) rfl) hS _ (lv_sub hl [4, 5, 6, 7, 1, 0] rfl) ?_
      intro H locs hP hD hS ls hl
      have e9 := Option.some.inj hf
      subst e9
      exact kr_v hx hb hr hlocks hK hS (hP.sub [0, 1, 2, 3, 4, 5, 6, 7] rfl) (hD.sub [0, 1, 2, 3, 4, 5, 6, 7] (by decide) rfl) dX1_addProduct_78
  · have hf := og_t c5 hf
    have e9 := Option.some.inj hf
    subst e9
    exact kr_v hx hb hr hlocks hK hS (hP.sub [0, 1, 2, 3, 4, 5, 6, 7] rfl) (hD.sub [0, 1, 2, 3, 4, 5, 6, 7] (by decide) rfl) dX1_addProduct_22
def rm_S_compareSides : Room := { frames := 0, cells := 0, slots := 0, locals := 0 }
theorem kw_S_compareSides_0 : (.fieldLink RX1 15 "MinorSteps$Sum" "plus" "[I" : Cond) ∈ wsX1_compareSides := by decide +kernel
theorem kw_S_compareSides_1 : (.fieldLink RX1 19 "MinorSteps$Sum" "minus" "[I" : Cond) ∈ wsX1_compareSides := by decide +kernel
theorem ki_S_compareSides_X1 : ∀ w ∈ u_ws RX1 TX1 6, w ∈ wsX1_compareSides := by decide +kernel
set_option maxHeartbeats 4000000 in
set_option maxRecDepth 100000 in
theorem w_S_compareSides_L8 {p : Program} {l : Launch} {e : Env} {s : State} {m : MethodId} {args : Array Value} {below : List Frame} {meth : Method} {c : Code} {Q : State → Prop} {A : Nat → Prop} {H0 : Heap} {dC : Nat → ClassId} {dI : Nat → Nat → Nat} {cA : ClassId} (hx : p.tables.exec = Jvm.exec) (hb : c.code = cX1_compareSides) (hown : s.vm.findClass RX1 = some m.cls) (hts : ∀ w ∈ wsX1_compareSides, w.before args s = true) (hml : c.maxLocals = 2) (hA : ∀ q, H0.size ≤ q → A q) (hK : va_K (dC, dI) vwCl [(cA, .int)] s) (k : Nat) (q_t : Nat) (q_t_plus : Nat) (q_t_minus : Nat) (q_t_divisor : Nat) (i0_t : Int32) (i4_t : Int32) (i5_t : Int32) (n_t_plus : Nat) (a_t_plus : Nat → Int32) (n_t_minus : Nat) (a_t_minus : Nat → Int32) (n_t_divisor : Nat) (a_t_divisor : Nat → Int32) : ∀ (j : Nat) (v1 : Int32) (o : Bool × Int32 × Int32), f_S_compareSides_L8 k n_t_plus a_t_plus n_t_minus a_t_minus j v1 = some o → ∀ (H : Heap) (locs : List Loc), va_P (dC, dI) vwCl [(q_t, .inr (1, [.int i0_t, .ref q_t_plus, .ref q_t_minus, .ref q_t_divisor, .int i4_t, .int i5_t])), (q_t_plus, .inl (cA, n_t_plus, .inl a_t_plus)), (q_t_minus, .inl (cA, n_t_minus, .inl a_t_minus)), (q_t_divisor, .inl (cA, n_t_divisor, .inl a_t_divisor))] H → va_D A [(q_t, .inr (1, [.int i0_t, .ref q_t_plus, .ref q_t_minus, .ref q_t_divisor, .int i4_t, .int i5_t])), (q_t_plus, .inl (cA, n_t_plus, .inl a_t_plus)), (q_t_minus, .inl (cA, n_t_minus, .inl a_t_minus)), (q_t_divisor, .inl (cA, n_t_divisor, .inl a_t_divisor))] → va_S A H0 H locs → ∀ ls : Array Slot, lv_has ls 2 [(0, .ref q_t), (1, .int v1)] → ∀ (he : ¬ o.1 = true → ∀ (H : Heap) (locs : List Loc), va_P (dC, dI) vwCl [(q_t, .inr (1, [.int i0_t, .ref q_t_plus, .ref q_t_minus, .ref q_t_divisor, .int i4_t, .int i5_t])), (q_t_plus, .inl (cA, n_t_plus, .inl a_t_plus)), (q_t_minus, .inl (cA, n_t_minus, .inl a_t_minus)), (q_t_divisor, .inl (cA, n_t_divisor, .inl a_t_divisor))] H → va_D A [(q_t, .inr (1, [.int i0_t, .ref q_t_plus, .ref q_t_minus, .ref q_t_divisor, .int i4_t, .int i5_t])), (q_t_plus, .inl (cA, n_t_plus, .inl a_t_plus)), (q_t_minus, .inl (cA, n_t_minus, .inl a_t_minus)), (q_t_divisor, .inl (cA, n_t_divisor, .inl a_t_divisor))] → va_S A H0 H locs → ∀ ls : Array Slot, lv_has ls 2 [] → W p l e rm_S_compareSides s m args below meth c H locs 0 0 Q (F0 m 54 ls [])) (hrt : o.1 = true → ∀ (H : Heap) (locs : List Loc), va_P (dC, dI) vwCl [(q_t, .inr (1, [.int i0_t, .ref q_t_plus, .ref q_t_minus, .ref q_t_divisor, .int i4_t, .int i5_t])), (q_t_plus, .inl (cA, n_t_plus, .inl a_t_plus)), (q_t_minus, .inl (cA, n_t_minus, .inl a_t_minus)), (q_t_divisor, .inl (cA, n_t_divisor, .inl a_t_divisor))] H → va_D A [(q_t, .inr (1, [.int i0_t, .ref q_t_plus, .ref q_t_minus, .ref q_t_divisor, .int i4_t, .int i5_t])), (q_t_plus, .inl (cA, n_t_plus, .inl a_t_plus)), (q_t_minus, .inl (cA, n_t_minus, .inl a_t_minus)), (q_t_divisor, .inl (cA, n_t_divisor, .inl a_t_divisor))] → va_S A H0 H locs → ∀ ls : Array Slot, W p l e rm_S_compareSides s m args below meth c H locs 0 0 Q (F0 m 47 ls [.int o.2.1])), W p l e rm_S_compareSides s m args below meth c H locs 0 0 Q (F0 m 8 ls []) := by
  intro j
  induction j with
  | zero =>
    intro v1 o hf
    rw [f_S_compareSides_L8] at hf
    cases hf
  | succ j ih =>
    intro v1 o hf H locs hP hD hS ls hl he hrt
    rw [f_S_compareSides_L8] at hf
    refine lv_iload_n hx hb dX1_compareSides_8 rfl (lv_at hl 1 rfl) ?_
    refine lv_if_lt (tgt := 54) hx hb dX1_compareSides_9 (by decide) (fun c15 => ?_) (fun c15 => ?_)
    · have hf := og_t c15 hf
      have e9 := Option.some.inj hf
      subst e9
      exact he (fun h9 => Bool.false_ne_true h9) _ _ (hP.sub [0, 1, 2, 3] rfl) (hD.sub [0, 1, 2, 3] (by decide) rfl) hS _ (lv_sub hl [] rfl)
    · have hf := og_f c15 hf
      refine lv_aload_n hx hb dX1_compareSides_12 rfl (lv_at hl 0 rfl) ?_
      refine va_get (D := (dC, dI)) (ci := 1) (v := .ref q_t_plus) (C := RX1) (T := TX1) (N := 6) hx hb hts ki_S_compareSides_X1 hown hK hP 0 rfl rfl 1 (by decide) (hts (.fieldLink RX1 15 "MinorSteps$Sum" "plus" "[I") kw_S_compareSides_0) (fun _ h9 => h9) rfl dX1_compareSides_13 ?_
      refine lv_iload_n hx hb dX1_compareSides_16 rfl (lv_at hl 1 rfl) ?_
      obtain ⟨g16, hf⟩ := og_c hf
      refine va_iald hx hb hK hP 1 0 rfl rfl (og_in g16) dX1_compareSides_17 ?_
      refine lv_aload_n hx hb dX1_compareSides_18 rfl (lv_at hl 0 rfl) ?_
      refine va_get (D := (dC, dI)) (ci := 1) (v := .ref q_t_minus) (C := RX1) (T := TX1) (N := 6) hx hb hts ki_S_compareSides_X1 hown hK hP 0 rfl rfl 2 (by decide) (hts (.fieldLink RX1 19 "MinorSteps$Sum" "minus" "[I") kw_S_compareSides_1) (fun _ h9 => h9) rfl dX1_compareSides_19 ?_
      refine lv_iload_n hx hb dX1_compareSides_22 rfl (lv_at hl 1 rfl) ?_
      obtain ⟨g17, hf⟩ := og_c hf
      refine va_iald hx hb hK hP 2 0 rfl rfl (og_in g17) dX1_compareSides_23 ?_
      refine lv_icmp_eq (tgt := 48) hx hb dX1_compareSides_24 (by decide) (fun c18 => ?_) (fun c18 => ?_)
      · have hf := og_t c18 hf
        refine lv_iinc (v := v1 + (-1)) (lv' := [(1, .int (v1 + (-1))), (0, .ref q_t)]) hx hb dX1_compareSides_48 hl (k := 1) rfl rfl (by decide) rfl (fun ls hl => ?_)
        refine lv_goto (tgt := 8) hx hb dX1_compareSides_51 (by decide) ?_
        exact ih (v1 + (-1)) _ hf _ _ (hP.sub [0, 1, 2, 3] rfl) (hD.sub [0, 1, 2, 3] (by decide) rfl) hS _ (lv_sub hl [1, 0] rfl) he hrt
      · have hf := og_f c18 hf
        refine lv_aload_n hx hb dX1_compareSides_27 rfl (lv_at hl 0 rfl) ?_
        refine va_get (D := (dC, dI)) (ci := 1) (v := .ref q_t_plus) (C := RX1) (T := TX1) (N := 6) hx hb hts ki_S_compareSides_X1 hown hK hP 0 rfl rfl 1 (by decide) (hts (.fieldLink RX1 15 "MinorSteps$Sum" "plus" "[I") kw_S_compareSides_0) (fun _ h9 => h9) rfl dX1_compareSides_28 ?_
        refine lv_iload_n hx hb dX1_compareSides_31 rfl (lv_at hl 1 rfl) ?_
        obtain ⟨g19, hf⟩ := og_c hf
        refine va_iald hx hb hK hP 1 0 rfl rfl (og_in g19) dX1_compareSides_32 ?_
        refine lv_aload_n hx hb dX1_compareSides_33 rfl (lv_at hl 0 rfl) ?_
        refine va_get (D := (dC, dI)) (ci := 1) (v := .ref q_t_minus) (C := RX1) (T := TX1) (N := 6) hx hb hts ki_S_compareSides_X1 hown hK hP 0 rfl rfl 2 (by decide) (hts (.fieldLink RX1 19 "MinorSteps$Sum" "minus" "[I") kw_S_compareSides_1) (fun _ h9 => h9) rfl dX1_compareSides_34 ?_
        refine lv_iload_n hx hb dX1_compareSides_37 rfl (lv_at hl 1 rfl) ?_
        obtain ⟨g20, hf⟩ := og_c hf
        refine va_iald hx hb hK hP 2 0 rfl rfl (og_in g20) dX1_compareSides_38 ?_
        refine lv_icmp_le (tgt := 46) hx hb dX1_compareSides_39 (by decide) (fun c21 => ?_) (fun c21 => ?_)
        · have hf := og_t c21 hf
          refine lv_iconst (v := (-1)) hx hb dX1_compareSides_46 (by decide) ?_
          have e9 := Option.some.inj hf
          subst e9
          exact hrt rfl _ _ (hP.sub [0, 1, 2, 3] rfl) (hD.sub [0, 1, 2, 3] (by decide) rfl) hS _
        · have hf := og_f c21 hf
          refine lv_iconst (v := 1) hx hb dX1_compareSides_42 (by decide) ?_
          refine lv_goto (tgt := 47) hx hb dX1_compareSides_43 (by decide) ?_
          have e9 := Option.some.inj hf
          subst e9
          exact hrt rfl _ _ (hP.sub [0, 1, 2, 3] rfl) (hD.sub [0, 1, 2, 3] (by decide) rfl) hS _
set_option maxHeartbeats 4000000 in
set_option maxRecDepth 100000 in
theorem c_S_compareSides (l : Launch) (dC : Nat → ClassId) (dI : Nat → Nat → Nat) (cA : ClassId) (sz : Nat) (q_t : Nat) (q_t_plus : Nat) (q_t_minus : Nat) (q_t_divisor : Nat) (k : Nat) (t_room : Int32) (t_sign : Int32) (t_length : Int32) (n_t_plus : Nat) (a_t_plus : Nat → Int32) (n_t_minus : Nat) (a_t_minus : Nat → Int32) (n_t_divisor : Nat) (a_t_divisor : Nat → Int32) (o : Int32) (hf : f_S_compareSides k n_t_plus a_t_plus n_t_minus a_t_minus = some o) : Met l yX1_compareSides wsX1_compareSides rm_S_compareSides (c_Pre (dC, dI) vwCl [(cA, .int)] [(q_t, .inr (1, [.int t_room, .ref q_t_plus, .ref q_t_minus, .ref q_t_divisor, .int t_sign, .int t_length])), (q_t_plus, .inl (cA, n_t_plus, .inl a_t_plus)), (q_t_minus, .inl (cA, n_t_minus, .inl a_t_minus)), (q_t_divisor, .inl (cA, n_t_divisor, .inl a_t_divisor))] sz [.ref q_t]) (c_Qi (dC, dI) vwCl [(cA, .int)] [(q_t, .inr (1, [.int t_room, .ref q_t_plus, .ref q_t_minus, .ref q_t_divisor, .int t_sign, .int t_length])), (q_t_plus, .inl (cA, n_t_plus, .inl a_t_plus)), (q_t_minus, .inl (cA, n_t_minus, .inl a_t_minus)), (q_t_divisor, .inl (cA, n_t_divisor, .inl a_t_divisor))] (va_A [(q_t, .inr (1, [.int t_room, .ref q_t_plus, .ref q_t_minus, .ref q_t_divisor, .int t_sign, .int t_length])), (q_t_plus, .inl (cA, n_t_plus, .inl a_t_plus)), (q_t_minus, .inl (cA, n_t_minus, .inl a_t_minus)), (q_t_divisor, .inl (cA, n_t_divisor, .inl a_t_divisor))] sz) o) 0 0 (va_A [(q_t, .inr (1, [.int t_room, .ref q_t_plus, .ref q_t_minus, .ref q_t_divisor, .int t_sign, .int t_length])), (q_t_plus, .inl (cA, n_t_plus, .inl a_t_plus)), (q_t_minus, .inl (cA, n_t_minus, .inl a_t_minus)), (q_t_divisor, .inl (cA, n_t_divisor, .inl a_t_divisor))] sz) := by
  unfold f_S_compareSides at hf
  refine k_ent (Qc := fun A => c_Qi (dC, dI) vwCl [(cA, .int)] [(q_t, .inr (1, [.int t_room, .ref q_t_plus, .ref q_t_minus, .ref q_t_divisor, .int t_sign, .int t_length])), (q_t_plus, .inl (cA, n_t_plus, .inl a_t_plus)), (q_t_minus, .inl (cA, n_t_minus, .inl a_t_minus)), (q_t_divisor, .inl (cA, n_t_divisor, .inl a_t_divisor))] A o) (by decide) rfl (Nat.le_of_ble_eq_true rfl) ?_
  intro p e s m below meth c A hx hb hr hown hts hml hlocks hin hsz hA hK H locs hP hD hS ls hl
  have hown : s.vm.findClass RX1 = some m.cls := hown
  have hl : lv_has ls 2 [(0, .ref q_t)] := hl
  refine lv_aload_n hx hb dX1_compareSides_0 rfl (lv_at hl 0 rfl) ?_
  refine va_get (D := (dC, dI)) (ci := 1) (v := .ref q_t_plus) (C := RX1) (T := TX1) (N := 6) hx hb hts ki_S_compareSides_X1 hown hK hP 0 rfl rfl 1 (by decide) (hts (.fieldLink RX1 15 "MinorSteps$Sum" "plus" "[I") kw_S_compareSides_0) (fun _ h9 => h9) rfl dX1_compareSides_1 ?_
  refine va_alen hx hb hK hP 1 0 rfl rfl (v := nI n_t_plus) rfl dX1_compareSides_4 ?_
  refine lv_iconst (v := 1) hx hb dX1_compareSides_5 (by decide) ?_
  refine lv_isub hx hb dX1_compareSides_6 ?_
  refine lv_istore_n (lv' := [(1, .int ((nI n_t_plus) - 1)), (0, .ref q_t)]) hx hb dX1_compareSides_7 rfl hl (by decide) rfl (fun ls hl => ?_)
  obtain ⟨x22, g23, hf⟩ := og_b hf
  by_cases c24 : x22.1 = true
  · have hf := og_t c24 hf
    refine w_S_compareSides_L8 hx hb hown hts hml hA hK k q_t q_t_plus q_t_minus q_t_divisor t_room t_sign t_length n_t_plus a_t_plus n_t_minus a_t_minus n_t_divisor a_t_divisor k ((nI n_t_plus) - 1) _ g23 _ _ (hP.sub [0, 1, 2, 3] rfl) (hD.sub [0, 1, 2, 3] (by decide) rfl) hS _ (lv_sub hl [1, 0] rfl) (fun e9 => absurd c24 e9) (fun _ H locs hP hD hS ls => ?_)
    have e9 := Option.some.inj hf
    subst e9
    exact kr_i hx hb hr hlocks hK hS (hP.sub [0, 1, 2, 3] rfl) (hD.sub [0, 1, 2, 3] (by decide) rfl) dX1_compareSides_47
  · have hf := og_f c24 hf
    refine w_S_compareSides_L8 hx hb hown hts hml hA hK k q_t q_t_plus q_t_minus q_t_divisor t_room t_sign t_length n_t_plus a_t_plus n_t_minus a_t_minus n_t_divisor a_t_divisor k ((nI n_t_plus) - 1) _ g23 _ _ (hP.sub [0, 1, 2, 3] rfl) (hD.sub [0, 1, 2, 3] (by decide) rfl) hS _ (lv_sub hl [1, 0] rfl) (fun _ H locs hP hD hS ls hl => ?_) (fun e9 => absurd e9 c24)
    refine lv_iconst (v := 0) hx hb dX1_compareSides_54 (by decide) ?_
    have e9 := Option.some.inj hf
    subst e9
    exact kr_i hx hb hr hlocks hK hS (hP.sub [0, 1, 2, 3] rfl) (hD.sub [0, 1, 2, 3] (by decide) rfl) dX1_compareSides_55
def rm_S_isZero : Room := { frames := 1, cells := 0, slots := 0, locals := 21 }
set_option maxHeartbeats 4000000 in
set_option maxRecDepth 100000 in
theorem c_S_isZero (l : Launch) (dC : Nat → ClassId) (dI : Nat → Nat → Nat) (cA : ClassId) (sz : Nat) (q_t : Nat) (q_t_plus : Nat) (q_t_minus : Nat) (q_t_divisor : Nat) (k : Nat) (t_room : Int32) (t_sign : Int32) (t_length : Int32) (n_t_plus : Nat) (a_t_plus : Nat → Int32) (n_t_minus : Nat) (a_t_minus : Nat → Int32) (n_t_divisor : Nat) (a_t_divisor : Nat → Int32) (o : Int32) (hf : f_S_isZero k n_t_plus a_t_plus n_t_minus a_t_minus = some o) : Met l yX1_isZero wsX1_isZero rm_S_isZero (c_Pre (dC, dI) vwCl [(cA, .int)] [(q_t, .inr (1, [.int t_room, .ref q_t_plus, .ref q_t_minus, .ref q_t_divisor, .int t_sign, .int t_length])), (q_t_plus, .inl (cA, n_t_plus, .inl a_t_plus)), (q_t_minus, .inl (cA, n_t_minus, .inl a_t_minus)), (q_t_divisor, .inl (cA, n_t_divisor, .inl a_t_divisor))] sz [.ref q_t]) (c_Qi (dC, dI) vwCl [(cA, .int)] [(q_t, .inr (1, [.int t_room, .ref q_t_plus, .ref q_t_minus, .ref q_t_divisor, .int t_sign, .int t_length])), (q_t_plus, .inl (cA, n_t_plus, .inl a_t_plus)), (q_t_minus, .inl (cA, n_t_minus, .inl a_t_minus)), (q_t_divisor, .inl (cA, n_t_divisor, .inl a_t_divisor))] (va_A [(q_t, .inr (1, [.int t_room, .ref q_t_plus, .ref q_t_minus, .ref q_t_divisor, .int t_sign, .int t_length])), (q_t_plus, .inl (cA, n_t_plus, .inl a_t_plus)), (q_t_minus, .inl (cA, n_t_minus, .inl a_t_minus)), (q_t_divisor, .inl (cA, n_t_divisor, .inl a_t_divisor))] sz) o) 0 0 (va_A [(q_t, .inr (1, [.int t_room, .ref q_t_plus, .ref q_t_minus, .ref q_t_divisor, .int t_sign, .int t_length])), (q_t_plus, .inl (cA, n_t_plus, .inl a_t_plus)), (q_t_minus, .inl (cA, n_t_minus, .inl a_t_minus)), (q_t_divisor, .inl (cA, n_t_divisor, .inl a_t_divisor))] sz) := by
  unfold f_S_isZero at hf
  refine k_ent (Qc := fun A => c_Qi (dC, dI) vwCl [(cA, .int)] [(q_t, .inr (1, [.int t_room, .ref q_t_plus, .ref q_t_minus, .ref q_t_divisor, .int t_sign, .int t_length])), (q_t_plus, .inl (cA, n_t_plus, .inl a_t_plus)), (q_t_minus, .inl (cA, n_t_minus, .inl a_t_minus)), (q_t_divisor, .inl (cA, n_t_divisor, .inl a_t_divisor))] A o) (by decide) rfl (Nat.le_of_ble_eq_true rfl) ?_
  intro p e s m below meth c A hx hb hr hown hts hml hlocks hin hsz hA hK H locs hP hD hS ls hl
  have hown : s.vm.findClass RX1 = some m.cls := hown
  have hl : lv_has ls 1 [(0, .ref q_t)] := hl
  refine lv_aload_n hx hb dX1_isZero_0 rfl (lv_at hl 0 rfl) ?_
  obtain ⟨x1, g2, hf⟩ := og_b hf
  refine kc_i (wr := []) (w1 := [(q_t, .inr (1, [.int t_room, .ref q_t_plus, .ref q_t_minus, .ref q_t_divisor, .int t_sign, .int t_length])), (q_t_plus, .inl (cA, n_t_plus, .inl a_t_plus)), (q_t_minus, .inl (cA, n_t_minus, .inl a_t_minus)), (q_t_divisor, .inl (cA, n_t_divisor, .inl a_t_divisor))]) [0, 1, 2, 3] [] (va_runV (As := []) (rest := []) ⟨hx, hb, hml, hown, hts⟩ (c_S_compareSides l dC dI cA H.size q_t q_t_plus q_t_minus q_t_divisor k t_room t_sign t_length n_t_plus a_t_plus n_t_minus a_t_minus n_t_divisor a_t_divisor x1 g2) (cwV 0 hts gX1_isZero_X1_compareSides rfl rfl rfl (by decide +kernel) ⟨Nat.le_of_ble_eq_true rfl, Nat.le_of_ble_eq_true rfl⟩) (kc_preV hP hD hK [0, 1, 2, 3] rfl rfl (by decide) (ci := 1) (q0 := 0) rfl rfl) rfl rfl hl.1 rfl (lv_room (Nat.le_of_ble_eq_true rfl)) dX1_isZero_1 ⟨Nat.le_of_ble_eq_true rfl, Nat.le_of_ble_eq_true rfl⟩) hP hD hS hA rfl rfl (by decide) (by decide) (fun H locs hP hD hS => ?_)
  have hP : va_P (dC, dI) vwCl [(q_t, .inr (1, [.int t_room, .ref q_t_plus, .ref q_t_minus, .ref q_t_divisor, .int t_sign, .int t_length])), (q_t_plus, .inl (cA, n_t_plus, .inl a_t_plus)), (q_t_minus, .inl (cA, n_t_minus, .inl a_t_minus)), (q_t_divisor, .inl (cA, n_t_divisor, .inl a_t_divisor))] H := hP
  have hD : va_D A [(q_t, .inr (1, [.int t_room, .ref q_t_plus, .ref q_t_minus, .ref q_t_divisor, .int t_sign, .int t_length])), (q_t_plus, .inl (cA, n_t_plus, .inl a_t_plus)), (q_t_minus, .inl (cA, n_t_minus, .inl a_t_minus)), (q_t_divisor, .inl (cA, n_t_divisor, .inl a_t_divisor))] := hD
  refine lv_if_ne (tgt := 11) hx hb dX1_isZero_4 (by decide) (fun c3 => ?_) (fun c3 => ?_)
  · have hf := og_f c3 hf
    refine lv_iconst (v := 0) hx hb dX1_isZero_11 (by decide) ?_
    have e9 := Option.some.inj hf
    subst e9
    exact kr_z (v := 0) hx hb hr hlocks nz_0 hK hS (hP.sub [0, 1, 2, 3] rfl) (hD.sub [0, 1, 2, 3] (by decide) rfl) dX1_isZero_12
  · have hf := og_t c3 hf
    refine lv_iconst (v := 1) hx hb dX1_isZero_7 (by decide) ?_
    refine lv_goto (tgt := 12) hx hb dX1_isZero_8 (by decide) ?_
    have e9 := Option.some.inj hf
    subst e9
    exact kr_z (v := 1) hx hb hr hlocks nz_1 hK hS (hP.sub [0, 1, 2, 3] rfl) (hD.sub [0, 1, 2, 3] (by decide) rfl) dX1_isZero_12
def rm_S_trimmed : Room := { frames := 0, cells := 0, slots := 0, locals := 0 }
set_option maxHeartbeats 4000000 in
set_option maxRecDepth 100000 in
theorem w_S_trimmed_L2 {p : Program} {l : Launch} {e : Env} {s : State} {m : MethodId} {args : Array Value} {below : List Frame} {meth : Method} {c : Code} {Q : State → Prop} {A : Nat → Prop} {H0 : Heap} {dC : Nat → ClassId} {dI : Nat → Nat → Nat} {cA : ClassId} (hx : p.tables.exec = Jvm.exec) (hb : c.code = cX1_trimmed) (hown : s.vm.findClass RX1 = some m.cls) (hts : ∀ w ∈ wsX1_trimmed, w.before args s = true) (hml : c.maxLocals = 3) (hA : ∀ q, H0.size ≤ q → A q) (hK : va_K (dC, dI) vwCl [(cA, .int)] s) (k : Nat) (q_row : Nat) (n_row : Nat) (a_row : Nat → Int32) : ∀ (j : Nat) (v2 : Int32) (o : Int32), f_S_trimmed_L2 k n_row a_row j v2 = some o → ∀ (H : Heap) (locs : List Loc), va_P (dC, dI) vwCl [(q_row, .inl (cA, n_row, .inl a_row))] H → va_D A [(q_row, .inl (cA, n_row, .inl a_row))] → va_S A H0 H locs → ∀ ls : Array Slot, lv_has ls 3 [(0, .ref q_row), (2, .int v2)] → ∀ (he : ∀ (H : Heap) (locs : List Loc), va_P (dC, dI) vwCl [(q_row, .inl (cA, n_row, .inl a_row))] H → va_D A [(q_row, .inl (cA, n_row, .inl a_row))] → va_S A H0 H locs → ∀ ls : Array Slot, lv_has ls 3 [(2, .int o)] → W p l e rm_S_trimmed s m args below meth c H locs 0 0 Q (F0 m 20 ls [])), W p l e rm_S_trimmed s m args below meth c H locs 0 0 Q (F0 m 2 ls []) := by
  intro j
  induction j with
  | zero =>
    intro v2 o hf
    rw [f_S_trimmed_L2] at hf
    cases hf
  | succ j ih =>
    intro v2 o hf H locs hP hD hS ls hl he
    rw [f_S_trimmed_L2] at hf
    refine lv_iload_n hx hb dX1_trimmed_2 rfl (lv_at hl 1 rfl) ?_
    refine lv_if_le (tgt := 20) hx hb dX1_trimmed_3 (by decide) (fun c7 => ?_) (fun c7 => ?_)
    · have hf := og_t c7 hf
      have e9 := Option.some.inj hf
      subst e9
      exact he _ _ (hP.sub [0] rfl) (hD.sub [0] (by decide) rfl) hS _ (lv_sub hl [1] rfl)
    · have hf := og_f c7 hf
      refine lv_aload_n hx hb dX1_trimmed_6 rfl (lv_at hl 0 rfl) ?_
      refine lv_iload_n hx hb dX1_trimmed_7 rfl (lv_at hl 1 rfl) ?_
      refine lv_iconst (v := 1) hx hb dX1_trimmed_8 (by decide) ?_
      refine lv_isub hx hb dX1_trimmed_9 ?_
      obtain ⟨g8, hf⟩ := og_c hf
      refine va_iald hx hb hK hP 0 0 rfl rfl (og_in g8) dX1_trimmed_10 ?_
      refine lv_if_ne (tgt := 20) hx hb dX1_trimmed_11 (by decide) (fun c9 => ?_) (fun c9 => ?_)
      · have hf := og_f c9 hf
        have e9 := Option.some.inj hf
        subst e9
        exact he _ _ (hP.sub [0] rfl) (hD.sub [0] (by decide) rfl) hS _ (lv_sub hl [1] rfl)
      · have hf := og_t c9 hf
        refine lv_iinc (v := v2 + (-1)) (lv' := [(2, .int (v2 + (-1))), (0, .ref q_row)]) hx hb dX1_trimmed_14 hl (k := 1) rfl rfl (by decide) rfl (fun ls hl => ?_)
        refine lv_goto (tgt := 2) hx hb dX1_trimmed_17 (by decide) ?_
        exact ih (v2 + (-1)) _ hf _ _ (hP.sub [0] rfl) (hD.sub [0] (by decide) rfl) hS _ (lv_sub hl [1, 0] rfl) he
set_option maxHeartbeats 4000000 in
set_option maxRecDepth 100000 in
theorem c_S_trimmed (l : Launch) (dC : Nat → ClassId) (dI : Nat → Nat → Nat) (cA : ClassId) (sz : Nat) (q_row : Nat) (k : Nat) (n_row : Nat) (a_row : Nat → Int32) (most : Int32) (o : Int32) (hf : f_S_trimmed k n_row a_row most = some o) : Met l yX1_trimmed wsX1_trimmed rm_S_trimmed (c_Pre (dC, dI) vwCl [(cA, .int)] [(q_row, .inl (cA, n_row, .inl a_row))] sz [.ref q_row, .int most]) (c_Qi (dC, dI) vwCl [(cA, .int)] [(q_row, .inl (cA, n_row, .inl a_row))] (va_A [(q_row, .inl (cA, n_row, .inl a_row))] sz) o) 0 0 (va_A [(q_row, .inl (cA, n_row, .inl a_row))] sz) := by
  unfold f_S_trimmed at hf
  refine k_ent (Qc := fun A => c_Qi (dC, dI) vwCl [(cA, .int)] [(q_row, .inl (cA, n_row, .inl a_row))] A o) (by decide) rfl (Nat.le_of_ble_eq_true rfl) ?_
  intro p e s m below meth c A hx hb hr hown hts hml hlocks hin hsz hA hK H locs hP hD hS ls hl
  have hown : s.vm.findClass RX1 = some m.cls := hown
  have hl : lv_has ls 3 [(0, .ref q_row), (1, .int most)] := hl
  refine lv_iload_n hx hb dX1_trimmed_0 rfl (lv_at hl 1 rfl) ?_
  refine lv_istore_n (lv' := [(2, .int most), (0, .ref q_row), (1, .int most)]) hx hb dX1_trimmed_1 rfl hl (by decide) rfl (fun ls hl => ?_)
  obtain ⟨x10, g11, hf⟩ := og_b hf
  refine w_S_trimmed_L2 hx hb hown hts hml hA hK k q_row n_row a_row k most _ g11 _ _ (hP.sub [0] rfl) (hD.sub [0] (by decide) rfl) hS _ (lv_sub hl [1, 0] rfl) ?_
  intro H locs hP hD hS ls hl
  refine lv_iload_n hx hb dX1_trimmed_20 rfl (lv_at hl 0 rfl) ?_
  have e9 := Option.some.inj hf
  subst e9
  exact kr_i hx hb hr hlocks hK hS (hP.sub [0] rfl) (hD.sub [0] (by decide) rfl) dX1_trimmed_21
def rm_S_settle : Room := { frames := 1, cells := 0, slots := 0, locals := 22 }
theorem kw_S_settle_0 : (.fieldLink RX1 31 "MinorSteps$Sum" "sign" "I" : Cond) ∈ wsX1_settle := by decide +kernel
theorem kw_S_settle_1 : (.fieldLink RX1 15 "MinorSteps$Sum" "plus" "[I" : Cond) ∈ wsX1_settle := by decide +kernel
theorem kw_S_settle_2 : (.fieldLink RX1 19 "MinorSteps$Sum" "minus" "[I" : Cond) ∈ wsX1_settle := by decide +kernel
theorem kw_S_settle_3 : (.constantLong RX1 54 2147483647 : Cond) ∈ wsX1_settle := by decide +kernel
theorem kw_S_settle_4 : (.fieldLink RX1 34 "MinorSteps$Sum" "length" "I" : Cond) ∈ wsX1_settle := by decide +kernel
theorem ki_S_settle_X1 : ∀ w ∈ u_ws RX1 TX1 6, w ∈ wsX1_settle := by decide +kernel
set_option maxHeartbeats 4000000 in
set_option maxRecDepth 100000 in
theorem w_S_settle_L12 {p : Program} {l : Launch} {e : Env} {s : State} {m : MethodId} {args : Array Value} {below : List Frame} {meth : Method} {c : Code} {Q : State → Prop} {A : Nat → Prop} {H0 : Heap} {dC : Nat → ClassId} {dI : Nat → Nat → Nat} {cA : ClassId} (hx : p.tables.exec = Jvm.exec) (hb : c.code = cX1_settle) (hown : s.vm.findClass RX1 = some m.cls) (hts : ∀ w ∈ wsX1_settle, w.before args s = true) (hml : c.maxLocals = 4) (hA : ∀ q, H0.size ≤ q → A q) (hK : va_K (dC, dI) vwCl [(cA, .int)] s) (k : Nat) (q_t : Nat) (q_t_plus : Nat) (q_t_minus : Nat) (q_t_divisor : Nat) (i0_t : Int32) (i4_t : Int32) (i5_t : Int32) (n_t_plus : Nat) (n_t_minus : Nat) (a_t_minus : Nat → Int32) (n_t_divisor : Nat) (a_t_divisor : Nat → Int32) : ∀ (j : Nat) (v1 : Int64) (v3 : Int32) (a_t_plus : Nat → Int32) (o : Int64 × Int32 × (Nat → Int32)), f_S_settle_L12 k i4_t n_t_plus n_t_minus a_t_minus j v1 v3 a_t_plus = some o → ∀ (H : Heap) (locs : List Loc), va_P (dC, dI) vwCl [(q_t, .inr (1, [.int i0_t, .ref q_t_plus, .ref q_t_minus, .ref q_t_divisor, .int i4_t, .int i5_t])), (q_t_plus, .inl (cA, n_t_plus, .inl a_t_plus)), (q_t_minus, .inl (cA, n_t_minus, .inl a_t_minus)), (q_t_divisor, .inl (cA, n_t_divisor, .inl a_t_divisor))] H → va_D A [(q_t, .inr (1, [.int i0_t, .ref q_t_plus, .ref q_t_minus, .ref q_t_divisor, .int i4_t, .int i5_t])), (q_t_plus, .inl (cA, n_t_plus, .inl a_t_plus)), (q_t_minus, .inl (cA, n_t_minus, .inl a_t_minus)), (q_t_divisor, .inl (cA, n_t_divisor, .inl a_t_divisor))] → va_S A H0 H locs → ∀ ls : Array Slot, lv_has ls 4 [(0, .ref q_t), (1, .long v1), (3, .int v3)] → ∀ (he : ∀ (H : Heap) (locs : List Loc), va_P (dC, dI) vwCl [(q_t, .inr (1, [.int i0_t, .ref q_t_plus, .ref q_t_minus, .ref q_t_divisor, .int i4_t, .int i5_t])), (q_t_plus, .inl (cA, n_t_plus, .inl o.2.2)), (q_t_minus, .inl (cA, n_t_minus, .inl a_t_minus)), (q_t_divisor, .inl (cA, n_t_divisor, .inl a_t_divisor))] H → va_D A [(q_t, .inr (1, [.int i0_t, .ref q_t_plus, .ref q_t_minus, .ref q_t_divisor, .int i4_t, .int i5_t])), (q_t_plus, .inl (cA, n_t_plus, .inl o.2.2)), (q_t_minus, .inl (cA, n_t_minus, .inl a_t_minus)), (q_t_divisor, .inl (cA, n_t_divisor, .inl a_t_divisor))] → va_S A H0 H locs → ∀ ls : Array Slot, lv_has ls 4 [(0, .ref q_t)] → W p l e rm_S_settle s m args below meth c H locs 0 0 Q (F0 m 68 ls [])), W p l e rm_S_settle s m args below meth c H locs 0 0 Q (F0 m 12 ls []) := by
  intro j
  induction j with
  | zero =>
    intro v1 v3 a_t_plus o hf
    rw [f_S_settle_L12] at hf
    cases hf
  | succ j ih =>
    intro v1 v3 a_t_plus o hf H locs hP hD hS ls hl he
    rw [f_S_settle_L12] at hf
    refine lv_iload_n hx hb dX1_settle_12 rfl (lv_at hl 2 rfl) ?_
    refine lv_aload_n hx hb dX1_settle_13 rfl (lv_at hl 0 rfl) ?_
    refine va_get (D := (dC, dI)) (ci := 1) (v := .ref q_t_plus) (C := RX1) (T := TX1) (N := 6) hx hb hts ki_S_settle_X1 hown hK hP 0 rfl rfl 1 (by decide) (hts (.fieldLink RX1 15 "MinorSteps$Sum" "plus" "[I") kw_S_settle_1) (fun _ h9 => h9) rfl dX1_settle_14 ?_
    refine va_alen hx hb hK hP 1 0 rfl rfl (v := nI n_t_plus) rfl dX1_settle_17 ?_
    refine lv_icmp_ge (tgt := 68) hx hb dX1_settle_18 (by decide) (fun c11 => ?_) (fun c11 => ?_)
    · have hf := og_t c11 hf
      have e9 := Option.some.inj hf
      subst e9
      exact he _ _ (hP.sub [0, 1, 2, 3] rfl) (hD.sub [0, 1, 2, 3] (by decide) rfl) hS _ (lv_sub hl [0] rfl)
    · have hf := og_f c11 hf
      refine lv_lload_n hx hb dX1_settle_21 rfl (lv_at hl 1 rfl) ?_
      refine lv_aload_n hx hb dX1_settle_22 rfl (lv_at hl 0 rfl) ?_
      refine va_get (D := (dC, dI)) (ci := 1) (v := .int i4_t) (C := RX1) (T := TX1) (N := 6) hx hb hts ki_S_settle_X1 hown hK hP 0 rfl rfl 4 (by decide) (hts (.fieldLink RX1 31 "MinorSteps$Sum" "sign" "I") kw_S_settle_0) (fun _ h9 => h9) rfl dX1_settle_23 ?_
      refine lv_i2l (v := i4_t.toInt64) hx hb dX1_settle_26 rfl ?_
      refine lv_aload_n hx hb dX1_settle_27 rfl (lv_at hl 0 rfl) ?_
      refine va_get (D := (dC, dI)) (ci := 1) (v := .ref q_t_plus) (C := RX1) (T := TX1) (N := 6) hx hb hts ki_S_settle_X1 hown hK hP 0 rfl rfl 1 (by decide) (hts (.fieldLink RX1 15 "MinorSteps$Sum" "plus" "[I") kw_S_settle_1) (fun _ h9 => h9) rfl dX1_settle_28 ?_
      refine lv_iload_n hx hb dX1_settle_31 rfl (lv_at hl 2 rfl) ?_
      obtain ⟨g12, hf⟩ := og_c hf
      refine va_iald hx hb hK hP 1 0 rfl rfl (og_in g12) dX1_settle_32 ?_
      refine lv_i2l (v := (a_t_plus v3.toNatClampNeg).toInt64) hx hb dX1_settle_33 rfl ?_
      refine lv_aload_n hx hb dX1_settle_34 rfl (lv_at hl 0 rfl) ?_
      refine va_get (D := (dC, dI)) (ci := 1) (v := .ref q_t_minus) (C := RX1) (T := TX1) (N := 6) hx hb hts ki_S_settle_X1 hown hK hP 0 rfl rfl 2 (by decide) (hts (.fieldLink RX1 19 "MinorSteps$Sum" "minus" "[I") kw_S_settle_2) (fun _ h9 => h9) rfl dX1_settle_35 ?_
      refine lv_iload_n hx hb dX1_settle_38 rfl (lv_at hl 2 rfl) ?_
      obtain ⟨g13, hf⟩ := og_c hf
      refine va_iald hx hb hK hP 2 0 rfl rfl (og_in g13) dX1_settle_39 ?_
      refine lv_i2l (v := (a_t_minus v3.toNatClampNeg).toInt64) hx hb dX1_settle_40 rfl ?_
      refine lv_lsub hx hb dX1_settle_41 ?_
      refine lv_lmul hx hb dX1_settle_42 ?_
      refine lv_ladd hx hb dX1_settle_43 ?_
      refine lv_lstore_n (lv' := [(1, .long (v1 + (i4_t.toInt64 * (((a_t_plus v3.toNatClampNeg).toInt64) - ((a_t_minus v3.toNatClampNeg).toInt64))))), (0, .ref q_t), (3, .int v3)]) hx hb dX1_settle_44 rfl hl (by decide) rfl (fun ls hl => ?_)
      refine lv_aload_n hx hb dX1_settle_45 rfl (lv_at hl 1 rfl) ?_
      refine va_get (D := (dC, dI)) (ci := 1) (v := .ref q_t_plus) (C := RX1) (T := TX1) (N := 6) hx hb hts ki_S_settle_X1 hown hK hP 0 rfl rfl 1 (by decide) (hts (.fieldLink RX1 15 "MinorSteps$Sum" "plus" "[I") kw_S_settle_1) (fun _ h9 => h9) rfl dX1_settle_46 ?_
      refine lv_iload_n hx hb dX1_settle_49 rfl (lv_at hl 2 rfl) ?_
      refine lv_lload_n hx hb dX1_settle_50 rfl (lv_at hl 0 rfl) ?_
      refine lv_ldc2 (v := 2147483647) hx hb hown (hts (.constantLong RX1 54 2147483647) kw_S_settle_3) dX1_settle_51 ?_
      refine lv_land hx hb dX1_settle_54 ?_
      refine lv_l2i (v := ((v1 + (i4_t.toInt64 * (((a_t_plus v3.toNatClampNeg).toInt64) - ((a_t_minus v3.toNatClampNeg).toInt64)))) &&& 2147483647).toInt32) hx hb dX1_settle_55 rfl ?_
      obtain ⟨g14, hf⟩ := og_c hf
      refine va_iast hx hb hK hP hD hS 1 0 rfl rfl (og_in g14) dX1_settle_56 (fun H locs hP hD hS => ?_)
      have hP : va_P (dC, dI) vwCl [(q_t, .inr (1, [.int i0_t, .ref q_t_plus, .ref q_t_minus, .ref q_t_divisor, .int i4_t, .int i5_t])), (q_t_plus, .inl (cA, n_t_plus, .inl (upd a_t_plus v3.toNatClampNeg (((v1 + (i4_t.toInt64 * (((a_t_plus v3.toNatClampNeg).toInt64) - ((a_t_minus v3.toNatClampNeg).toInt64)))) &&& 2147483647).toInt32)))), (q_t_minus, .inl (cA, n_t_minus, .inl a_t_minus)), (q_t_divisor, .inl (cA, n_t_divisor, .inl a_t_divisor))] H := hP
      have hD : va_D A [(q_t, .inr (1, [.int i0_t, .ref q_t_plus, .ref q_t_minus, .ref q_t_divisor, .int i4_t, .int i5_t])), (q_t_plus, .inl (cA, n_t_plus, .inl (upd a_t_plus v3.toNatClampNeg (((v1 + (i4_t.toInt64 * (((a_t_plus v3.toNatClampNeg).toInt64) - ((a_t_minus v3.toNatClampNeg).toInt64)))) &&& 2147483647).toInt32)))), (q_t_minus, .inl (cA, n_t_minus, .inl a_t_minus)), (q_t_divisor, .inl (cA, n_t_divisor, .inl a_t_divisor))] := hD
      refine lv_lload_n hx hb dX1_settle_57 rfl (lv_at hl 0 rfl) ?_
      refine lv_bipush (v := 31) hx hb dX1_settle_58 (by decide) ?_
      refine lv_lshr (v := (v1 + (i4_t.toInt64 * (((a_t_plus v3.toNatClampNeg).toInt64) - ((a_t_minus v3.toNatClampNeg).toInt64)))) >>> ((31 : Int32).toInt64 &&& 63)) hx hb dX1_settle_60 rfl ?_
      refine lv_lstore_n (lv' := [(1, .long ((v1 + (i4_t.toInt64 * (((a_t_plus v3.toNatClampNeg).toInt64) - ((a_t_minus v3.toNatClampNeg).toInt64)))) >>> ((31 : Int32).toInt64 &&& 63))), (0, .ref q_t), (3, .int v3)]) hx hb dX1_settle_61 rfl hl (by decide) rfl (fun ls hl => ?_)
      refine lv_iinc (v := v3 + 1) (lv' := [(3, .int (v3 + 1)), (1, .long ((v1 + (i4_t.toInt64 * (((a_t_plus v3.toNatClampNeg).toInt64) - ((a_t_minus v3.toNatClampNeg).toInt64)))) >>> ((31 : Int32).toInt64 &&& 63))), (0, .ref q_t)]) hx hb dX1_settle_62 hl (k := 2) rfl rfl (by decide) rfl (fun ls hl => ?_)
      refine lv_goto (tgt := 12) hx hb dX1_settle_65 (by decide) ?_
      exact ih ((v1 + (i4_t.toInt64 * (((a_t_plus v3.toNatClampNeg).toInt64) - ((a_t_minus v3.toNatClampNeg).toInt64)))) >>> ((31 : Int32).toInt64 &&& 63)) (v3 + 1) (upd a_t_plus v3.toNatClampNeg (((v1 + (i4_t.toInt64 * (((a_t_plus v3.toNatClampNeg).toInt64) - ((a_t_minus v3.toNatClampNeg).toInt64)))) &&& 2147483647).toInt32)) _ hf _ _ (hP.sub [0, 1, 2, 3] rfl) (hD.sub [0, 1, 2, 3] (by decide) rfl) hS _ (lv_sub hl [2, 1, 0] rfl) he
set_option maxHeartbeats 4000000 in
set_option maxRecDepth 100000 in
theorem c_S_settle (l : Launch) (dC : Nat → ClassId) (dI : Nat → Nat → Nat) (cA : ClassId) (sz : Nat) (q_t : Nat) (q_t_plus : Nat) (q_t_minus : Nat) (q_t_divisor : Nat) (k : Nat) (t_room : Int32) (t_sign : Int32) (t_length : Int32) (n_t_plus : Nat) (a_t_plus : Nat → Int32) (n_t_minus : Nat) (a_t_minus : Nat → Int32) (n_t_divisor : Nat) (a_t_divisor : Nat → Int32) (o : Int32 × Int32 × (Nat → Int32)) (hf : f_S_settle k n_t_plus a_t_plus n_t_minus a_t_minus = some o) : Met l yX1_settle wsX1_settle rm_S_settle (c_Pre (dC, dI) vwCl [(cA, .int)] [(q_t, .inr (1, [.int t_room, .ref q_t_plus, .ref q_t_minus, .ref q_t_divisor, .int t_sign, .int t_length])), (q_t_plus, .inl (cA, n_t_plus, .inl a_t_plus)), (q_t_minus, .inl (cA, n_t_minus, .inl a_t_minus)), (q_t_divisor, .inl (cA, n_t_divisor, .inl a_t_divisor))] sz [.ref q_t]) (c_Qv (dC, dI) vwCl [(cA, .int)] [(q_t, .inr (1, [.int t_room, .ref q_t_plus, .ref q_t_minus, .ref q_t_divisor, .int o.1, .int o.2.1])), (q_t_plus, .inl (cA, n_t_plus, .inl o.2.2)), (q_t_minus, .inl (cA, n_t_minus, .inl a_t_minus)), (q_t_divisor, .inl (cA, n_t_divisor, .inl a_t_divisor))] (va_A [(q_t, .inr (1, [.int t_room, .ref q_t_plus, .ref q_t_minus, .ref q_t_divisor, .int t_sign, .int t_length])), (q_t_plus, .inl (cA, n_t_plus, .inl a_t_plus)), (q_t_minus, .inl (cA, n_t_minus, .inl a_t_minus)), (q_t_divisor, .inl (cA, n_t_divisor, .inl a_t_divisor))] sz)) 0 0 (va_A [(q_t, .inr (1, [.int t_room, .ref q_t_plus, .ref q_t_minus, .ref q_t_divisor, .int t_sign, .int t_length])), (q_t_plus, .inl (cA, n_t_plus, .inl a_t_plus)), (q_t_minus, .inl (cA, n_t_minus, .inl a_t_minus)), (q_t_divisor, .inl (cA, n_t_divisor, .inl a_t_divisor))] sz) := by
  unfold f_S_settle at hf
  refine k_ent (Qc := fun A => c_Qv (dC, dI) vwCl [(cA, .int)] [(q_t, .inr (1, [.int t_room, .ref q_t_plus, .ref q_t_minus, .ref q_t_divisor, .int o.1, .int o.2.1])), (q_t_plus, .inl (cA, n_t_plus, .inl o.2.2)), (q_t_minus, .inl (cA, n_t_minus, .inl a_t_minus)), (q_t_divisor, .inl (cA, n_t_divisor, .inl a_t_divisor))] A) (by decide) rfl (Nat.le_of_ble_eq_true rfl) ?_
  intro p e s m below meth c A hx hb hr hown hts hml hlocks hin hsz hA hK H locs hP hD hS ls hl
  have hown : s.vm.findClass RX1 = some m.cls := hown
  have hl : lv_has ls 4 [(0, .ref q_t)] := hl
  refine lv_aload_n hx hb dX1_settle_0 rfl (lv_at hl 0 rfl) ?_
  refine lv_aload_n hx hb dX1_settle_1 rfl (lv_at hl 0 rfl) ?_
  obtain ⟨x1, g2, hf⟩ := og_b hf
  refine kc_i (wr := []) (w1 := [(q_t, .inr (1, [.int t_room, .ref q_t_plus, .ref q_t_minus, .ref q_t_divisor, .int t_sign, .int t_length])), (q_t_plus, .inl (cA, n_t_plus, .inl a_t_plus)), (q_t_minus, .inl (cA, n_t_minus, .inl a_t_minus)), (q_t_divisor, .inl (cA, n_t_divisor, .inl a_t_divisor))]) [0, 1, 2, 3] [] (va_runV (As := []) (rest := [.ref q_t]) ⟨hx, hb, hml, hown, hts⟩ (c_S_compareSides l dC dI cA H.size q_t q_t_plus q_t_minus q_t_divisor k t_room t_sign t_length n_t_plus a_t_plus n_t_minus a_t_minus n_t_divisor a_t_divisor x1 g2) (cwV 0 hts gX1_settle_X1_compareSides rfl rfl rfl (by decide +kernel) ⟨Nat.le_of_ble_eq_true rfl, Nat.le_of_ble_eq_true rfl⟩) (kc_preV hP hD hK [0, 1, 2, 3] rfl rfl (by decide) (ci := 1) (q0 := 0) rfl rfl) rfl rfl hl.1 rfl (lv_room (Nat.le_of_ble_eq_true rfl)) dX1_settle_2 ⟨Nat.le_of_ble_eq_true rfl, Nat.le_of_ble_eq_true rfl⟩) hP hD hS hA rfl rfl (by decide) (by decide) (fun H locs hP hD hS => ?_)
  have hP : va_P (dC, dI) vwCl [(q_t, .inr (1, [.int t_room, .ref q_t_plus, .ref q_t_minus, .ref q_t_divisor, .int t_sign, .int t_length])), (q_t_plus, .inl (cA, n_t_plus, .inl a_t_plus)), (q_t_minus, .inl (cA, n_t_minus, .inl a_t_minus)), (q_t_divisor, .inl (cA, n_t_divisor, .inl a_t_divisor))] H := hP
  have hD : va_D A [(q_t, .inr (1, [.int t_room, .ref q_t_plus, .ref q_t_minus, .ref q_t_divisor, .int t_sign, .int t_length])), (q_t_plus, .inl (cA, n_t_plus, .inl a_t_plus)), (q_t_minus, .inl (cA, n_t_minus, .inl a_t_minus)), (q_t_divisor, .inl (cA, n_t_divisor, .inl a_t_divisor))] := hD
  refine va_put (D := (dC, dI)) (ci := 1) (v := .int x1) (ty := .int) (C := RX1) (T := TX1) (N := 6) hx hb hts ki_S_settle_X1 tyX1 tyX1_ok nmX1 hown hK hP hD hS 0 rfl rfl 4 (by decide) (hts (.fieldLink RX1 31 "MinorSteps$Sum" "sign" "I") kw_S_settle_0) (fun _ h9 => h9) rfl (by decide +kernel) rfl rfl (Nat.le_of_ble_eq_true rfl) dX1_settle_5 (fun H locs hP hD hS => ?_)
  have hP : va_P (dC, dI) vwCl [(q_t, .inr (1, [.int t_room, .ref q_t_plus, .ref q_t_minus, .ref q_t_divisor, .int x1, .int t_length])), (q_t_plus, .inl (cA, n_t_plus, .inl a_t_plus)), (q_t_minus, .inl (cA, n_t_minus, .inl a_t_minus)), (q_t_divisor, .inl (cA, n_t_divisor, .inl a_t_divisor))] H := hP
  have hD : va_D A [(q_t, .inr (1, [.int t_room, .ref q_t_plus, .ref q_t_minus, .ref q_t_divisor, .int x1, .int t_length])), (q_t_plus, .inl (cA, n_t_plus, .inl a_t_plus)), (q_t_minus, .inl (cA, n_t_minus, .inl a_t_minus)), (q_t_divisor, .inl (cA, n_t_divisor, .inl a_t_divisor))] := hD
  refine lv_lconst (v := 0) hx hb dX1_settle_8 (by decide) ?_
  refine lv_lstore_n (lv' := [(1, .long 0), (0, .ref q_t)]) hx hb dX1_settle_9 rfl hl (by decide) rfl (fun ls hl => ?_)
  refine lv_iconst (v := 0) hx hb dX1_settle_10 (by decide) ?_
  refine lv_istore_n (lv' := [(3, .int 0), (1, .long 0), (0, .ref q_t)]) hx hb dX1_settle_11 rfl hl (by decide) rfl (fun ls hl => ?_)
  obtain ⟨x15, g16, hf⟩ := og_b hf
  refine w_S_settle_L12 hx hb hown hts hml hA hK k q_t q_t_plus q_t_minus q_t_divisor t_room x1 t_length n_t_plus n_t_minus a_t_minus n_t_divisor a_t_divisor k (0 : Int64) (0 : Int32) a_t_plus _ g16 _ _ (hP.sub [0, 1, 2, 3] rfl) (hD.sub [0, 1, 2, 3] (by decide) rfl) hS _ (lv_sub hl [2, 1, 0] rfl) ?_
  intro H locs hP hD hS ls hl
  refine lv_aload_n hx hb dX1_settle_68 rfl (lv_at hl 0 rfl) ?_
  refine lv_aload_n hx hb dX1_settle_69 rfl (lv_at hl 0 rfl) ?_
  refine va_get (D := (dC, dI)) (ci := 1) (v := .ref q_t_plus) (C := RX1) (T := TX1) (N := 6) hx hb hts ki_S_settle_X1 hown hK hP 0 rfl rfl 1 (by decide) (hts (.fieldLink RX1 15 "MinorSteps$Sum" "plus" "[I") kw_S_settle_1) (fun _ h9 => h9) rfl dX1_settle_70 ?_
  refine lv_aload_n hx hb dX1_settle_73 rfl (lv_at hl 0 rfl) ?_
  refine va_get (D := (dC, dI)) (ci := 1) (v := .ref q_t_plus) (C := RX1) (T := TX1) (N := 6) hx hb hts ki_S_settle_X1 hown hK hP 0 rfl rfl 1 (by decide) (hts (.fieldLink RX1 15 "MinorSteps$Sum" "plus" "[I") kw_S_settle_1) (fun _ h9 => h9) rfl dX1_settle_74 ?_
  refine va_alen hx hb hK hP 1 0 rfl rfl (v := nI n_t_plus) rfl dX1_settle_77 ?_
  obtain ⟨x17, g18, hf⟩ := og_b hf
  refine kc_i (wr := [(q_t, .inr (1, [.int t_room, .ref q_t_plus, .ref q_t_minus, .ref q_t_divisor, .int x1, .int t_length])), (q_t_minus, .inl (cA, n_t_minus, .inl a_t_minus)), (q_t_divisor, .inl (cA, n_t_divisor, .inl a_t_divisor))]) (w1 := [(q_t_plus, .inl (cA, n_t_plus, .inl x15.2.2))]) [1] [0, 2, 3] (va_runS (As := [.ref q_t_plus, .int (nI n_t_plus)]) (rest := [.ref q_t]) ⟨hx, hb, hml, hown, hts⟩ (c_S_trimmed l dC dI cA H.size q_t_plus k n_t_plus x15.2.2 (nI n_t_plus) x17 g18) (va_cwS 2 hts gX1_settle_X1_trimmed rfl rfl rfl (by decide +kernel) ⟨Nat.le_of_ble_eq_true rfl, Nat.le_of_ble_eq_true rfl⟩) (kc_preS hP hD hK [1] rfl rfl (by decide)) rfl rfl hl.1 rfl (lv_room (Nat.le_of_ble_eq_true rfl)) dX1_settle_78 ⟨Nat.le_of_ble_eq_true rfl, Nat.le_of_ble_eq_true rfl⟩) hP hD hS hA rfl rfl (by decide) (by decide) (fun H locs hP hD hS => ?_)
  have hP : va_P (dC, dI) vwCl [(q_t, .inr (1, [.int t_room, .ref q_t_plus, .ref q_t_minus, .ref q_t_divisor, .int x1, .int t_length])), (q_t_minus, .inl (cA, n_t_minus, .inl a_t_minus)), (q_t_divisor, .inl (cA, n_t_divisor, .inl a_t_divisor)), (q_t_plus, .inl (cA, n_t_plus, .inl x15.2.2))] H := hP
  have hD : va_D A [(q_t, .inr (1, [.int t_room, .ref q_t_plus, .ref q_t_minus, .ref q_t_divisor, .int x1, .int t_length])), (q_t_minus, .inl (cA, n_t_minus, .inl a_t_minus)), (q_t_divisor, .inl (cA, n_t_divisor, .inl a_t_divisor)), (q_t_plus, .inl (cA, n_t_plus, .inl x15.2.2))] := hD
  refine va_put (D := (dC, dI)) (ci := 1) (v := .int x17) (ty := .int) (C := RX1) (T := TX1) (N := 6) hx hb hts ki_S_settle_X1 tyX1 tyX1_ok nmX1 hown hK hP hD hS 0 rfl rfl 5 (by decide) (hts (.fieldLink RX1 34 "MinorSteps$Sum" "length" "I") kw_S_settle_4) (fun _ h9 => h9) rfl (by decide +kernel) rfl rfl (Nat.le_of_ble_eq_true rfl) dX1_settle_81 (fun H locs hP hD hS => ?_)
  have hP : va_P (dC, dI) vwCl [(q_t, .inr (1, [.int t_room, .ref q_t_plus, .ref q_t_minus, .ref q_t_divisor, .int x1, .int x17])), (q_t_minus, .inl (cA, n_t_minus, .inl a_t_minus)), (q_t_divisor, .inl (cA, n_t_divisor, .inl a_t_divisor)), (q_t_plus, .inl (cA, n_t_plus, .inl x15.2.2))] H := hP
  have hD : va_D A [(q_t, .inr (1, [.int t_room, .ref q_t_plus, .ref q_t_minus, .ref q_t_divisor, .int x1, .int x17])), (q_t_minus, .inl (cA, n_t_minus, .inl a_t_minus)), (q_t_divisor, .inl (cA, n_t_divisor, .inl a_t_divisor)), (q_t_plus, .inl (cA, n_t_plus, .inl x15.2.2))] := hD
  have e9 := Option.some.inj hf
  subst e9
  exact kr_v hx hb hr hlocks hK hS (hP.sub [0, 3, 1, 2] rfl) (hD.sub [0, 3, 1, 2] (by decide) rfl) dX1_settle_84
def rm_S_countZeroLimbs : Room := { frames := 0, cells := 0, slots := 0, locals := 0 }
theorem kw_S_countZeroLimbs_0 : (.fieldLink RX1 22 "MinorSteps$Sum" "divisor" "[I" : Cond) ∈ wsX1_countZeroLimbs := by decide +kernel
theorem ki_S_countZeroLimbs_X1 : ∀ w ∈ u_ws RX1 TX1 6, w ∈ wsX1_countZeroLimbs := by decide +kernel
set_option maxHeartbeats 4000000 in
set_option maxRecDepth 100000 in
theorem w_S_countZeroLimbs_L2 {p : Program} {l : Launch} {e : Env} {s : State} {m : MethodId} {args : Array Value} {below : List Frame} {meth : Method} {c : Code} {Q : State → Prop} {A : Nat → Prop} {H0 : Heap} {dC : Nat → ClassId} {dI : Nat → Nat → Nat} {cA : ClassId} (hx : p.tables.exec = Jvm.exec) (hb : c.code = cX1_countZeroLimbs) (hown : s.vm.findClass RX1 = some m.cls) (hts : ∀ w ∈ wsX1_countZeroLimbs, w.before args s = true) (hml : c.maxLocals = 3) (hA : ∀ q, H0.size ≤ q → A q) (hK : va_K (dC, dI) vwCl [(cA, .int)] s) (k : Nat) (q_t : Nat) (q_t_plus : Nat) (q_t_minus : Nat) (q_t_divisor : Nat) (v1 : Int32) (i0_t : Int32) (i4_t : Int32) (i5_t : Int32) (n_t_plus : Nat) (a_t_plus : Nat → Int32) (n_t_minus : Nat) (a_t_minus : Nat → Int32) (n_t_divisor : Nat) (a_t_divisor : Nat → Int32) : ∀ (j : Nat) (v2 : Int32) (o : Int32), f_S_countZeroLimbs_L2 k v1 n_t_divisor a_t_divisor j v2 = some o → ∀ (H : Heap) (locs : List Loc), va_P (dC, dI) vwCl [(q_t, .inr (1, [.int i0_t, .ref q_t_plus, .ref q_t_minus, .ref q_t_divisor, .int i4_t, .int i5_t])), (q_t_plus, .inl (cA, n_t_plus, .inl a_t_plus)), (q_t_minus, .inl (cA, n_t_minus, .inl a_t_minus)), (q_t_divisor, .inl (cA, n_t_divisor, .inl a_t_divisor))] H → va_D A [(q_t, .inr (1, [.int i0_t, .ref q_t_plus, .ref q_t_minus, .ref q_t_divisor, .int i4_t, .int i5_t])), (q_t_plus, .inl (cA, n_t_plus, .inl a_t_plus)), (q_t_minus, .inl (cA, n_t_minus, .inl a_t_minus)), (q_t_divisor, .inl (cA, n_t_divisor, .inl a_t_divisor))] → va_S A H0 H locs → ∀ ls : Array Slot, lv_has ls 3 [(0, .ref q_t), (1, .int v1), (2, .int v2)] → ∀ (he : ∀ (H : Heap) (locs : List Loc), va_P (dC, dI) vwCl [(q_t, .inr (1, [.int i0_t, .ref q_t_plus, .ref q_t_minus, .ref q_t_divisor, .int i4_t, .int i5_t])), (q_t_plus, .inl (cA, n_t_plus, .inl a_t_plus)), (q_t_minus, .inl (cA, n_t_minus, .inl a_t_minus)), (q_t_divisor, .inl (cA, n_t_divisor, .inl a_t_divisor))] H → va_D A [(q_t, .inr (1, [.int i0_t, .ref q_t_plus, .ref q_t_minus, .ref q_t_divisor, .int i4_t, .int i5_t])), (q_t_plus, .inl (cA, n_t_plus, .inl a_t_plus)), (q_t_minus, .inl (cA, n_t_minus, .inl a_t_minus)), (q_t_divisor, .inl (cA, n_t_divisor, .inl a_t_divisor))] → va_S A H0 H locs → ∀ ls : Array Slot, lv_has ls 3 [(2, .int o)] → W p l e rm_S_countZeroLimbs s m args below meth c H locs 0 0 Q (F0 m 24 ls [])), W p l e rm_S_countZeroLimbs s m args below meth c H locs 0 0 Q (F0 m 2 ls []) := by
  intro j
  induction j with
  | zero =>
    intro v2 o hf
    rw [f_S_countZeroLimbs_L2] at hf
    cases hf
  | succ j ih =>
    intro v2 o hf H locs hP hD hS ls hl he
    rw [f_S_countZeroLimbs_L2] at hf
    refine lv_iload_n hx hb dX1_countZeroLimbs_2 rfl (lv_at hl 2 rfl) ?_
    refine lv_iload_n hx hb dX1_countZeroLimbs_3 rfl (lv_at hl 1 rfl) ?_
    refine lv_iconst (v := 1) hx hb dX1_countZeroLimbs_4 (by decide) ?_
    refine lv_isub hx hb dX1_countZeroLimbs_5 ?_
    refine lv_icmp_ge (tgt := 24) hx hb dX1_countZeroLimbs_6 (by decide) (fun c7 => ?_) (fun c7 => ?_)
    · have hf := og_t c7 hf
      have e9 := Option.some.inj hf
      subst e9
      exact he _ _ (hP.sub [0, 1, 2, 3] rfl) (hD.sub [0, 1, 2, 3] (by decide) rfl) hS _ (lv_sub hl [2] rfl)
    · have hf := og_f c7 hf
      refine lv_aload_n hx hb dX1_countZeroLimbs_9 rfl (lv_at hl 0 rfl) ?_
      refine va_get (D := (dC, dI)) (ci := 1) (v := .ref q_t_divisor) (C := RX1) (T := TX1) (N := 6) hx hb hts ki_S_countZeroLimbs_X1 hown hK hP 0 rfl rfl 3 (by decide) (hts (.fieldLink RX1 22 "MinorSteps$Sum" "divisor" "[I") kw_S_countZeroLimbs_0) (fun _ h9 => h9) rfl dX1_countZeroLimbs_10 ?_
      refine lv_iload_n hx hb dX1_countZeroLimbs_13 rfl (lv_at hl 2 rfl) ?_
      obtain ⟨g8, hf⟩ := og_c hf
      refine va_iald hx hb hK hP 3 0 rfl rfl (og_in g8) dX1_countZeroLimbs_14 ?_
      refine lv_if_ne (tgt := 24) hx hb dX1_countZeroLimbs_15 (by decide) (fun c9 => ?_) (fun c9 => ?_)
      · have hf := og_f c9 hf
        have e9 := Option.some.inj hf
        subst e9
        exact he _ _ (hP.sub [0, 1, 2, 3] rfl) (hD.sub [0, 1, 2, 3] (by decide) rfl) hS _ (lv_sub hl [2] rfl)
      · have hf := og_t c9 hf
        refine lv_iinc (v := v2 + 1) (lv' := [(2, .int (v2 + 1)), (0, .ref q_t), (1, .int v1)]) hx hb dX1_countZeroLimbs_18 hl (k := 2) rfl rfl (by decide) rfl (fun ls hl => ?_)
        refine lv_goto (tgt := 2) hx hb dX1_countZeroLimbs_21 (by decide) ?_
        exact ih (v2 + 1) _ hf _ _ (hP.sub [0, 1, 2, 3] rfl) (hD.sub [0, 1, 2, 3] (by decide) rfl) hS _ (lv_sub hl [1, 2, 0] rfl) he
set_option maxHeartbeats 4000000 in
set_option maxRecDepth 100000 in
theorem c_S_countZeroLimbs (l : Launch) (dC : Nat → ClassId) (dI : Nat → Nat → Nat) (cA : ClassId) (sz : Nat) (q_t : Nat) (q_t_plus : Nat) (q_t_minus : Nat) (q_t_divisor : Nat) (k : Nat) (t_room : Int32) (t_sign : Int32) (t_length : Int32) (n_t_plus : Nat) (a_t_plus : Nat → Int32) (n_t_minus : Nat) (a_t_minus : Nat → Int32) (n_t_divisor : Nat) (a_t_divisor : Nat → Int32) (size : Int32) (o : Int32) (hf : f_S_countZeroLimbs k n_t_divisor a_t_divisor size = some o) : Met l yX1_countZeroLimbs wsX1_countZeroLimbs rm_S_countZeroLimbs (c_Pre (dC, dI) vwCl [(cA, .int)] [(q_t, .inr (1, [.int t_room, .ref q_t_plus, .ref q_t_minus, .ref q_t_divisor, .int t_sign, .int t_length])), (q_t_plus, .inl (cA, n_t_plus, .inl a_t_plus)), (q_t_minus, .inl (cA, n_t_minus, .inl a_t_minus)), (q_t_divisor, .inl (cA, n_t_divisor, .inl a_t_divisor))] sz [.ref q_t, .int size]) (c_Qi (dC, dI) vwCl [(cA, .int)] [(q_t, .inr (1, [.int t_room, .ref q_t_plus, .ref q_t_minus, .ref q_t_divisor, .int t_sign, .int t_length])), (q_t_plus, .inl (cA, n_t_plus, .inl a_t_plus)), (q_t_minus, .inl (cA, n_t_minus, .inl a_t_minus)), (q_t_divisor, .inl (cA, n_t_divisor, .inl a_t_divisor))] (va_A [(q_t, .inr (1, [.int t_room, .ref q_t_plus, .ref q_t_minus, .ref q_t_divisor, .int t_sign, .int t_length])), (q_t_plus, .inl (cA, n_t_plus, .inl a_t_plus)), (q_t_minus, .inl (cA, n_t_minus, .inl a_t_minus)), (q_t_divisor, .inl (cA, n_t_divisor, .inl a_t_divisor))] sz) o) 0 0 (va_A [(q_t, .inr (1, [.int t_room, .ref q_t_plus, .ref q_t_minus, .ref q_t_divisor, .int t_sign, .int t_length])), (q_t_plus, .inl (cA, n_t_plus, .inl a_t_plus)), (q_t_minus, .inl (cA, n_t_minus, .inl a_t_minus)), (q_t_divisor, .inl (cA, n_t_divisor, .inl a_t_divisor))] sz) := by
  unfold f_S_countZeroLimbs at hf
  refine k_ent (Qc := fun A => c_Qi (dC, dI) vwCl [(cA, .int)] [(q_t, .inr (1, [.int t_room, .ref q_t_plus, .ref q_t_minus, .ref q_t_divisor, .int t_sign, .int t_length])), (q_t_plus, .inl (cA, n_t_plus, .inl a_t_plus)), (q_t_minus, .inl (cA, n_t_minus, .inl a_t_minus)), (q_t_divisor, .inl (cA, n_t_divisor, .inl a_t_divisor))] A o) (by decide) rfl (Nat.le_of_ble_eq_true rfl) ?_
  intro p e s m below meth c A hx hb hr hown hts hml hlocks hin hsz hA hK H locs hP hD hS ls hl
  have hown : s.vm.findClass RX1 = some m.cls := hown
  have hl : lv_has ls 3 [(0, .ref q_t), (1, .int size)] := hl
  refine lv_iconst (v := 0) hx hb dX1_countZeroLimbs_0 (by decide) ?_
  refine lv_istore_n (lv' := [(2, .int 0), (0, .ref q_t), (1, .int size)]) hx hb dX1_countZeroLimbs_1 rfl hl (by decide) rfl (fun ls hl => ?_)
  obtain ⟨x10, g11, hf⟩ := og_b hf
  refine w_S_countZeroLimbs_L2 hx hb hown hts hml hA hK k q_t q_t_plus q_t_minus q_t_divisor size t_room t_sign t_length n_t_plus a_t_plus n_t_minus a_t_minus n_t_divisor a_t_divisor k (0 : Int32) _ g11 _ _ (hP.sub [0, 1, 2, 3] rfl) (hD.sub [0, 1, 2, 3] (by decide) rfl) hS _ (lv_sub hl [1, 2, 0] rfl) ?_
  intro H locs hP hD hS ls hl
  refine lv_iload_n hx hb dX1_countZeroLimbs_24 rfl (lv_at hl 0 rfl) ?_
  have e9 := Option.some.inj hf
  subst e9
  exact kr_i hx hb hr hlocks hK hS (hP.sub [0, 1, 2, 3] rfl) (hD.sub [0, 1, 2, 3] (by decide) rfl) dX1_countZeroLimbs_25
def rm_S_countZeroBits : Room := { frames := 0, cells := 0, slots := 0, locals := 0 }
set_option maxHeartbeats 4000000 in
set_option maxRecDepth 100000 in
theorem w_S_countZeroBits_L2 {p : Program} {l : Launch} {e : Env} {s : State} {m : MethodId} {args : Array Value} {below : List Frame} {meth : Method} {c : Code} {Q : State → Prop} {A : Nat → Prop} {H0 : Heap} {dC : Nat → ClassId} {dI : Nat → Nat → Nat} {cA : ClassId} (hx : p.tables.exec = Jvm.exec) (hb : c.code = cX1_countZeroBits) (hown : s.vm.findClass RX1 = some m.cls) (hts : ∀ w ∈ wsX1_countZeroBits, w.before args s = true) (hml : c.maxLocals = 2) (hA : ∀ q, H0.size ≤ q → A q) (hK : va_K (dC, dI) vwCl [(cA, .int)] s) (k : Nat) (v0 : Int32) : ∀ (j : Nat) (v1 : Int32) (o : Int32), f_S_countZeroBits_L2 k v0 j v1 = some o → ∀ (H : Heap) (locs : List Loc), va_P (dC, dI) vwCl [] H → va_D A [] → va_S A H0 H locs → ∀ ls : Array Slot, lv_has ls 2 [(0, .int v0), (1, .int v1)] → ∀ (he : ∀ (H : Heap) (locs : List Loc), va_P (dC, dI) vwCl [] H → va_D A [] → va_S A H0 H locs → ∀ ls : Array Slot, lv_has ls 2 [(1, .int o)] → W p l e rm_S_countZeroBits s m args below meth c H locs 0 0 Q (F0 m 22 ls [])), W p l e rm_S_countZeroBits s m args below meth c H locs 0 0 Q (F0 m 2 ls []) := by
  intro j
  induction j with
  | zero =>
    intro v1 o hf
    rw [f_S_countZeroBits_L2] at hf
    cases hf
  | succ j ih =>
    intro v1 o hf H locs hP hD hS ls hl he
    rw [f_S_countZeroBits_L2] at hf
    refine lv_iload_n hx hb dX1_countZeroBits_2 rfl (lv_at hl 1 rfl) ?_
    refine lv_bipush (v := 30) hx hb dX1_countZeroBits_3 (by decide) ?_
    refine lv_icmp_ge (tgt := 22) hx hb dX1_countZeroBits_5 (by decide) (fun c5 => ?_) (fun c5 => ?_)
    · have hf := og_t c5 hf
      have e9 := Option.some.inj hf
      subst e9
      exact he _ _ (hP.sub [] rfl) (hD.sub [] (by decide) rfl) hS _ (lv_sub hl [1] rfl)
    · have hf := og_f c5 hf
      refine lv_iload_n hx hb dX1_countZeroBits_8 rfl (lv_at hl 0 rfl) ?_
      refine lv_iload_n hx hb dX1_countZeroBits_9 rfl (lv_at hl 1 rfl) ?_
      refine lv_ishr hx hb dX1_countZeroBits_10 ?_
      refine lv_iconst (v := 1) hx hb dX1_countZeroBits_11 (by decide) ?_
      refine lv_iand hx hb dX1_countZeroBits_12 ?_
      refine lv_if_ne (tgt := 22) hx hb dX1_countZeroBits_13 (by decide) (fun c6 => ?_) (fun c6 => ?_)
      · have hf := og_f c6 hf
        have e9 := Option.some.inj hf
        subst e9
        exact he _ _ (hP.sub [] rfl) (hD.sub [] (by decide) rfl) hS _ (lv_sub hl [1] rfl)
      · have hf := og_t c6 hf
        refine lv_iinc (v := v1 + 1) (lv' := [(1, .int (v1 + 1)), (0, .int v0)]) hx hb dX1_countZeroBits_16 hl (k := 1) rfl rfl (by decide) rfl (fun ls hl => ?_)
        refine lv_goto (tgt := 2) hx hb dX1_countZeroBits_19 (by decide) ?_
        exact ih (v1 + 1) _ hf _ _ (hP.sub [] rfl) (hD.sub [] (by decide) rfl) hS _ (lv_sub hl [1, 0] rfl) he
set_option maxHeartbeats 4000000 in
set_option maxRecDepth 100000 in
theorem c_S_countZeroBits (l : Launch) (dC : Nat → ClassId) (dI : Nat → Nat → Nat) (cA : ClassId) (sz : Nat) (k : Nat) (word : Int32) (o : Int32) (hf : f_S_countZeroBits k word = some o) : Met l yX1_countZeroBits wsX1_countZeroBits rm_S_countZeroBits (c_Pre (dC, dI) vwCl [(cA, .int)] [] sz [.int word]) (c_Qi (dC, dI) vwCl [(cA, .int)] [] (va_A [] sz) o) 0 0 (va_A [] sz) := by
  unfold f_S_countZeroBits at hf
  refine k_ent (Qc := fun A => c_Qi (dC, dI) vwCl [(cA, .int)] [] A o) (by decide) rfl (Nat.le_of_ble_eq_true rfl) ?_
  intro p e s m below meth c A hx hb hr hown hts hml hlocks hin hsz hA hK H locs hP hD hS ls hl
  have hown : s.vm.findClass RX1 = some m.cls := hown
  have hl : lv_has ls 2 [(0, .int word)] := hl
  refine lv_iconst (v := 0) hx hb dX1_countZeroBits_0 (by decide) ?_
  refine lv_istore_n (lv' := [(1, .int 0), (0, .int word)]) hx hb dX1_countZeroBits_1 rfl hl (by decide) rfl (fun ls hl => ?_)
  obtain ⟨x7, g8, hf⟩ := og_b hf
  refine w_S_countZeroBits_L2 hx hb hown hts hml hA hK k word k (0 : Int32) _ g8 _ _ (hP.sub [] rfl) (hD.sub [] (by decide) rfl) hS _ (lv_sub hl [1, 0] rfl) ?_
  intro H locs hP hD hS ls hl
  refine lv_iload_n hx hb dX1_countZeroBits_22 rfl (lv_at hl 0 rfl) ?_
  have e9 := Option.some.inj hf
  subst e9
  exact kr_i hx hb hr hlocks hK hS (hP.sub [] rfl) (hD.sub [] (by decide) rfl) dX1_countZeroBits_23
def rm_S_shiftDown : Room := { frames := 0, cells := 0, slots := 0, locals := 0 }
theorem kw_S_shiftDown_0 : (.constantLong RX1 54 2147483647 : Cond) ∈ wsX1_shiftDown := by decide +kernel
set_option maxHeartbeats 4000000 in
set_option maxRecDepth 100000 in
theorem w_S_shiftDown_L3 {p : Program} {l : Launch} {e : Env} {s : State} {m : MethodId} {args : Array Value} {below : List Frame} {meth : Method} {c : Code} {Q : State → Prop} {A : Nat → Prop} {H0 : Heap} {dC : Nat → ClassId} {dI : Nat → Nat → Nat} {cA : ClassId} (hx : p.tables.exec = Jvm.exec) (hb : c.code = cX1_shiftDown) (hown : s.vm.findClass RX1 = some m.cls) (hts : ∀ w ∈ wsX1_shiftDown, w.before args s = true) (hml : c.maxLocals = 9) (hA : ∀ q, H0.size ≤ q → A q) (hK : va_K (dC, dI) vwCl [(cA, .int)] s) (k : Nat) (q_row : Nat) (v1 : Int32) (v2 : Int32) (v3 : Int32) (n_row : Nat) : ∀ (j : Nat) (v4 : Int32) (a_row : Nat → Int32) (o : Int32 × (Nat → Int32)), f_S_shiftDown_L3 k v1 v2 v3 n_row j v4 a_row = some o → ∀ (H : Heap) (locs : List Loc), va_P (dC, dI) vwCl [(q_row, .inl (cA, n_row, .inl a_row))] H → va_D A [(q_row, .inl (cA, n_row, .inl a_row))] → va_S A H0 H locs → ∀ ls : Array Slot, lv_has ls 9 [(0, .ref q_row), (1, .int v1), (2, .int v2), (3, .int v3), (4, .int v4)] → ∀ (he : ∀ (H : Heap) (locs : List Loc), va_P (dC, dI) vwCl [(q_row, .inl (cA, n_row, .inl o.2))] H → va_D A [(q_row, .inl (cA, n_row, .inl o.2))] → va_S A H0 H locs → ∀ ls : Array Slot, lv_has ls 9 [] → W p l e rm_S_shiftDown s m args below meth c H locs 0 0 Q (F0 m 80 ls [])), W p l e rm_S_shiftDown s m args below meth c H locs 0 0 Q (F0 m 3 ls []) := by
  intro j
  induction j with
  | zero =>
    intro v4 a_row o hf
    rw [f_S_shiftDown_L3] at hf
    cases hf
  | succ j ih =>
    intro v4 a_row o hf H locs hP hD hS ls hl he
    rw [f_S_shiftDown_L3] at hf
    refine lv_iload hx hb dX1_shiftDown_3 (lv_at hl 4 rfl) ?_
    refine lv_iload_n hx hb dX1_shiftDown_5 rfl (lv_at hl 1 rfl) ?_
    refine lv_icmp_ge (tgt := 80) hx hb dX1_shiftDown_6 (by decide) (fun c23 => ?_) (fun c23 => ?_)
    · have hf := og_t c23 hf
      have e9 := Option.some.inj hf
      subst e9
      exact he _ _ (hP.sub [0] rfl) (hD.sub [0] (by decide) rfl) hS _ (lv_sub hl [] rfl)
    · have hf := og_f c23 hf
      refine lv_iload hx hb dX1_shiftDown_9 (lv_at hl 4 rfl) ?_
      refine lv_iload_n hx hb dX1_shiftDown_11 rfl (lv_at hl 2 rfl) ?_
      refine lv_iadd hx hb dX1_shiftDown_12 ?_
      refine lv_iload_n hx hb dX1_shiftDown_13 rfl (lv_at hl 1 rfl) ?_
      refine lv_icmp_ge (tgt := 27) hx hb dX1_shiftDown_14 (by decide) (fun c24 => ?_) (fun c24 => ?_)
      · have hf := og_t c24 hf
        refine lv_lconst (v := 0) hx hb dX1_shiftDown_27 (by decide) ?_
        refine lv_lstore (lv' := [(5, .long 0), (0, .ref q_row), (1, .int v1), (2, .int v2), (3, .int v3), (4, .int v4)]) hx hb dX1_shiftDown_28 hl (by decide) rfl (fun ls hl => ?_)
        refine lv_iload hx hb dX1_shiftDown_30 (lv_at hl 5 rfl) ?_
        refine lv_iload_n hx hb dX1_shiftDown_32 rfl (lv_at hl 3 rfl) ?_
        refine lv_iadd hx hb dX1_shiftDown_33 ?_
        refine lv_iconst (v := 1) hx hb dX1_shiftDown_34 (by decide) ?_
        refine lv_iadd hx hb dX1_shiftDown_35 ?_
        refine lv_iload_n hx hb dX1_shiftDown_36 rfl (lv_at hl 2 rfl) ?_
        refine lv_icmp_ge (tgt := 52) hx hb dX1_shiftDown_37 (by decide) (fun c25 => ?_) (fun c25 => ?_)
        · have hf := og_t c25 hf
          refine lv_lconst (v := 0) hx hb dX1_shiftDown_52 (by decide) ?_
          refine lv_lstore (lv' := [(7, .long 0), (5, .long 0), (0, .ref q_row), (1, .int v1), (2, .int v2), (3, .int v3), (4, .int v4)]) hx hb dX1_shiftDown_53 hl (by decide) rfl (fun ls hl => ?_)
          refine lv_aload_n hx hb dX1_shiftDown_55 rfl (lv_at hl 2 rfl) ?_
          refine lv_iload hx hb dX1_shiftDown_56 (lv_at hl 6 rfl) ?_
          refine lv_lload hx hb dX1_shiftDown_58 (lv_at hl 0 rfl) ?_
          refine lv_bipush (v := 31) hx hb dX1_shiftDown_60 (by decide) ?_
          refine lv_lshl (v := (0 : Int64) <<< ((31 : Int32).toInt64 &&& 63)) hx hb dX1_shiftDown_62 rfl ?_
          refine lv_lload hx hb dX1_shiftDown_63 (lv_at hl 1 rfl) ?_
          refine lv_lor hx hb dX1_shiftDown_65 ?_
          refine lv_iload_n hx hb dX1_shiftDown_66 rfl (lv_at hl 5 rfl) ?_
          refine lv_lshr (v := (((0 : Int64) <<< ((31 : Int32).toInt64 &&& 63)) ||| 0) >>> (v3.toInt64 &&& 63)) hx hb dX1_shiftDown_67 rfl ?_
          refine lv_ldc2 (v := 2147483647) hx hb hown (hts (.constantLong RX1 54 2147483647) kw_S_shiftDown_0) dX1_shiftDown_68 ?_
          refine lv_land hx hb dX1_shiftDown_71 ?_
          refine lv_l2i (v := (((((0 : Int64) <<< ((31 : Int32).toInt64 &&& 63)) ||| 0) >>> (v3.toInt64 &&& 63)) &&& 2147483647).toInt32) hx hb dX1_shiftDown_72 rfl ?_
          obtain ⟨g26, hf⟩ := og_c hf
          refine va_iast hx hb hK hP hD hS 0 0 rfl rfl (og_in g26) dX1_shiftDown_73 (fun H locs hP hD hS => ?_)
          have hP : va_P (dC, dI) vwCl [(q_row, .inl (cA, n_row, .inl (upd a_row v4.toNatClampNeg ((((((0 : Int64) <<< ((31 : Int32).toInt64 &&& 63)) ||| 0) >>> (v3.toInt64 &&& 63)) &&& 2147483647).toInt32))))] H := hP
          have hD : va_D A [(q_row, .inl (cA, n_row, .inl (upd a_row v4.toNatClampNeg ((((((0 : Int64) <<< ((31 : Int32).toInt64 &&& 63)) ||| 0) >>> (v3.toInt64 &&& 63)) &&& 2147483647).toInt32))))] := hD
          refine lv_iinc (v := v4 + 1) (lv' := [(4, .int (v4 + 1)), (7, .long 0), (5, .long 0), (0, .ref q_row), (1, .int v1), (2, .int v2), (3, .int v3)]) hx hb dX1_shiftDown_74 hl (k := 6) rfl rfl (by decide) rfl (fun ls hl => ?_)
          refine lv_goto (tgt := 3) hx hb dX1_shiftDown_77 (by decide) ?_
          exact ih (v4 + 1) (upd a_row v4.toNatClampNeg ((((((0 : Int64) <<< ((31 : Int32).toInt64 &&& 63)) ||| 0) >>> (v3.toInt64 &&& 63)) &&& 2147483647).toInt32)) _ hf _ _ (hP.sub [0] rfl) (hD.sub [0] (by decide) rfl) hS _ (lv_sub hl [3, 4, 5, 6, 0] rfl) he
        · have hf := og_f c25 hf
          refine lv_aload_n hx hb dX1_shiftDown_40 rfl (lv_at hl 1 rfl) ?_
          refine lv_iload hx hb dX1_shiftDown_41 (lv_at hl 5 rfl) ?_
          refine lv_iload_n hx hb dX1_shiftDown_43 rfl (lv_at hl 3 rfl) ?_
          refine lv_iadd hx hb dX1_shiftDown_44 ?_
          refine lv_iconst (v := 1) hx hb dX1_shiftDown_45 (by decide) ?_
          refine lv_iadd hx hb dX1_shiftDown_46 ?_
          obtain ⟨g27, hf⟩ := og_c hf
          refine va_iald hx hb hK hP 0 0 rfl rfl (og_in g27) dX1_shiftDown_47 ?_
          refine lv_i2l (v := (a_row ((v4 + v2) + 1).toNatClampNeg).toInt64) hx hb dX1_shiftDown_48 rfl ?_
          refine lv_goto (tgt := 53) hx hb dX1_shiftDown_49 (by decide) ?_
          refine lv_lstore (lv' := [(7, .long ((a_row ((v4 + v2) + 1).toNatClampNeg).toInt64)), (5, .long 0), (0, .ref q_row), (1, .int v1), (2, .int v2), (3, .int v3), (4, .int v4)]) hx hb dX1_shiftDown_53 hl (by decide) rfl (fun ls hl => ?_)
          refine lv_aload_n hx hb dX1_shiftDown_55 rfl (lv_at hl 2 rfl) ?_
          refine lv_iload hx hb dX1_shiftDown_56 (lv_at hl 6 rfl) ?_
          refine lv_lload hx hb dX1_shiftDown_58 (lv_at hl 0 rfl) ?_
          refine lv_bipush (v := 31) hx hb dX1_shiftDown_60 (by decide) ?_
          refine lv_lshl (v := ((a_row ((v4 + v2) + 1).toNatClampNeg).toInt64) <<< ((31 : Int32).toInt64 &&& 63)) hx hb dX1_shiftDown_62 rfl ?_
          refine lv_lload hx hb dX1_shiftDown_63 (lv_at hl 1 rfl) ?_
          refine lv_lor hx hb dX1_shiftDown_65 ?_
          refine lv_iload_n hx hb dX1_shiftDown_66 rfl (lv_at hl 5 rfl) ?_
          refine lv_lshr (v := ((((a_row ((v4 + v2) + 1).toNatClampNeg).toInt64) <<< ((31 : Int32).toInt64 &&& 63)) ||| 0) >>> (v3.toInt64 &&& 63)) hx hb dX1_shiftDown_67 rfl ?_
          refine lv_ldc2 (v := 2147483647) hx hb hown (hts (.constantLong RX1 54 2147483647) kw_S_shiftDown_0) dX1_shiftDown_68 ?_
          refine lv_land hx hb dX1_shiftDown_71 ?_
          refine lv_l2i (v := ((((((a_row ((v4 + v2) + 1).toNatClampNeg).toInt64) <<< ((31 : Int32).toInt64 &&& 63)) ||| 0) >>> (v3.toInt64 &&& 63)) &&& 2147483647).toInt32) hx hb dX1_shiftDown_72 rfl ?_
          obtain ⟨g28, hf⟩ := og_c hf
          refine va_iast hx hb hK hP hD hS 0 0 rfl rfl (og_in g28) dX1_shiftDown_73 (fun H locs hP hD hS => ?_)
          have hP : va_P (dC, dI) vwCl [(q_row, .inl (cA, n_row, .inl (upd a_row v4.toNatClampNeg (((((((a_row ((v4 + v2) + 1).toNatClampNeg).toInt64) <<< ((31 : Int32).toInt64 &&& 63)) ||| 0) >>> (v3.toInt64 &&& 63)) &&& 2147483647).toInt32))))] H := hP
          have hD : va_D A [(q_row, .inl (cA, n_row, .inl (upd a_row v4.toNatClampNeg (((((((a_row ((v4 + v2) + 1).toNatClampNeg).toInt64) <<< ((31 : Int32).toInt64 &&& 63)) ||| 0) >>> (v3.toInt64 &&& 63)) &&& 2147483647).toInt32))))] := hD
          refine lv_iinc (v := v4 + 1) (lv' := [(4, .int (v4 + 1)), (7, .long ((a_row ((v4 + v2) + 1).toNatClampNeg).toInt64)), (5, .long 0), (0, .ref q_row), (1, .int v1), (2, .int v2), (3, .int v3)]) hx hb dX1_shiftDown_74 hl (k := 6) rfl rfl (by decide) rfl (fun ls hl => ?_)
          refine lv_goto (tgt := 3) hx hb dX1_shiftDown_77 (by decide) ?_
          exact ih (v4 + 1) (upd a_row v4.toNatClampNeg (((((((a_row ((v4 + v2) + 1).toNatClampNeg).toInt64) <<< ((31 : Int32).toInt64 &&& 63)) ||| 0) >>> (v3.toInt64 &&& 63)) &&& 2147483647).toInt32)) _ hf _ _ (hP.sub [0] rfl) (hD.sub [0] (by decide) rfl) hS _ (lv_sub hl [3, 4, 5, 6, 0] rfl) he
      · have hf := og_f c24 hf
        refine lv_aload_n hx hb dX1_shiftDown_17 rfl (lv_at hl 0 rfl) ?_
        refine lv_iload hx hb dX1_shiftDown_18 (lv_at hl 4 rfl) ?_
        refine lv_iload_n hx hb dX1_shiftDown_20 rfl (lv_at hl 2 rfl) ?_
        refine lv_iadd hx hb dX1_shiftDown_21 ?_
        obtain ⟨g29, hf⟩ := og_c hf
        refine va_iald hx hb hK hP 0 0 rfl rfl (og_in g29) dX1_shiftDown_22 ?_
        refine lv_i2l (v := (a_row (v4 + v2).toNatClampNeg).toInt64) hx hb dX1_shiftDown_23 rfl ?_
        refine lv_goto (tgt := 28) hx hb dX1_shiftDown_24 (by decide) ?_
        refine lv_lstore (lv' := [(5, .long ((a_row (v4 + v2).toNatClampNeg).toInt64)), (0, .ref q_row), (1, .int v1), (2, .int v2), (3, .int v3), (4, .int v4)]) hx hb dX1_shiftDown_28 hl (by decide) rfl (fun ls hl => ?_)
        refine lv_iload hx hb dX1_shiftDown_30 (lv_at hl 5 rfl) ?_
        refine lv_iload_n hx hb dX1_shiftDown_32 rfl (lv_at hl 3 rfl) ?_
        refine lv_iadd hx hb dX1_shiftDown_33 ?_
        refine lv_iconst (v := 1) hx hb dX1_shiftDown_34 (by decide) ?_
        refine lv_iadd hx hb dX1_shiftDown_35 ?_
        refine lv_iload_n hx hb dX1_shiftDown_36 rfl (lv_at hl 2 rfl) ?_
        refine lv_icmp_ge (tgt := 52) hx hb dX1_shiftDown_37 (by decide) (fun c30 => ?_) (fun c30 => ?_)
        · have hf := og_t c30 hf
          refine lv_lconst (v := 0) hx hb dX1_shiftDown_52 (by decide) ?_
          refine lv_lstore (lv' := [(7, .long 0), (5, .long ((a_row (v4 + v2).toNatClampNeg).toInt64)), (0, .ref q_row), (1, .int v1), (2, .int v2), (3, .int v3), (4, .int v4)]) hx hb dX1_shiftDown_53 hl (by decide) rfl (fun ls hl => ?_)
          refine lv_aload_n hx hb dX1_shiftDown_55 rfl (lv_at hl 2 rfl) ?_
          refine lv_iload hx hb dX1_shiftDown_56 (lv_at hl 6 rfl) ?_
          refine lv_lload hx hb dX1_shiftDown_58 (lv_at hl 0 rfl) ?_
          refine lv_bipush (v := 31) hx hb dX1_shiftDown_60 (by decide) ?_
          refine lv_lshl (v := (0 : Int64) <<< ((31 : Int32).toInt64 &&& 63)) hx hb dX1_shiftDown_62 rfl ?_
          refine lv_lload hx hb dX1_shiftDown_63 (lv_at hl 1 rfl) ?_
          refine lv_lor hx hb dX1_shiftDown_65 ?_
          refine lv_iload_n hx hb dX1_shiftDown_66 rfl (lv_at hl 5 rfl) ?_
          refine lv_lshr (v := (((0 : Int64) <<< ((31 : Int32).toInt64 &&& 63)) ||| ((a_row (v4 + v2).toNatClampNeg).toInt64)) >>> (v3.toInt64 &&& 63)) hx hb dX1_shiftDown_67 rfl ?_
          refine lv_ldc2 (v := 2147483647) hx hb hown (hts (.constantLong RX1 54 2147483647) kw_S_shiftDown_0) dX1_shiftDown_68 ?_
          refine lv_land hx hb dX1_shiftDown_71 ?_
          refine lv_l2i (v := (((((0 : Int64) <<< ((31 : Int32).toInt64 &&& 63)) ||| ((a_row (v4 + v2).toNatClampNeg).toInt64)) >>> (v3.toInt64 &&& 63)) &&& 2147483647).toInt32) hx hb dX1_shiftDown_72 rfl ?_
          obtain ⟨g31, hf⟩ := og_c hf
          refine va_iast hx hb hK hP hD hS 0 0 rfl rfl (og_in g31) dX1_shiftDown_73 (fun H locs hP hD hS => ?_)
          have hP : va_P (dC, dI) vwCl [(q_row, .inl (cA, n_row, .inl (upd a_row v4.toNatClampNeg ((((((0 : Int64) <<< ((31 : Int32).toInt64 &&& 63)) ||| ((a_row (v4 + v2).toNatClampNeg).toInt64)) >>> (v3.toInt64 &&& 63)) &&& 2147483647).toInt32))))] H := hP
          have hD : va_D A [(q_row, .inl (cA, n_row, .inl (upd a_row v4.toNatClampNeg ((((((0 : Int64) <<< ((31 : Int32).toInt64 &&& 63)) ||| ((a_row (v4 + v2).toNatClampNeg).toInt64)) >>> (v3.toInt64 &&& 63)) &&& 2147483647).toInt32))))] := hD
          refine lv_iinc (v := v4 + 1) (lv' := [(4, .int (v4 + 1)), (7, .long 0), (5, .long ((a_row (v4 + v2).toNatClampNeg).toInt64)), (0, .ref q_row), (1, .int v1), (2, .int v2), (3, .int v3)]) hx hb dX1_shiftDown_74 hl (k := 6) rfl rfl (by decide) rfl (fun ls hl => ?_)
          refine lv_goto (tgt := 3) hx hb dX1_shiftDown_77 (by decide) ?_
          exact ih (v4 + 1) (upd a_row v4.toNatClampNeg ((((((0 : Int64) <<< ((31 : Int32).toInt64 &&& 63)) ||| ((a_row (v4 + v2).toNatClampNeg).toInt64)) >>> (v3.toInt64 &&& 63)) &&& 2147483647).toInt32)) _ hf _ _ (hP.sub [0] rfl) (hD.sub [0] (by decide) rfl) hS _ (lv_sub hl [3, 4, 5, 6, 0] rfl) he
        · have hf := og_f c30 hf
          refine lv_aload_n hx hb dX1_shiftDown_40 rfl (lv_at hl 1 rfl) ?_
          refine lv_iload hx hb dX1_shiftDown_41 (lv_at hl 5 rfl) ?_
          refine lv_iload_n hx hb dX1_shiftDown_43 rfl (lv_at hl 3 rfl) ?_
          refine lv_iadd hx hb dX1_shiftDown_44 ?_
          refine lv_iconst (v := 1) hx hb dX1_shiftDown_45 (by decide) ?_
          refine lv_iadd hx hb dX1_shiftDown_46 ?_
          obtain ⟨g32, hf⟩ := og_c hf
          refine va_iald hx hb hK hP 0 0 rfl rfl (og_in g32) dX1_shiftDown_47 ?_
          refine lv_i2l (v := (a_row ((v4 + v2) + 1).toNatClampNeg).toInt64) hx hb dX1_shiftDown_48 rfl ?_
          refine lv_goto (tgt := 53) hx hb dX1_shiftDown_49 (by decide) ?_
          refine lv_lstore (lv' := [(7, .long ((a_row ((v4 + v2) + 1).toNatClampNeg).toInt64)), (5, .long ((a_row (v4 + v2).toNatClampNeg).toInt64)), (0, .ref q_row), (1, .int v1), (2, .int v2), (3, .int v3), (4, .int v4)]) hx hb dX1_shiftDown_53 hl (by decide) rfl (fun ls hl => ?_)
          refine lv_aload_n hx hb dX1_shiftDown_55 rfl (lv_at hl 2 rfl) ?_
          refine lv_iload hx hb dX1_shiftDown_56 (lv_at hl 6 rfl) ?_
          refine lv_lload hx hb dX1_shiftDown_58 (lv_at hl 0 rfl) ?_
          refine lv_bipush (v := 31) hx hb dX1_shiftDown_60 (by decide) ?_
          refine lv_lshl (v := ((a_row ((v4 + v2) + 1).toNatClampNeg).toInt64) <<< ((31 : Int32).toInt64 &&& 63)) hx hb dX1_shiftDown_62 rfl ?_
          refine lv_lload hx hb dX1_shiftDown_63 (lv_at hl 1 rfl) ?_
          refine lv_lor hx hb dX1_shiftDown_65 ?_
          refine lv_iload_n hx hb dX1_shiftDown_66 rfl (lv_at hl 5 rfl) ?_
          refine lv_lshr (v := ((((a_row ((v4 + v2) + 1).toNatClampNeg).toInt64) <<< ((31 : Int32).toInt64 &&& 63)) ||| ((a_row (v4 + v2).toNatClampNeg).toInt64)) >>> (v3.toInt64 &&& 63)) hx hb dX1_shiftDown_67 rfl ?_
          refine lv_ldc2 (v := 2147483647) hx hb hown (hts (.constantLong RX1 54 2147483647) kw_S_shiftDown_0) dX1_shiftDown_68 ?_
          refine lv_land hx hb dX1_shiftDown_71 ?_
          refine lv_l2i (v := ((((((a_row ((v4 + v2) + 1).toNatClampNeg).toInt64) <<< ((31 : Int32).toInt64 &&& 63)) ||| ((a_row (v4 + v2).toNatClampNeg).toInt64)) >>> (v3.toInt64 &&& 63)) &&& 2147483647).toInt32) hx hb dX1_shiftDown_72 rfl ?_
          obtain ⟨g33, hf⟩ := og_c hf
          refine va_iast hx hb hK hP hD hS 0 0 rfl rfl (og_in g33) dX1_shiftDown_73 (fun H locs hP hD hS => ?_)
          have hP : va_P (dC, dI) vwCl [(q_row, .inl (cA, n_row, .inl (upd a_row v4.toNatClampNeg (((((((a_row ((v4 + v2) + 1).toNatClampNeg).toInt64) <<< ((31 : Int32).toInt64 &&& 63)) ||| ((a_row (v4 + v2).toNatClampNeg).toInt64)) >>> (v3.toInt64 &&& 63)) &&& 2147483647).toInt32))))] H := hP
          have hD : va_D A [(q_row, .inl (cA, n_row, .inl (upd a_row v4.toNatClampNeg (((((((a_row ((v4 + v2) + 1).toNatClampNeg).toInt64) <<< ((31 : Int32).toInt64 &&& 63)) ||| ((a_row (v4 + v2).toNatClampNeg).toInt64)) >>> (v3.toInt64 &&& 63)) &&& 2147483647).toInt32))))] := hD
          refine lv_iinc (v := v4 + 1) (lv' := [(4, .int (v4 + 1)), (7, .long ((a_row ((v4 + v2) + 1).toNatClampNeg).toInt64)), (5, .long ((a_row (v4 + v2).toNatClampNeg).toInt64)), (0, .ref q_row), (1, .int v1), (2, .int v2), (3, .int v3)]) hx hb dX1_shiftDown_74 hl (k := 6) rfl rfl (by decide) rfl (fun ls hl => ?_)
          refine lv_goto (tgt := 3) hx hb dX1_shiftDown_77 (by decide) ?_
          exact ih (v4 + 1) (upd a_row v4.toNatClampNeg (((((((a_row ((v4 + v2) + 1).toNatClampNeg).toInt64) <<< ((31 : Int32).toInt64 &&& 63)) ||| ((a_row (v4 + v2).toNatClampNeg).toInt64)) >>> (v3.toInt64 &&& 63)) &&& 2147483647).toInt32)) _ hf _ _ (hP.sub [0] rfl) (hD.sub [0] (by decide) rfl) hS _ (lv_sub hl [3, 4, 5, 6, 0] rfl) he
set_option maxHeartbeats 4000000 in
set_option maxRecDepth 100000 in
theorem c_S_shiftDown (l : Launch) (dC : Nat → ClassId) (dI : Nat → Nat → Nat) (cA : ClassId) (sz : Nat) (q_row : Nat) (k : Nat) (n_row : Nat) (a_row : Nat → Int32) (size : Int32) (byLimbs : Int32) (byBits : Int32) (o : (Nat → Int32)) (hf : f_S_shiftDown k n_row a_row size byLimbs byBits = some o) : Met l yX1_shiftDown wsX1_shiftDown rm_S_shiftDown (c_Pre (dC, dI) vwCl [(cA, .int)] [(q_row, .inl (cA, n_row, .inl a_row))] sz [.ref q_row, .int size, .int byLimbs, .int byBits]) (c_Qv (dC, dI) vwCl [(cA, .int)] [(q_row, .inl (cA, n_row, .inl o))] (va_A [(q_row, .inl (cA, n_row, .inl a_row))] sz)) 0 0 (va_A [(q_row, .inl (cA, n_row, .inl a_row))] sz) := by
  unfold f_S_shiftDown at hf
  refine k_ent (Qc := fun A => c_Qv (dC, dI) vwCl [(cA, .int)] [(q_row, .inl (cA, n_row, .inl o))] A) (by decide) rfl (Nat.le_of_ble_eq_true rfl) ?_
  intro p e s m below meth c A hx hb hr hown hts hml hlocks hin hsz hA hK H locs hP hD hS ls hl
  have hown : s.vm.findClass RX1 = some m.cls := hown
  have hl : lv_has ls 9 [(0, .ref q_row), (1, .int size), (2, .int byLimbs), (3, .int byBits)] := hl
  refine lv_iconst (v := 0) hx hb dX1_shiftDown_0 (by decide) ?_
  refine lv_istore (lv' := [(4, .int 0), (0, .ref q_row), (1, .int size), (2, .int byLimbs), (3, .int byBits)]) hx hb dX1_shiftDown_1 hl (by decide) rfl (fun ls hl => ?_)
  obtain ⟨x34, g35, hf⟩ := og_b hf
  refine w_S_shiftDown_L3 hx hb hown hts hml hA hK k q_row size byLimbs byBits n_row k (0 : Int32) a_row _ g35 _ _ (hP.sub [0] rfl) (hD.sub [0] (by decide) rfl) hS _ (lv_sub hl [1, 2, 3, 4, 0] rfl) ?_
  intro H locs hP hD hS ls hl
  have e9 := Option.some.inj hf
  subst e9
  exact kr_v hx hb hr hlocks hK hS (hP.sub [0] rfl) (hD.sub [0] (by decide) rfl) dX1_shiftDown_80
def rm_S_inverseOf : Room := { frames := 0, cells := 0, slots := 0, locals := 0 }
set_option maxHeartbeats 4000000 in
set_option maxRecDepth 100000 in
theorem w_S_inverseOf_L4 {p : Program} {l : Launch} {e : Env} {s : State} {m : MethodId} {args : Array Value} {below : List Frame} {meth : Method} {c : Code} {Q : State → Prop} {A : Nat → Prop} {H0 : Heap} {dC : Nat → ClassId} {dI : Nat → Nat → Nat} {cA : ClassId} (hx : p.tables.exec = Jvm.exec) (hb : c.code = cX1_inverseOf) (hown : s.vm.findClass RX1 = some m.cls) (hts : ∀ w ∈ wsX1_inverseOf, w.before args s = true) (hml : c.maxLocals = 3) (hA : ∀ q, H0.size ≤ q → A q) (hK : va_K (dC, dI) vwCl [(cA, .int)] s) (k : Nat) (v0 : Int32) : ∀ (j : Nat) (v1 : Int32) (v2 : Int32) (o : Int32 × Int32), f_S_inverseOf_L4 k v0 j v1 v2 = some o → ∀ (H : Heap) (locs : List Loc), va_P (dC, dI) vwCl [] H → va_D A [] → va_S A H0 H locs → ∀ ls : Array Slot, lv_has ls 3 [(0, .int v0), (1, .int v1), (2, .int v2)] → ∀ (he : ∀ (H : Heap) (locs : List Loc), va_P (dC, dI) vwCl [] H → va_D A [] → va_S A H0 H locs → ∀ ls : Array Slot, lv_has ls 3 [(1, .int o.1)] → W p l e rm_S_inverseOf s m args below meth c H locs 0 0 Q (F0 m 23 ls [])), W p l e rm_S_inverseOf s m args below meth c H locs 0 0 Q (F0 m 4 ls []) := by
  intro j
  induction j with
  | zero =>
    intro v1 v2 o hf
    rw [f_S_inverseOf_L4] at hf
    cases hf
  | succ j ih =>
    intro v1 v2 o hf H locs hP hD hS ls hl he
    rw [f_S_inverseOf_L4] at hf
    refine lv_iload_n hx hb dX1_inverseOf_4 rfl (lv_at hl 2 rfl) ?_
    refine lv_iconst (v := 4) hx hb dX1_inverseOf_5 (by decide) ?_
    refine lv_icmp_ge (tgt := 23) hx hb dX1_inverseOf_6 (by decide) (fun c3 => ?_) (fun c3 => ?_)
    · have hf := og_t c3 hf
      have e9 := Option.some.inj hf
      subst e9
      exact he _ _ (hP.sub [] rfl) (hD.sub [] (by decide) rfl) hS _ (lv_sub hl [1] rfl)
    · have hf := og_f c3 hf
      refine lv_iload_n hx hb dX1_inverseOf_9 rfl (lv_at hl 1 rfl) ?_
      refine lv_iconst (v := 2) hx hb dX1_inverseOf_10 (by decide) ?_
      refine lv_iload_n hx hb dX1_inverseOf_11 rfl (lv_at hl 0 rfl) ?_
      refine lv_iload_n hx hb dX1_inverseOf_12 rfl (lv_at hl 1 rfl) ?_
      refine lv_imul hx hb dX1_inverseOf_13 ?_
      refine lv_isub hx hb dX1_inverseOf_14 ?_
      refine lv_imul hx hb dX1_inverseOf_15 ?_
      refine lv_istore_n (lv' := [(1, .int (v1 * (2 - (v0 * v1)))), (0, .int v0), (2, .int v2)]) hx hb dX1_inverseOf_16 rfl hl (by decide) rfl (fun ls hl => ?_)
      refine lv_iinc (v := v2 + 1) (lv' := [(2, .int (v2 + 1)), (1, .int (v1 * (2 - (v0 * v1)))), (0, .int v0)]) hx hb dX1_inverseOf_17 hl (k := 2) rfl rfl (by decide) rfl (fun ls hl => ?_)
      refine lv_goto (tgt := 4) hx hb dX1_inverseOf_20 (by decide) ?_
      exact ih (v1 * (2 - (v0 * v1))) (v2 + 1) _ hf _ _ (hP.sub [] rfl) (hD.sub [] (by decide) rfl) hS _ (lv_sub hl [2, 1, 0] rfl) he
set_option maxHeartbeats 4000000 in
set_option maxRecDepth 100000 in
theorem c_S_inverseOf (l : Launch) (dC : Nat → ClassId) (dI : Nat → Nat → Nat) (cA : ClassId) (sz : Nat) (k : Nat) (word : Int32) (o : Int32) (hf : f_S_inverseOf k word = some o) : Met l yX1_inverseOf wsX1_inverseOf rm_S_inverseOf (c_Pre (dC, dI) vwCl [(cA, .int)] [] sz [.int word]) (c_Qi (dC, dI) vwCl [(cA, .int)] [] (va_A [] sz) o) 0 0 (va_A [] sz) := by
  unfold f_S_inverseOf at hf
  refine k_ent (Qc := fun A => c_Qi (dC, dI) vwCl [(cA, .int)] [] A o) (by decide) rfl (Nat.le_of_ble_eq_true rfl) ?_
  intro p e s m below meth c A hx hb hr hown hts hml hlocks hin hsz hA hK H locs hP hD hS ls hl
  have hown : s.vm.findClass RX1 = some m.cls := hown
  have hl : lv_has ls 3 [(0, .int word)] := hl
  refine lv_iload_n hx hb dX1_inverseOf_0 rfl (lv_at hl 0 rfl) ?_
  refine lv_istore_n (lv' := [(1, .int word), (0, .int word)]) hx hb dX1_inverseOf_1 rfl hl (by decide) rfl (fun ls hl => ?_)
  refine lv_iconst (v := 0) hx hb dX1_inverseOf_2 (by decide) ?_
  refine lv_istore_n (lv' := [(2, .int 0), (1, .int word), (0, .int word)]) hx hb dX1_inverseOf_3 rfl hl (by decide) rfl (fun ls hl => ?_)
  obtain ⟨x4, g5, hf⟩ := og_b hf
  refine w_S_inverseOf_L4 hx hb hown hts hml hA hK k word k word (0 : Int32) _ g5 _ _ (hP.sub [] rfl) (hD.sub [] (by decide) rfl) hS _ (lv_sub hl [2, 1, 0] rfl) ?_
  intro H locs hP hD hS ls hl
  refine lv_iload_n hx hb dX1_inverseOf_23 rfl (lv_at hl 0 rfl) ?_
  have e9 := Option.some.inj hf
  subst e9
  exact kr_i hx hb hr hlocks hK hS (hP.sub [] rfl) (hD.sub [] (by decide) rfl) dX1_inverseOf_24
def rm_S_takeMultiple : Room := { frames := 0, cells := 0, slots := 0, locals := 0 }
theorem kw_S_takeMultiple_0 : (.fieldLink RX1 15 "MinorSteps$Sum" "plus" "[I" : Cond) ∈ wsX1_takeMultiple := by decide +kernel
theorem kw_S_takeMultiple_1 : (.constantLong RX1 54 2147483647 : Cond) ∈ wsX1_takeMultiple := by decide +kernel
theorem kw_S_takeMultiple_2 : (.fieldLink RX1 22 "MinorSteps$Sum" "divisor" "[I" : Cond) ∈ wsX1_takeMultiple := by decide +kernel
theorem ki_S_takeMultiple_X1 : ∀ w ∈ u_ws RX1 TX1 6, w ∈ wsX1_takeMultiple := by decide +kernel
set_option maxHeartbeats 4000000 in
set_option maxRecDepth 100000 in
theorem w_S_takeMultiple_L6 {p : Program} {l : Launch} {e : Env} {s : State} {m : MethodId} {args : Array Value} {below : List Frame} {meth : Method} {c : Code} {Q : State → Prop} {A : Nat → Prop} {H0 : Heap} {dC : Nat → ClassId} {dI : Nat → Nat → Nat} {cA : ClassId} (hx : p.tables.exec = Jvm.exec) (hb : c.code = cX1_takeMultiple) (hown : s.vm.findClass RX1 = some m.cls) (hts : ∀ w ∈ wsX1_takeMultiple, w.before args s = true) (hml : c.maxLocals = 9) (hA : ∀ q, H0.size ≤ q → A q) (hK : va_K (dC, dI) vwCl [(cA, .int)] s) (k : Nat) (q_t : Nat) (q_t_plus : Nat) (q_t_minus : Nat) (q_t_divisor : Nat) (v1 : Int32) (v2 : Int32) (v3 : Int32) (v4 : Int64) (i0_t : Int32) (i4_t : Int32) (i5_t : Int32) (n_t_plus : Nat) (n_t_minus : Nat) (a_t_minus : Nat → Int32) (n_t_divisor : Nat) (a_t_divisor : Nat → Int32) : ∀ (j : Nat) (v6 : Int64) (v8 : Int32) (a_t_plus : Nat → Int32) (o : Int64 × Int32 × (Nat → Int32)), f_S_takeMultiple_L6 k v1 v2 v3 v4 n_t_plus n_t_divisor a_t_divisor j v6 v8 a_t_plus = some o → ∀ (H : Heap) (locs : List Loc), va_P (dC, dI) vwCl [(q_t, .inr (1, [.int i0_t, .ref q_t_plus, .ref q_t_minus, .ref q_t_divisor, .int i4_t, .int i5_t])), (q_t_plus, .inl (cA, n_t_plus, .inl a_t_plus)), (q_t_minus, .inl (cA, n_t_minus, .inl a_t_minus)), (q_t_divisor, .inl (cA, n_t_divisor, .inl a_t_divisor))] H → va_D A [(q_t, .inr (1, [.int i0_t, .ref q_t_plus, .ref q_t_minus, .ref q_t_divisor, .int i4_t, .int i5_t])), (q_t_plus, .inl (cA, n_t_plus, .inl a_t_plus)), (q_t_minus, .inl (cA, n_t_minus, .inl a_t_minus)), (q_t_divisor, .inl (cA, n_t_divisor, .inl a_t_divisor))] → va_S A H0 H locs → ∀ ls : Array Slot, lv_has ls 9 [(0, .ref q_t), (1, .int v1), (2, .int v2), (3, .int v3), (4, .long v4), (6, .long v6), (8, .int v8)] → ∀ (he : ∀ (H : Heap) (locs : List Loc), va_P (dC, dI) vwCl [(q_t, .inr (1, [.int i0_t, .ref q_t_plus, .ref q_t_minus, .ref q_t_divisor, .int i4_t, .int i5_t])), (q_t_plus, .inl (cA, n_t_plus, .inl o.2.2)), (q_t_minus, .inl (cA, n_t_minus, .inl a_t_minus)), (q_t_divisor, .inl (cA, n_t_divisor, .inl a_t_divisor))] H → va_D A [(q_t, .inr (1, [.int i0_t, .ref q_t_plus, .ref q_t_minus, .ref q_t_divisor, .int i4_t, .int i5_t])), (q_t_plus, .inl (cA, n_t_plus, .inl o.2.2)), (q_t_minus, .inl (cA, n_t_minus, .inl a_t_minus)), (q_t_divisor, .inl (cA, n_t_divisor, .inl a_t_divisor))] → va_S A H0 H locs → ∀ ls : Array Slot, lv_has ls 9 [] → W p l e rm_S_takeMultiple s m args below meth c H locs 0 0 Q (F0 m 93 ls [])), W p l e rm_S_takeMultiple s m args below meth c H locs 0 0 Q (F0 m 6 ls []) := by
  intro j
  induction j with
  | zero =>
    intro v6 v8 a_t_plus o hf
    rw [f_S_takeMultiple_L6] at hf
    cases hf
  | succ j ih =>
    intro v6 v8 a_t_plus o hf H locs hP hD hS ls hl he
    rw [f_S_takeMultiple_L6] at hf
    refine lv_iload hx hb dX1_takeMultiple_6 (lv_at hl 6 rfl) ?_
    refine lv_iload_n hx hb dX1_takeMultiple_8 rfl (lv_at hl 2 rfl) ?_
    refine lv_icmp_ge (tgt := 93) hx hb dX1_takeMultiple_9 (by decide) (fun c27 => ?_) (fun c27 => ?_)
    · have hf := og_t c27 hf
      have e9 := Option.some.inj hf
      subst e9
      exact he _ _ (hP.sub [0, 1, 2, 3] rfl) (hD.sub [0, 1, 2, 3] (by decide) rfl) hS _ (lv_sub hl [] rfl)
    · have hf := og_f c27 hf
      refine lv_iload hx hb dX1_takeMultiple_12 (lv_at hl 6 rfl) ?_
      refine lv_iload_n hx hb dX1_takeMultiple_14 rfl (lv_at hl 1 rfl) ?_
      refine lv_isub hx hb dX1_takeMultiple_15 ?_
      refine lv_iload_n hx hb dX1_takeMultiple_16 rfl (lv_at hl 3 rfl) ?_
      refine lv_icmp_lt (tgt := 27) hx hb dX1_takeMultiple_17 (by decide) (fun c28 => ?_) (fun c28 => ?_)
      · have hf := og_t c28 hf
        refine lv_lload hx hb dX1_takeMultiple_27 (lv_at hl 5 rfl) ?_
        refine lv_aload_n hx hb dX1_takeMultiple_29 rfl (lv_at hl 0 rfl) ?_
        refine va_get (D := (dC, dI)) (ci := 1) (v := .ref q_t_plus) (C := RX1) (T := TX1) (N := 6) hx hb hts ki_S_takeMultiple_X1 hown hK hP 0 rfl rfl 1 (by decide) (hts (.fieldLink RX1 15 "MinorSteps$Sum" "plus" "[I") kw_S_takeMultiple_0) (fun _ h9 => h9) rfl dX1_takeMultiple_30 ?_
        refine lv_iload hx hb dX1_takeMultiple_33 (lv_at hl 6 rfl) ?_
        obtain ⟨g29, hf⟩ := og_c hf
        refine va_iald hx hb hK hP 1 0 rfl rfl (og_in g29) dX1_takeMultiple_35 ?_
        refine lv_i2l (v := (a_t_plus v8.toNatClampNeg).toInt64) hx hb dX1_takeMultiple_36 rfl ?_
        refine lv_ladd hx hb dX1_takeMultiple_37 ?_
        refine lv_lstore (lv' := [(6, .long (v6 + ((a_t_plus v8.toNatClampNeg).toInt64))), (0, .ref q_t), (1, .int v1), (2, .int v2), (3, .int v3), (4, .long v4), (8, .int v8)]) hx hb dX1_takeMultiple_38 hl (by decide) rfl (fun ls hl => ?_)
        refine lv_iload hx hb dX1_takeMultiple_40 (lv_at hl 6 rfl) ?_
        refine lv_iload_n hx hb dX1_takeMultiple_42 rfl (lv_at hl 2 rfl) ?_
        refine lv_isub hx hb dX1_takeMultiple_43 ?_
        refine lv_iload_n hx hb dX1_takeMultiple_44 rfl (lv_at hl 4 rfl) ?_
        refine lv_icmp_ge (tgt := 66) hx hb dX1_takeMultiple_45 (by decide) (fun c30 => ?_) (fun c30 => ?_)
        · have hf := og_t c30 hf
          refine lv_aload_n hx hb dX1_takeMultiple_66 rfl (lv_at hl 1 rfl) ?_
          refine va_get (D := (dC, dI)) (ci := 1) (v := .ref q_t_plus) (C := RX1) (T := TX1) (N := 6) hx hb hts ki_S_takeMultiple_X1 hown hK hP 0 rfl rfl 1 (by decide) (hts (.fieldLink RX1 15 "MinorSteps$Sum" "plus" "[I") kw_S_takeMultiple_0) (fun _ h9 => h9) rfl dX1_takeMultiple_67 ?_
          refine lv_iload hx hb dX1_takeMultiple_70 (lv_at hl 6 rfl) ?_
          refine lv_lload hx hb dX1_takeMultiple_72 (lv_at hl 0 rfl) ?_
          refine lv_ldc2 (v := 2147483647) hx hb hown (hts (.constantLong RX1 54 2147483647) kw_S_takeMultiple_1) dX1_takeMultiple_74 ?_
          refine lv_land hx hb dX1_takeMultiple_77 ?_
          refine lv_l2i (v := ((v6 + ((a_t_plus v8.toNatClampNeg).toInt64)) &&& 2147483647).toInt32) hx hb dX1_takeMultiple_78 rfl ?_
          obtain ⟨g31, hf⟩ := og_c hf
          refine va_iast hx hb hK hP hD hS 1 0 rfl rfl (og_in g31) dX1_takeMultiple_79 (fun H locs hP hD hS => ?_)
          have hP : va_P (dC, dI) vwCl [(q_t, .inr (1, [.int i0_t, .ref q_t_plus, .ref q_t_minus, .ref q_t_divisor, .int i4_t, .int i5_t])), (q_t_plus, .inl (cA, n_t_plus, .inl (upd a_t_plus v8.toNatClampNeg (((v6 + ((a_t_plus v8.toNatClampNeg).toInt64)) &&& 2147483647).toInt32)))), (q_t_minus, .inl (cA, n_t_minus, .inl a_t_minus)), (q_t_divisor, .inl (cA, n_t_divisor, .inl a_t_divisor))] H := hP
          have hD : va_D A [(q_t, .inr (1, [.int i0_t, .ref q_t_plus, .ref q_t_minus, .ref q_t_divisor, .int i4_t, .int i5_t])), (q_t_plus, .inl (cA, n_t_plus, .inl (upd a_t_plus v8.toNatClampNeg (((v6 + ((a_t_plus v8.toNatClampNeg).toInt64)) &&& 2147483647).toInt32)))), (q_t_minus, .inl (cA, n_t_minus, .inl a_t_minus)), (q_t_divisor, .inl (cA, n_t_divisor, .inl a_t_divisor))] := hD
          refine lv_lload hx hb dX1_takeMultiple_80 (lv_at hl 0 rfl) ?_
          refine lv_bipush (v := 31) hx hb dX1_takeMultiple_82 (by decide) ?_
          refine lv_lshr (v := (v6 + ((a_t_plus v8.toNatClampNeg).toInt64)) >>> ((31 : Int32).toInt64 &&& 63)) hx hb dX1_takeMultiple_84 rfl ?_
          refine lv_lstore (lv' := [(6, .long ((v6 + ((a_t_plus v8.toNatClampNeg).toInt64)) >>> ((31 : Int32).toInt64 &&& 63))), (0, .ref q_t), (1, .int v1), (2, .int v2), (3, .int v3), (4, .long v4), (8, .int v8)]) hx hb dX1_takeMultiple_85 hl (by decide) rfl (fun ls hl => ?_)
          refine lv_iinc (v := v8 + 1) (lv' := [(8, .int (v8 + 1)), (6, .long ((v6 + ((a_t_plus v8.toNatClampNeg).toInt64)) >>> ((31 : Int32).toInt64 &&& 63))), (0, .ref q_t), (1, .int v1), (2, .int v2), (3, .int v3), (4, .long v4)]) hx hb dX1_takeMultiple_87 hl (k := 6) rfl rfl (by decide) rfl (fun ls hl => ?_)
          refine lv_goto (tgt := 6) hx hb dX1_takeMultiple_90 (by decide) ?_
          exact ih ((v6 + ((a_t_plus v8.toNatClampNeg).toInt64)) >>> ((31 : Int32).toInt64 &&& 63)) (v8 + 1) (upd a_t_plus v8.toNatClampNeg (((v6 + ((a_t_plus v8.toNatClampNeg).toInt64)) &&& 2147483647).toInt32)) _ hf _ _ (hP.sub [0, 1, 2, 3] rfl) (hD.sub [0, 1, 2, 3] (by decide) rfl) hS _ (lv_sub hl [2, 3, 4, 5, 6, 1, 0] rfl) he
        · have hf := og_f c30 hf
          refine lv_lload hx hb dX1_takeMultiple_48 (lv_at hl 0 rfl) ?_
          refine lv_lload hx hb dX1_takeMultiple_50 (lv_at hl 5 rfl) ?_
          refine lv_aload_n hx hb dX1_takeMultiple_52 rfl (lv_at hl 1 rfl) ?_
          refine va_get (D := (dC, dI)) (ci := 1) (v := .ref q_t_divisor) (C := RX1) (T := TX1) (N := 6) hx hb hts ki_S_takeMultiple_X1 hown hK hP 0 rfl rfl 3 (by decide) (hts (.fieldLink RX1 22 "MinorSteps$Sum" "divisor" "[I") kw_S_takeMultiple_2) (fun _ h9 => h9) rfl dX1_takeMultiple_53 ?_
          refine lv_iload hx hb dX1_takeMultiple_56 (lv_at hl 6 rfl) ?_
          refine lv_iload_n hx hb dX1_takeMultiple_58 rfl (lv_at hl 2 rfl) ?_
          refine lv_isub hx hb dX1_takeMultiple_59 ?_
          obtain ⟨g32, hf⟩ := og_c hf
          refine va_iald hx hb hK hP 3 0 rfl rfl (og_in g32) dX1_takeMultiple_60 ?_
          refine lv_i2l (v := (a_t_divisor (v8 - v1).toNatClampNeg).toInt64) hx hb dX1_takeMultiple_61 rfl ?_
          refine lv_lmul hx hb dX1_takeMultiple_62 ?_
          refine lv_lsub hx hb dX1_takeMultiple_63 ?_
          refine lv_lstore (lv' := [(6, .long ((v6 + ((a_t_plus v8.toNatClampNeg).toInt64)) - (v4 * ((a_t_divisor (v8 - v1).toNatClampNeg).toInt64)))), (0, .ref q_t), (1, .int v1), (2, .int v2), (3, .int v3), (4, .long v4), (8, .int v8)]) hx hb dX1_takeMultiple_64 hl (by decide) rfl (fun ls hl => ?_)
          refine lv_aload_n hx hb dX1_takeMultiple_66 rfl (lv_at hl 1 rfl) ?_
          refine va_get (D := (dC, dI)) (ci := 1) (v := .ref q_t_plus) (C := RX1) (T := TX1) (N := 6) hx hb hts ki_S_takeMultiple_X1 hown hK hP 0 rfl rfl 1 (by decide) (hts (.fieldLink RX1 15 "MinorSteps$Sum" "plus" "[I") kw_S_takeMultiple_0) (fun _ h9 => h9) rfl dX1_takeMultiple_67 ?_
          refine lv_iload hx hb dX1_takeMultiple_70 (lv_at hl 6 rfl) ?_
          refine lv_lload hx hb dX1_takeMultiple_72 (lv_at hl 0 rfl) ?_
          refine lv_ldc2 (v := 2147483647) hx hb hown (hts (.constantLong RX1 54 2147483647) kw_S_takeMultiple_1) dX1_takeMultiple_74 ?_
          refine lv_land hx hb dX1_takeMultiple_77 ?_
          refine lv_l2i (v := (((v6 + ((a_t_plus v8.toNatClampNeg).toInt64)) - (v4 * ((a_t_divisor (v8 - v1).toNatClampNeg).toInt64))) &&& 2147483647).toInt32) hx hb dX1_takeMultiple_78 rfl ?_
          obtain ⟨g33, hf⟩ := og_c hf
          refine va_iast hx hb hK hP hD hS 1 0 rfl rfl (og_in g33) dX1_takeMultiple_79 (fun H locs hP hD hS => ?_)
          have hP : va_P (dC, dI) vwCl [(q_t, .inr (1, [.int i0_t, .ref q_t_plus, .ref q_t_minus, .ref q_t_divisor, .int i4_t, .int i5_t])), (q_t_plus, .inl (cA, n_t_plus, .inl (upd a_t_plus v8.toNatClampNeg ((((v6 + ((a_t_plus v8.toNatClampNeg).toInt64)) - (v4 * ((a_t_divisor (v8 - v1).toNatClampNeg).toInt64))) &&& 2147483647).toInt32)))), (q_t_minus, .inl (cA, n_t_minus, .inl a_t_minus)), (q_t_divisor, .inl (cA, n_t_divisor, .inl a_t_divisor))] H := hP
          have hD : va_D A [(q_t, .inr (1, [.int i0_t, .ref q_t_plus, .ref q_t_minus, .ref q_t_divisor, .int i4_t, .int i5_t])), (q_t_plus, .inl (cA, n_t_plus, .inl (upd a_t_plus v8.toNatClampNeg ((((v6 + ((a_t_plus v8.toNatClampNeg).toInt64)) - (v4 * ((a_t_divisor (v8 - v1).toNatClampNeg).toInt64))) &&& 2147483647).toInt32)))), (q_t_minus, .inl (cA, n_t_minus, .inl a_t_minus)), (q_t_divisor, .inl (cA, n_t_divisor, .inl a_t_divisor))] := hD
          refine lv_lload hx hb dX1_takeMultiple_80 (lv_at hl 0 rfl) ?_
          refine lv_bipush (v := 31) hx hb dX1_takeMultiple_82 (by decide) ?_
          refine lv_lshr (v := ((v6 + ((a_t_plus v8.toNatClampNeg).toInt64)) - (v4 * ((a_t_divisor (v8 - v1).toNatClampNeg).toInt64))) >>> ((31 : Int32).toInt64 &&& 63)) hx hb dX1_takeMultiple_84 rfl ?_
          refine lv_lstore (lv' := [(6, .long (((v6 + ((a_t_plus v8.toNatClampNeg).toInt64)) - (v4 * ((a_t_divisor (v8 - v1).toNatClampNeg).toInt64))) >>> ((31 : Int32).toInt64 &&& 63))), (0, .ref q_t), (1, .int v1), (2, .int v2), (3, .int v3), (4, .long v4), (8, .int v8)]) hx hb dX1_takeMultiple_85 hl (by decide) rfl (fun ls hl => ?_)
          refine lv_iinc (v := v8 + 1) (lv' := [(8, .int (v8 + 1)), (6, .long (((v6 + ((a_t_plus v8.toNatClampNeg).toInt64)) - (v4 * ((a_t_divisor (v8 - v1).toNatClampNeg).toInt64))) >>> ((31 : Int32).toInt64 &&& 63))), (0, .ref q_t), (1, .int v1), (2, .int v2), (3, .int v3), (4, .long v4)]) hx hb dX1_takeMultiple_87 hl (k := 6) rfl rfl (by decide) rfl (fun ls hl => ?_)
          refine lv_goto (tgt := 6) hx hb dX1_takeMultiple_90 (by decide) ?_
          exact ih (((v6 + ((a_t_plus v8.toNatClampNeg).toInt64)) - (v4 * ((a_t_divisor (v8 - v1).toNatClampNeg).toInt64))) >>> ((31 : Int32).toInt64 &&& 63)) (v8 + 1) (upd a_t_plus v8.toNatClampNeg ((((v6 + ((a_t_plus v8.toNatClampNeg).toInt64)) - (v4 * ((a_t_divisor (v8 - v1).toNatClampNeg).toInt64))) &&& 2147483647).toInt32)) _ hf _ _ (hP.sub [0, 1, 2, 3] rfl) (hD.sub [0, 1, 2, 3] (by decide) rfl) hS _ (lv_sub hl [2, 3, 4, 5, 6, 1, 0] rfl) he
      · have hf := og_f c28 hf
        refine lv_lload hx hb dX1_takeMultiple_20 (lv_at hl 5 rfl) ?_
        refine lv_lconst (v := 0) hx hb dX1_takeMultiple_22 (by decide) ?_
        refine W.lcmp hx hb dX1_takeMultiple_23 ?_
        refine lv_if_eq (tgt := 93) hx hb dX1_takeMultiple_24 (by decide) (fun c34 => ?_) (fun c34 => ?_)
        · have hf := og_t c34 hf
          have e9 := Option.some.inj hf
          subst e9
          exact he _ _ (hP.sub [0, 1, 2, 3] rfl) (hD.sub [0, 1, 2, 3] (by decide) rfl) hS _ (lv_sub hl [] rfl)
        · have hf := og_f c34 hf
          refine lv_lload hx hb dX1_takeMultiple_27 (lv_at hl 5 rfl) ?_
          refine lv_aload_n hx hb dX1_takeMultiple_29 rfl (lv_at hl 0 rfl) ?_
          refine va_get (D := (dC, dI)) (ci := 1) (v := .ref q_t_plus) (C := RX1) (T := TX1) (N := 6) hx hb hts ki_S_takeMultiple_X1 hown hK hP 0 rfl rfl 1 (by decide) (hts (.fieldLink RX1 15 "MinorSteps$Sum" "plus" "[I") kw_S_takeMultiple_0) (fun _ h9 => h9) rfl dX1_takeMultiple_30 ?_
          refine lv_iload hx hb dX1_takeMultiple_33 (lv_at hl 6 rfl) ?_
          obtain ⟨g35, hf⟩ := og_c hf
          refine va_iald hx hb hK hP 1 0 rfl rfl (og_in g35) dX1_takeMultiple_35 ?_
          refine lv_i2l (v := (a_t_plus v8.toNatClampNeg).toInt64) hx hb dX1_takeMultiple_36 rfl ?_
          refine lv_ladd hx hb dX1_takeMultiple_37 ?_
          refine lv_lstore (lv' := [(6, .long (v6 + ((a_t_plus v8.toNatClampNeg).toInt64))), (0, .ref q_t), (1, .int v1), (2, .int v2), (3, .int v3), (4, .long v4), (8, .int v8)]) hx hb dX1_takeMultiple_38 hl (by decide) rfl (fun ls hl => ?_)
          refine lv_iload hx hb dX1_takeMultiple_40 (lv_at hl 6 rfl) ?_
          refine lv_iload_n hx hb dX1_takeMultiple_42 rfl (lv_at hl 2 rfl) ?_
          refine lv_isub hx hb dX1_takeMultiple_43 ?_
          refine lv_iload_n hx hb dX1_takeMultiple_44 rfl (lv_at hl 4 rfl) ?_
          refine lv_icmp_ge (tgt := 66) hx hb dX1_takeMultiple_45 (by decide) (fun c36 => ?_) (fun c36 => ?_)
          · have hf := og_t c36 hf
            refine lv_aload_n hx hb dX1_takeMultiple_66 rfl (lv_at hl 1 rfl) ?_
            refine va_get (D := (dC, dI)) (ci := 1) (v := .ref q_t_plus) (C := RX1) (T := TX1) (N := 6) hx hb hts ki_S_takeMultiple_X1 hown hK hP 0 rfl rfl 1 (by decide) (hts (.fieldLink RX1 15 "MinorSteps$Sum" "plus" "[I") kw_S_takeMultiple_0) (fun _ h9 => h9) rfl dX1_takeMultiple_67 ?_
            refine lv_iload hx hb dX1_takeMultiple_70 (lv_at hl 6 rfl) ?_
            refine lv_lload hx hb dX1_takeMultiple_72 (lv_at hl 0 rfl) ?_
            refine lv_ldc2 (v := 2147483647) hx hb hown (hts (.constantLong RX1 54 2147483647) kw_S_takeMultiple_1) dX1_takeMultiple_74 ?_
            refine lv_land hx hb dX1_takeMultiple_77 ?_
            refine lv_l2i (v := ((v6 + ((a_t_plus v8.toNatClampNeg).toInt64)) &&& 2147483647).toInt32) hx hb dX1_takeMultiple_78 rfl ?_
            obtain ⟨g37, hf⟩ := og_c hf
            refine va_iast hx hb hK hP hD hS 1 0 rfl rfl (og_in g37) dX1_takeMultiple_79 (fun H locs hP hD hS => ?_)
            have hP : va_P (dC, dI) vwCl [(q_t, .inr (1, [.int i0_t, .ref q_t_plus, .ref q_t_minus, .ref q_t_divisor, .int i4_t, .int i5_t])), (q_t_plus, .inl (cA, n_t_plus, .inl (upd a_t_plus v8.toNatClampNeg (((v6 + ((a_t_plus v8.toNatClampNeg).toInt64)) &&& 2147483647).toInt32)))), (q_t_minus, .inl (cA, n_t_minus, .inl a_t_minus)), (q_t_divisor, .inl (cA, n_t_divisor, .inl a_t_divisor))] H := hP
            have hD : va_D A [(q_t, .inr (1, [.int i0_t, .ref q_t_plus, .ref q_t_minus, .ref q_t_divisor, .int i4_t, .int i5_t])), (q_t_plus, .inl (cA, n_t_plus, .inl (upd a_t_plus v8.toNatClampNeg (((v6 + ((a_t_plus v8.toNatClampNeg).toInt64)) &&& 2147483647).toInt32)))), (q_t_minus, .inl (cA, n_t_minus, .inl a_t_minus)), (q_t_divisor, .inl (cA, n_t_divisor, .inl a_t_divisor))] := hD
            refine lv_lload hx hb dX1_takeMultiple_80 (lv_at hl 0 rfl) ?_
            refine lv_bipush (v := 31) hx hb dX1_takeMultiple_82 (by decide) ?_
            refine lv_lshr (v := (v6 + ((a_t_plus v8.toNatClampNeg).toInt64)) >>> ((31 : Int32).toInt64 &&& 63)) hx hb dX1_takeMultiple_84 rfl ?_
            refine lv_lstore (lv' := [(6, .long ((v6 + ((a_t_plus v8.toNatClampNeg).toInt64)) >>> ((31 : Int32).toInt64 &&& 63))), (0, .ref q_t), (1, .int v1), (2, .int v2), (3, .int v3), (4, .long v4), (8, .int v8)]) hx hb dX1_takeMultiple_85 hl (by decide) rfl (fun ls hl => ?_)
            refine lv_iinc (v := v8 + 1) (lv' := [(8, .int (v8 + 1)), (6, .long ((v6 + ((a_t_plus v8.toNatClampNeg).toInt64)) >>> ((31 : Int32).toInt64 &&& 63))), (0, .ref q_t), (1, .int v1), (2, .int v2), (3, .int v3), (4, .long v4)]) hx hb dX1_takeMultiple_87 hl (k := 6) rfl rfl (by decide) rfl (fun ls hl => ?_)
            refine lv_goto (tgt := 6) hx hb dX1_takeMultiple_90 (by decide) ?_
            exact ih ((v6 + ((a_t_plus v8.toNatClampNeg).toInt64)) >>> ((31 : Int32).toInt64 &&& 63)) (v8 + 1) (upd a_t_plus v8.toNatClampNeg (((v6 + ((a_t_plus v8.toNatClampNeg).toInt64)) &&& 2147483647).toInt32)) _ hf _ _ (hP.sub [0, 1, 2, 3] rfl) (hD.sub [0, 1, 2, 3] (by decide) rfl) hS _ (lv_sub hl [2, 3, 4, 5, 6, 1, 0] rfl) he
          · have hf := og_f c36 hf
            refine lv_lload hx hb dX1_takeMultiple_48 (lv_at hl 0 rfl) ?_
            refine lv_lload hx hb dX1_takeMultiple_50 (lv_at hl 5 rfl) ?_
            refine lv_aload_n hx hb dX1_takeMultiple_52 rfl (lv_at hl 1 rfl) ?_
            refine va_get (D := (dC, dI)) (ci := 1) (v := .ref q_t_divisor) (C := RX1) (T := TX1) (N := 6) hx hb hts ki_S_takeMultiple_X1 hown hK hP 0 rfl rfl 3 (by decide) (hts (.fieldLink RX1 22 "MinorSteps$Sum" "divisor" "[I") kw_S_takeMultiple_2) (fun _ h9 => h9) rfl dX1_takeMultiple_53 ?_
            refine lv_iload hx hb dX1_takeMultiple_56 (lv_at hl 6 rfl) ?_
            refine lv_iload_n hx hb dX1_takeMultiple_58 rfl (lv_at hl 2 rfl) ?_
            refine lv_isub hx hb dX1_takeMultiple_59 ?_
            obtain ⟨g38, hf⟩ := og_c hf
            refine va_iald hx hb hK hP 3 0 rfl rfl (og_in g38) dX1_takeMultiple_60 ?_
            refine lv_i2l (v := (a_t_divisor (v8 - v1).toNatClampNeg).toInt64) hx hb dX1_takeMultiple_61 rfl ?_
            refine lv_lmul hx hb dX1_takeMultiple_62 ?_
            refine lv_lsub hx hb dX1_takeMultiple_63 ?_
            refine lv_lstore (lv' := [(6, .long ((v6 + ((a_t_plus v8.toNatClampNeg).toInt64)) - (v4 * ((a_t_divisor (v8 - v1).toNatClampNeg).toInt64)))), (0, .ref q_t), (1, .int v1), (2, .int v2), (3, .int v3), (4, .long v4), (8, .int v8)]) hx hb dX1_takeMultiple_64 hl (by decide) rfl (fun ls hl => ?_)
            refine lv_aload_n hx hb dX1_takeMultiple_66 rfl (lv_at hl 1 rfl) ?_
            refine va_get (D := (dC, dI)) (ci := 1) (v := .ref q_t_plus) (C := RX1) (T := TX1) (N := 6) hx hb hts ki_S_takeMultiple_X1 hown hK hP 0 rfl rfl 1 (by decide) (hts (.fieldLink RX1 15 "MinorSteps$Sum" "plus" "[I") kw_S_takeMultiple_0) (fun _ h9 => h9) rfl dX1_takeMultiple_67 ?_
            refine lv_iload hx hb dX1_takeMultiple_70 (lv_at hl 6 rfl) ?_
            refine lv_lload hx hb dX1_takeMultiple_72 (lv_at hl 0 rfl) ?_
            refine lv_ldc2 (v := 2147483647) hx hb hown (hts (.constantLong RX1 54 2147483647) kw_S_takeMultiple_1) dX1_takeMultiple_74 ?_
            refine lv_land hx hb dX1_takeMultiple_77 ?_
            refine lv_l2i (v := (((v6 + ((a_t_plus v8.toNatClampNeg).toInt64)) - (v4 * ((a_t_divisor (v8 - v1).toNatClampNeg).toInt64))) &&& 2147483647).toInt32) hx hb dX1_takeMultiple_78 rfl ?_
            obtain ⟨g39, hf⟩ := og_c hf
            refine va_iast hx hb hK hP hD hS 1 0 rfl rfl (og_in g39) dX1_takeMultiple_79 (fun H locs hP hD hS => ?_)
            have hP : va_P (dC, dI) vwCl [(q_t, .inr (1, [.int i0_t, .ref q_t_plus, .ref q_t_minus, .ref q_t_divisor, .int i4_t, .int i5_t])), (q_t_plus, .inl (cA, n_t_plus, .inl (upd a_t_plus v8.toNatClampNeg ((((v6 + ((a_t_plus v8.toNatClampNeg).toInt64)) - (v4 * ((a_t_divisor (v8 - v1).toNatClampNeg).toInt64))) &&& 2147483647).toInt32)))), (q_t_minus, .inl (cA, n_t_minus, .inl a_t_minus)), (q_t_divisor, .inl (cA, n_t_divisor, .inl a_t_divisor))] H := hP
            have hD : va_D A [(q_t, .inr (1, [.int i0_t, .ref q_t_plus, .ref q_t_minus, .ref q_t_divisor, .int i4_t, .int i5_t])), (q_t_plus, .inl (cA, n_t_plus, .inl (upd a_t_plus v8.toNatClampNeg ((((v6 + ((a_t_plus v8.toNatClampNeg).toInt64)) - (v4 * ((a_t_divisor (v8 - v1).toNatClampNeg).toInt64))) &&& 2147483647).toInt32)))), (q_t_minus, .inl (cA, n_t_minus, .inl a_t_minus)), (q_t_divisor, .inl (cA, n_t_divisor, .inl a_t_divisor))] := hD
            refine lv_lload hx hb dX1_takeMultiple_80 (lv_at hl 0 rfl) ?_
            refine lv_bipush (v := 31) hx hb dX1_takeMultiple_82 (by decide) ?_
            refine lv_lshr (v := ((v6 + ((a_t_plus v8.toNatClampNeg).toInt64)) - (v4 * ((a_t_divisor (v8 - v1).toNatClampNeg).toInt64))) >>> ((31 : Int32).toInt64 &&& 63)) hx hb dX1_takeMultiple_84 rfl ?_
            refine lv_lstore (lv' := [(6, .long (((v6 + ((a_t_plus v8.toNatClampNeg).toInt64)) - (v4 * ((a_t_divisor (v8 - v1).toNatClampNeg).toInt64))) >>> ((31 : Int32).toInt64 &&& 63))), (0, .ref q_t), (1, .int v1), (2, .int v2), (3, .int v3), (4, .long v4), (8, .int v8)]) hx hb dX1_takeMultiple_85 hl (by decide) rfl (fun ls hl => ?_)
            refine lv_iinc (v := v8 + 1) (lv' := [(8, .int (v8 + 1)), (6, .long (((v6 + ((a_t_plus v8.toNatClampNeg).toInt64)) - (v4 * ((a_t_divisor (v8 - v1).toNatClampNeg).toInt64))) >>> ((31 : Int32).toInt64 &&& 63))), (0, .ref q_t), (1, .int v1), (2, .int v2), (3, .int v3), (4, .long v4)]) hx hb dX1_takeMultiple_87 hl (k := 6) rfl rfl (by decide) rfl (fun ls hl => ?_)
            refine lv_goto (tgt := 6) hx hb dX1_takeMultiple_90 (by decide) ?_
            exact ih (((v6 + ((a_t_plus v8.toNatClampNeg).toInt64)) - (v4 * ((a_t_divisor (v8 - v1).toNatClampNeg).toInt64))) >>> ((31 : Int32).toInt64 &&& 63)) (v8 + 1) (upd a_t_plus v8.toNatClampNeg ((((v6 + ((a_t_plus v8.toNatClampNeg).toInt64)) - (v4 * ((a_t_divisor (v8 - v1).toNatClampNeg).toInt64))) &&& 2147483647).toInt32)) _ hf _ _ (hP.sub [0, 1, 2, 3] rfl) (hD.sub [0, 1, 2, 3] (by decide) rfl) hS _ (lv_sub hl [2, 3, 4, 5, 6, 1, 0] rfl) he
set_option maxHeartbeats 4000000 in
set_option maxRecDepth 100000 in
theorem c_S_takeMultiple (l : Launch) (dC : Nat → ClassId) (dI : Nat → Nat → Nat) (cA : ClassId) (sz : Nat) (q_t : Nat) (q_t_plus : Nat) (q_t_minus : Nat) (q_t_divisor : Nat) (k : Nat) (t_room : Int32) (t_sign : Int32) (t_length : Int32) (n_t_plus : Nat) (a_t_plus : Nat → Int32) (n_t_minus : Nat) (a_t_minus : Nat → Int32) (n_t_divisor : Nat) (a_t_divisor : Nat → Int32) (fro : Int32) (fin : Int32) (size : Int32) (word : Int64) (o : (Nat → Int32)) (hf : f_S_takeMultiple k n_t_plus a_t_plus n_t_divisor a_t_divisor fro fin size word = some o) : Met l yX1_takeMultiple wsX1_takeMultiple rm_S_takeMultiple (c_Pre (dC, dI) vwCl [(cA, .int)] [(q_t, .inr (1, [.int t_room, .ref q_t_plus, .ref q_t_minus, .ref q_t_divisor, .int t_sign, .int t_length])), (q_t_plus, .inl (cA, n_t_plus, .inl a_t_plus)), (q_t_minus, .inl (cA, n_t_minus, .inl a_t_minus)), (q_t_divisor, .inl (cA, n_t_divisor, .inl a_t_divisor))] sz [.ref q_t, .int fro, .int fin, .int size, .long word]) (c_Qv (dC, dI) vwCl [(cA, .int)] [(q_t, .inr (1, [.int t_room, .ref q_t_plus, .ref q_t_minus, .ref q_t_divisor, .int t_sign, .int t_length])), (q_t_plus, .inl (cA, n_t_plus, .inl o)), (q_t_minus, .inl (cA, n_t_minus, .inl a_t_minus)), (q_t_divisor, .inl (cA, n_t_divisor, .inl a_t_divisor))] (va_A [(q_t, .inr (1, [.int t_room, .ref q_t_plus, .ref q_t_minus, .ref q_t_divisor, .int t_sign, .int t_length])), (q_t_plus, .inl (cA, n_t_plus, .inl a_t_plus)), (q_t_minus, .inl (cA, n_t_minus, .inl a_t_minus)), (q_t_divisor, .inl (cA, n_t_divisor, .inl a_t_divisor))] sz)) 0 0 (va_A [(q_t, .inr (1, [.int t_room, .ref q_t_plus, .ref q_t_minus, .ref q_t_divisor, .int t_sign, .int t_length])), (q_t_plus, .inl (cA, n_t_plus, .inl a_t_plus)), (q_t_minus, .inl (cA, n_t_minus, .inl a_t_minus)), (q_t_divisor, .inl (cA, n_t_divisor, .inl a_t_divisor))] sz) := by
  unfold f_S_takeMultiple at hf
  refine k_ent (Qc := fun A => c_Qv (dC, dI) vwCl [(cA, .int)] [(q_t, .inr (1, [.int t_room, .ref q_t_plus, .ref q_t_minus, .ref q_t_divisor, .int t_sign, .int t_length])), (q_t_plus, .inl (cA, n_t_plus, .inl o)), (q_t_minus, .inl (cA, n_t_minus, .inl a_t_minus)), (q_t_divisor, .inl (cA, n_t_divisor, .inl a_t_divisor))] A) (by decide) rfl (Nat.le_of_ble_eq_true rfl) ?_
  intro p e s m below meth c A hx hb hr hown hts hml hlocks hin hsz hA hK H locs hP hD hS ls hl
  have hown : s.vm.findClass RX1 = some m.cls := hown
  have hl : lv_has ls 9 [(0, .ref q_t), (1, .int fro), (2, .int fin), (3, .int size), (4, .long word)] := hl
  refine lv_lconst (v := 0) hx hb dX1_takeMultiple_0 (by decide) ?_
  refine lv_lstore (lv' := [(6, .long 0), (0, .ref q_t), (1, .int fro), (2, .int fin), (3, .int size), (4, .long word)]) hx hb dX1_takeMultiple_1 hl (by decide) rfl (fun ls hl => ?_)
  refine lv_iload_n hx hb dX1_takeMultiple_3 rfl (lv_at hl 2 rfl) ?_
  refine lv_istore (lv' := [(8, .int fro), (6, .long 0), (0, .ref q_t), (1, .int fro), (2, .int fin), (3, .int size), (4, .long word)]) hx hb dX1_takeMultiple_4 hl (by decide) rfl (fun ls hl => ?_)
  obtain ⟨x40, g41, hf⟩ := og_b hf
  refine w_S_takeMultiple_L6 hx hb hown hts hml hA hK k q_t q_t_plus q_t_minus q_t_divisor fro fin size word t_room t_sign t_length n_t_plus n_t_minus a_t_minus n_t_divisor a_t_divisor k (0 : Int64) fro a_t_plus _ g41 _ _ (hP.sub [0, 1, 2, 3] rfl) (hD.sub [0, 1, 2, 3] (by decide) rfl) hS _ (lv_sub hl [2, 3, 4, 5, 6, 1, 0] rfl) ?_
  intro H locs hP hD hS ls hl
  have e9 := Option.some.inj hf
  subst e9
  exact kr_v hx hb hr hlocks hK hS (hP.sub [0, 1, 2, 3] rfl) (hD.sub [0, 1, 2, 3] (by decide) rfl) dX1_takeMultiple_93
def rm_S_divideByOdd : Room := { frames := 1, cells := 0, slots := 0, locals := 28 }
theorem kw_S_divideByOdd_0 : (.methodLink RX1 78 Lib.Math.max.name : Cond) ∈ wsX1_divideByOdd := by decide +kernel
theorem kw_S_divideByOdd_1 : (.static Lib.Math.max.name : Cond) ∈ wsX1_divideByOdd := by decide +kernel
theorem kw_S_divideByOdd_2 : (.initialized "java/lang/Math" : Cond) ∈ wsX1_divideByOdd := by decide +kernel
theorem kw_S_divideByOdd_3 : (.code Lib.Math.max.name Lib.Math.max.code 2 (some .int) : Cond) ∈ wsX1_divideByOdd := by decide +kernel
theorem kw_S_divideByOdd_4 : (.fieldLink RX1 22 "MinorSteps$Sum" "divisor" "[I" : Cond) ∈ wsX1_divideByOdd := by decide +kernel
theorem kw_S_divideByOdd_5 : (.fieldLink RX1 15 "MinorSteps$Sum" "plus" "[I" : Cond) ∈ wsX1_divideByOdd := by decide +kernel
theorem kw_S_divideByOdd_6 : (.constant RX1 86 2147483647 : Cond) ∈ wsX1_divideByOdd := by decide +kernel
theorem kw_S_divideByOdd_7 : (.fieldLink RX1 34 "MinorSteps$Sum" "length" "I" : Cond) ∈ wsX1_divideByOdd := by decide +kernel
theorem ki_S_divideByOdd_X1 : ∀ w ∈ u_ws RX1 TX1 6, w ∈ wsX1_divideByOdd := by decide +kernel
set_option maxHeartbeats 4000000 in
set_option maxRecDepth 100000 in
theorem w_S_divideByOdd_L24 {p : Program} {l : Launch} {e : Env} {s : State} {m : MethodId} {args : Array Value} {below : List Frame} {meth : Method} {c : Code} {Q : State → Prop} {A : Nat → Prop} {H0 : Heap} {dC : Nat → ClassId} {dI : Nat → Nat → Nat} {cA : ClassId} (hx : p.tables.exec = Jvm.exec) (hb : c.code = cX1_divideByOdd) (hown : s.vm.findClass RX1 = some m.cls) (hts : ∀ w ∈ wsX1_divideByOdd, w.before args s = true) (hml : c.maxLocals = 7) (hA : ∀ q, H0.size ≤ q → A q) (hK : va_K (dC, dI) vwCl [(cA, .int)] s) (k : Nat) (q_t : Nat) (q_t_plus : Nat) (q_t_minus : Nat) (q_t_divisor : Nat) (v1 : Int32) (v3 : Int32) (v4 : Int32) (i0_t : Int32) (i4_t : Int32) (i5_t : Int32) (n_t_plus : Nat) (n_t_minus : Nat) (a_t_minus : Nat → Int32) (n_t_divisor : Nat) (a_t_divisor : Nat → Int32) : ∀ (j : Nat) (v5 : Int32) (a_t_plus : Nat → Int32) (o : Int32 × (Nat → Int32)), f_S_divideByOdd_L24 k v1 v3 v4 n_t_plus n_t_divisor a_t_divisor j v5 a_t_plus = some o → ∀ (H : Heap) (locs : List Loc), va_P (dC, dI) vwCl [(q_t, .inr (1, [.int i0_t, .ref q_t_plus, .ref q_t_minus, .ref q_t_divisor, .int i4_t, .int i5_t])), (q_t_plus, .inl (cA, n_t_plus, .inl a_t_plus)), (q_t_minus, .inl (cA, n_t_minus, .inl a_t_minus)), (q_t_divisor, .inl (cA, n_t_divisor, .inl a_t_divisor))] H → va_D A [(q_t, .inr (1, [.int i0_t, .ref q_t_plus, .ref q_t_minus, .ref q_t_divisor, .int i4_t, .int i5_t])), (q_t_plus, .inl (cA, n_t_plus, .inl a_t_plus)), (q_t_minus, .inl (cA, n_t_minus, .inl a_t_minus)), (q_t_divisor, .inl (cA, n_t_divisor, .inl a_t_divisor))] → va_S A H0 H locs → ∀ ls : Array Slot, lv_has ls 7 [(0, .ref q_t), (1, .int v1), (3, .int v3), (4, .int v4), (5, .int v5)] → ∀ (he : ∀ (H : Heap) (locs : List Loc), va_P (dC, dI) vwCl [(q_t, .inr (1, [.int i0_t, .ref q_t_plus, .ref q_t_minus, .ref q_t_divisor, .int i4_t, .int i5_t])), (q_t_plus, .inl (cA, n_t_plus, .inl o.2)), (q_t_minus, .inl (cA, n_t_minus, .inl a_t_minus)), (q_t_divisor, .inl (cA, n_t_divisor, .inl a_t_divisor))] H → va_D A [(q_t, .inr (1, [.int i0_t, .ref q_t_plus, .ref q_t_minus, .ref q_t_divisor, .int i4_t, .int i5_t])), (q_t_plus, .inl (cA, n_t_plus, .inl o.2)), (q_t_minus, .inl (cA, n_t_minus, .inl a_t_minus)), (q_t_divisor, .inl (cA, n_t_divisor, .inl a_t_divisor))] → va_S A H0 H locs → ∀ ls : Array Slot, lv_has ls 7 [(0, .ref q_t), (3, .int v3)] → W p l e rm_S_divideByOdd s m args below meth c H locs 0 0 Q (F0 m 71 ls [])), W p l e rm_S_divideByOdd s m args below meth c H locs 0 0 Q (F0 m 24 ls []) := by
  intro j
  induction j with
  | zero =>
    intro v5 a_t_plus o hf
    rw [f_S_divideByOdd_L24] at hf
    cases hf
  | succ j ih =>
    intro v5 a_t_plus o hf H locs hP hD hS ls hl he
    rw [f_S_divideByOdd_L24] at hf
    refine lv_iload hx hb dX1_divideByOdd_24 (lv_at hl 4 rfl) ?_
    refine lv_iload_n hx hb dX1_divideByOdd_26 rfl (lv_at hl 2 rfl) ?_
    refine lv_icmp_ge (tgt := 71) hx hb dX1_divideByOdd_27 (by decide) (fun c14 => ?_) (fun c14 => ?_)
    · have hf := og_t c14 hf
      have e9 := Option.some.inj hf
      subst e9
      exact he _ _ (hP.sub [0, 1, 2, 3] rfl) (hD.sub [0, 1, 2, 3] (by decide) rfl) hS _ (lv_sub hl [0, 2] rfl)
    · have hf := og_f c14 hf
      refine lv_aload_n hx hb dX1_divideByOdd_30 rfl (lv_at hl 0 rfl) ?_
      refine va_get (D := (dC, dI)) (ci := 1) (v := .ref q_t_plus) (C := RX1) (T := TX1) (N := 6) hx hb hts ki_S_divideByOdd_X1 hown hK hP 0 rfl rfl 1 (by decide) (hts (.fieldLink RX1 15 "MinorSteps$Sum" "plus" "[I") kw_S_divideByOdd_5) (fun _ h9 => h9) rfl dX1_divideByOdd_31 ?_
      refine lv_iload hx hb dX1_divideByOdd_34 (lv_at hl 4 rfl) ?_
      obtain ⟨g15, hf⟩ := og_c hf
      refine va_iald hx hb hK hP 1 0 rfl rfl (og_in g15) dX1_divideByOdd_36 ?_
      refine lv_iload hx hb dX1_divideByOdd_37 (lv_at hl 3 rfl) ?_
      refine lv_imul hx hb dX1_divideByOdd_39 ?_
      refine lv_ldc (v := 2147483647) hx hb hown (hts (.constant RX1 86 2147483647) kw_S_divideByOdd_6) dX1_divideByOdd_40 ?_
      refine lv_iand hx hb dX1_divideByOdd_42 ?_
      refine lv_istore (lv' := [(6, .int (((a_t_plus v5.toNatClampNeg) * v4) &&& 2147483647)), (0, .ref q_t), (1, .int v1), (3, .int v3), (4, .int v4), (5, .int v5)]) hx hb dX1_divideByOdd_43 hl (by decide) rfl (fun ls hl => ?_)
      refine lv_aload_n hx hb dX1_divideByOdd_45 rfl (lv_at hl 1 rfl) ?_
      refine lv_iload hx hb dX1_divideByOdd_46 (lv_at hl 5 rfl) ?_
      refine lv_iload_n hx hb dX1_divideByOdd_48 rfl (lv_at hl 3 rfl) ?_
      refine lv_iload_n hx hb dX1_divideByOdd_49 rfl (lv_at hl 2 rfl) ?_
      refine lv_iload hx hb dX1_divideByOdd_50 (lv_at hl 0 rfl) ?_
      refine lv_i2l (v := (((a_t_plus v5.toNatClampNeg) * v4) &&& 2147483647).toInt64) hx hb dX1_divideByOdd_52 rfl ?_
      obtain ⟨x16, g17, hf⟩ := og_b hf
      refine kc_v (wr := []) (w1 := [(q_t, .inr (1, [.int i0_t, .ref q_t_plus, .ref q_t_minus, .ref q_t_divisor, .int i4_t, .int i5_t])), (q_t_plus, .inl (cA, n_t_plus, .inl x16)), (q_t_minus, .inl (cA, n_t_minus, .inl a_t_minus)), (q_t_divisor, .inl (cA, n_t_divisor, .inl a_t_divisor))]) [0, 1, 2, 3] [] (va_runV (As := [.int v5, .int v3, .int v1, .long ((((a_t_plus v5.toNatClampNeg) * v4) &&& 2147483647).toInt64)]) (rest := []) ⟨hx, hb, hml, hown, hts⟩ (c_S_takeMultiple l dC dI cA H.size q_t q_t_plus q_t_minus q_t_divisor k i0_t i4_t i5_t n_t_plus a_t_plus n_t_minus a_t_minus n_t_divisor a_t_divisor v5 v3 v1 ((((a_t_plus v5.toNatClampNeg) * v4) &&& 2147483647).toInt64) x16 g17) (cwV 4 hts gX1_divideByOdd_X1_takeMultiple rfl rfl rfl (by decide +kernel) ⟨Nat.le_of_ble_eq_true rfl, Nat.le_of_ble_eq_true rfl⟩) (kc_preV hP hD hK [0, 1, 2, 3] rfl rfl (by decide) (ci := 1) (q0 := 0) rfl rfl) rfl rfl hl.1 rfl (lv_room (Nat.le_of_ble_eq_true rfl)) dX1_divideByOdd_53 ⟨Nat.le_of_ble_eq_true rfl, Nat.le_of_ble_eq_true rfl⟩) hP hD hS hA rfl rfl (by decide) (by decide) (fun H locs hP hD hS => ?_)
      have hP : va_P (dC, dI) vwCl [(q_t, .inr (1, [.int i0_t, .ref q_t_plus, .ref q_t_minus, .ref q_t_divisor, .int i4_t, .int i5_t])), (q_t_plus, .inl (cA, n_t_plus, .inl x16)), (q_t_minus, .inl (cA, n_t_minus, .inl a_t_minus)), (q_t_divisor, .inl (cA, n_t_divisor, .inl a_t_divisor))] H := hP
      have hD : va_D A [(q_t, .inr (1, [.int i0_t, .ref q_t_plus, .ref q_t_minus, .ref q_t_divisor, .int i4_t, .int i5_t])), (q_t_plus, .inl (cA, n_t_plus, .inl x16)), (q_t_minus, .inl (cA, n_t_minus, .inl a_t_minus)), (q_t_divisor, .inl (cA, n_t_divisor, .inl a_t_divisor))] := hD
      refine lv_aload_n hx hb dX1_divideByOdd_56 rfl (lv_at hl 1 rfl) ?_
      refine va_get (D := (dC, dI)) (ci := 1) (v := .ref q_t_plus) (C := RX1) (T := TX1) (N := 6) hx hb hts ki_S_divideByOdd_X1 hown hK hP 0 rfl rfl 1 (by decide) (hts (.fieldLink RX1 15 "MinorSteps$Sum" "plus" "[I") kw_S_divideByOdd_5) (fun _ h9 => h9) rfl dX1_divideByOdd_57 ?_
      refine lv_iload hx hb dX1_divideByOdd_60 (lv_at hl 5 rfl) ?_
      refine lv_iload hx hb dX1_divideByOdd_62 (lv_at hl 0 rfl) ?_
      obtain ⟨g18, hf⟩ := og_c hf
      refine va_iast hx hb hK hP hD hS 1 0 rfl rfl (og_in g18) dX1_divideByOdd_64 (fun H locs hP hD hS => ?_)
      have hP : va_P (dC, dI) vwCl [(q_t, .inr (1, [.int i0_t, .ref q_t_plus, .ref q_t_minus, .ref q_t_divisor, .int i4_t, .int i5_t])), (q_t_plus, .inl (cA, n_t_plus, .inl (upd x16 v5.toNatClampNeg (((a_t_plus v5.toNatClampNeg) * v4) &&& 2147483647)))), (q_t_minus, .inl (cA, n_t_minus, .inl a_t_minus)), (q_t_divisor, .inl (cA, n_t_divisor, .inl a_t_divisor))] H := hP
      have hD : va_D A [(q_t, .inr (1, [.int i0_t, .ref q_t_plus, .ref q_t_minus, .ref q_t_divisor, .int i4_t, .int i5_t])), (q_t_plus, .inl (cA, n_t_plus, .inl (upd x16 v5.toNatClampNeg (((a_t_plus v5.toNatClampNeg) * v4) &&& 2147483647)))), (q_t_minus, .inl (cA, n_t_minus, .inl a_t_minus)), (q_t_divisor, .inl (cA, n_t_divisor, .inl a_t_divisor))] := hD
      refine lv_iinc (v := v5 + 1) (lv' := [(5, .int (v5 + 1)), (6, .int (((a_t_plus v5.toNatClampNeg) * v4) &&& 2147483647)), (0, .ref q_t), (1, .int v1), (3, .int v3), (4, .int v4)]) hx hb dX1_divideByOdd_65 hl (k := 5) rfl rfl (by decide) rfl (fun ls hl => ?_)
      refine lv_goto (tgt := 24) hx hb dX1_divideByOdd_68 (by decide) ?_
      exact ih (v5 + 1) (upd x16 v5.toNatClampNeg (((a_t_plus v5.toNatClampNeg) * v4) &&& 2147483647)) _ hf _ _ (hP.sub [0, 1, 2, 3] rfl) (hD.sub [0, 1, 2, 3] (by decide) rfl) hS _ (lv_sub hl [2, 3, 4, 5, 0] rfl) he
set_option maxHeartbeats 4000000 in
set_option maxRecDepth 100000 in
theorem c_S_divideByOdd (l : Launch) (dC : Nat → ClassId) (dI : Nat → Nat → Nat) (cA : ClassId) (sz : Nat) (q_t : Nat) (q_t_plus : Nat) (q_t_minus : Nat) (q_t_divisor : Nat) (k : Nat) (t_room : Int32) (t_sign : Int32) (t_length : Int32) (n_t_plus : Nat) (a_t_plus : Nat → Int32) (n_t_minus : Nat) (a_t_minus : Nat → Int32) (n_t_divisor : Nat) (a_t_divisor : Nat → Int32) (size : Int32) (lengthLeft : Int32) (o : Int32 × (Nat → Int32)) (hf : f_S_divideByOdd k n_t_plus a_t_plus n_t_divisor a_t_divisor size lengthLeft = some o) : Met l yX1_divideByOdd wsX1_divideByOdd rm_S_divideByOdd (c_Pre (dC, dI) vwCl [(cA, .int)] [(q_t, .inr (1, [.int t_room, .ref q_t_plus, .ref q_t_minus, .ref q_t_divisor, .int t_sign, .int t_length])), (q_t_plus, .inl (cA, n_t_plus, .inl a_t_plus)), (q_t_minus, .inl (cA, n_t_minus, .inl a_t_minus)), (q_t_divisor, .inl (cA, n_t_divisor, .inl a_t_divisor))] sz [.ref q_t, .int size, .int lengthLeft]) (c_Qv (dC, dI) vwCl [(cA, .int)] [(q_t, .inr (1, [.int t_room, .ref q_t_plus, .ref q_t_minus, .ref q_t_divisor, .int t_sign, .int o.1])), (q_t_plus, .inl (cA, n_t_plus, .inl o.2)), (q_t_minus, .inl (cA, n_t_minus, .inl a_t_minus)), (q_t_divisor, .inl (cA, n_t_divisor, .inl a_t_divisor))] (va_A [(q_t, .inr (1, [.int t_room, .ref q_t_plus, .ref q_t_minus, .ref q_t_divisor, .int t_sign, .int t_length])), (q_t_plus, .inl (cA, n_t_plus, .inl a_t_plus)), (q_t_minus, .inl (cA, n_t_minus, .inl a_t_minus)), (q_t_divisor, .inl (cA, n_t_divisor, .inl a_t_divisor))] sz)) 0 0 (va_A [(q_t, .inr (1, [.int t_room, .ref q_t_plus, .ref q_t_minus, .ref q_t_divisor, .int t_sign, .int t_length])), (q_t_plus, .inl (cA, n_t_plus, .inl a_t_plus)), (q_t_minus, .inl (cA, n_t_minus, .inl a_t_minus)), (q_t_divisor, .inl (cA, n_t_divisor, .inl a_t_divisor))] sz) := by
  unfold f_S_divideByOdd at hf
  refine k_ent (Qc := fun A => c_Qv (dC, dI) vwCl [(cA, .int)] [(q_t, .inr (1, [.int t_room, .ref q_t_plus, .ref q_t_minus, .ref q_t_divisor, .int t_sign, .int o.1])), (q_t_plus, .inl (cA, n_t_plus, .inl o.2)), (q_t_minus, .inl (cA, n_t_minus, .inl a_t_minus)), (q_t_divisor, .inl (cA, n_t_divisor, .inl a_t_divisor))] A) (by decide) rfl (Nat.le_of_ble_eq_true rfl) ?_
  intro p e s m below meth c A hx hb hr hown hts hml hlocks hin hsz hA hK H locs hP hD hS ls hl
  have hown : s.vm.findClass RX1 = some m.cls := hown
  have hl : lv_has ls 7 [(0, .ref q_t), (1, .int size), (2, .int lengthLeft)] := hl
  refine lv_iconst (v := 0) hx hb dX1_divideByOdd_0 (by decide) ?_
  refine lv_iload_n hx hb dX1_divideByOdd_1 rfl (lv_at hl 2 rfl) ?_
  refine lv_iload_n hx hb dX1_divideByOdd_2 rfl (lv_at hl 1 rfl) ?_
  refine lv_isub hx hb dX1_divideByOdd_3 ?_
  refine lv_iconst (v := 1) hx hb dX1_divideByOdd_4 (by decide) ?_
  refine lv_iadd hx hb dX1_divideByOdd_5 ?_
  refine va_mmax hx hb (hml.trans hl.1.symm) hown (hts (.methodLink RX1 78 Lib.Math.max.name) kw_S_divideByOdd_0) (hts (.static Lib.Math.max.name) kw_S_divideByOdd_1) (hts (.initialized "java/lang/Math") kw_S_divideByOdd_2) (hts (.code Lib.Math.max.name Lib.Math.max.code 2 (some .int)) kw_S_divideByOdd_3) (Nat.le_of_ble_eq_true rfl) (Nat.le_of_ble_eq_true rfl) (Nat.zero_le _) (Nat.zero_le _) dX1_divideByOdd_6 ?_
  refine lv_istore_n (lv' := [(3, .int (if (0 : Int32) < (lengthLeft - size) + 1 then (lengthLeft - size) + 1 else (0 : Int32))), (0, .ref q_t), (1, .int size), (2, .int lengthLeft)]) hx hb dX1_divideByOdd_9 rfl hl (by decide) rfl (fun ls hl => ?_)
  refine lv_aload_n hx hb dX1_divideByOdd_10 rfl (lv_at hl 1 rfl) ?_
  refine va_get (D := (dC, dI)) (ci := 1) (v := .ref q_t_divisor) (C := RX1) (T := TX1) (N := 6) hx hb hts ki_S_divideByOdd_X1 hown hK hP 0 rfl rfl 3 (by decide) (hts (.fieldLink RX1 22 "MinorSteps$Sum" "divisor" "[I") kw_S_divideByOdd_4) (fun _ h9 => h9) rfl dX1_divideByOdd_11 ?_
  refine lv_iconst (v := 0) hx hb dX1_divideByOdd_14 (by decide) ?_
  obtain ⟨g1, hf⟩ := og_c hf
  refine va_iald hx hb hK hP 3 0 rfl rfl (og_in g1) dX1_divideByOdd_15 ?_
  obtain ⟨x2, g3, hf⟩ := og_b hf
  refine kc_i (wr := [(q_t, .inr (1, [.int t_room, .ref q_t_plus, .ref q_t_minus, .ref q_t_divisor, .int t_sign, .int t_length])), (q_t_plus, .inl (cA, n_t_plus, .inl a_t_plus)), (q_t_minus, .inl (cA, n_t_minus, .inl a_t_minus)), (q_t_divisor, .inl (cA, n_t_divisor, .inl a_t_divisor))]) (w1 := []) [] [0, 1, 2, 3] (va_runS (As := [.int (a_t_divisor (0 : Int32).toNatClampNeg)]) (rest := []) ⟨hx, hb, hml, hown, hts⟩ (c_S_inverseOf l dC dI cA H.size  k (a_t_divisor (0 : Int32).toNatClampNeg) x2 g3) (va_cwS 1 hts gX1_divideByOdd_X1_inverseOf rfl rfl rfl (by decide +kernel) ⟨Nat.le_of_ble_eq_true rfl, Nat.le_of_ble_eq_true rfl⟩) (kc_preS hP hD hK [] rfl rfl (by decide)) rfl rfl hl.1 rfl (lv_room (Nat.le_of_ble_eq_true rfl)) dX1_divideByOdd_16 ⟨Nat.le_of_ble_eq_true rfl, Nat.le_of_ble_eq_true rfl⟩) hP hD hS hA rfl rfl (by decide) (by decide) (fun H locs hP hD hS => ?_)
  have hP : va_P (dC, dI) vwCl [(q_t, .inr (1, [.int t_room, .ref q_t_plus, .ref q_t_minus, .ref q_t_divisor, .int t_sign, .int t_length])), (q_t_plus, .inl (cA, n_t_plus, .inl a_t_plus)), (q_t_minus, .inl (cA, n_t_minus, .inl a_t_minus)), (q_t_divisor, .inl (cA, n_t_divisor, .inl a_t_divisor))] H := hP
  have hD : va_D A [(q_t, .inr (1, [.int t_room, .ref q_t_plus, .ref q_t_minus, .ref q_t_divisor, .int t_sign, .int t_length])), (q_t_plus, .inl (cA, n_t_plus, .inl a_t_plus)), (q_t_minus, .inl (cA, n_t_minus, .inl a_t_minus)), (q_t_divisor, .inl (cA, n_t_divisor, .inl a_t_divisor))] := hD
  refine lv_istore (lv' := [(4, .int x2), (3, .int (if (0 : Int32) < (lengthLeft - size) + 1 then (lengthLeft - size) + 1 else (0 : Int32))), (0, .ref q_t), (1, .int size), (2, .int lengthLeft)]) hx hb dX1_divideByOdd_19 hl (by decide) rfl (fun ls hl => ?_)
  refine lv_iconst (v := 0) hx hb dX1_divideByOdd_21 (by decide) ?_
  refine lv_istore (lv' := [(5, .int 0), (4, .int x2), (3, .int (if (0 : Int32) < (lengthLeft - size) + 1 then (lengthLeft - size) + 1 else (0 : Int32))), (0, .ref q_t), (1, .int size), (2, .int lengthLeft)]) hx hb dX1_divideByOdd_22 hl (by decide) rfl (fun ls hl => ?_)
  obtain ⟨x19, g20, hf⟩ := og_b hf
  refine w_S_divideByOdd_L24 hx hb hown hts hml hA hK k q_t q_t_plus q_t_minus q_t_divisor size (if (0 : Int32) < (lengthLeft - size) + 1 then (lengthLeft - size) + 1 else (0 : Int32)) x2 t_room t_sign t_length n_t_plus n_t_minus a_t_minus n_t_divisor a_t_divisor k (0 : Int32) a_t_plus _ g20 _ _ (hP.sub [0, 1, 2, 3] rfl) (hD.sub [0, 1, 2, 3] (by decide) rfl) hS _ (lv_sub hl [3, 4, 2, 1, 0] rfl) ?_
  intro H locs hP hD hS ls hl
  refine lv_aload_n hx hb dX1_divideByOdd_71 rfl (lv_at hl 0 rfl) ?_
  refine lv_aload_n hx hb dX1_divideByOdd_72 rfl (lv_at hl 0 rfl) ?_
  refine va_get (D := (dC, dI)) (ci := 1) (v := .ref q_t_plus) (C := RX1) (T := TX1) (N := 6) hx hb hts ki_S_divideByOdd_X1 hown hK hP 0 rfl rfl 1 (by decide) (hts (.fieldLink RX1 15 "MinorSteps$Sum" "plus" "[I") kw_S_divideByOdd_5) (fun _ h9 => h9) rfl dX1_divideByOdd_73 ?_
  refine lv_iload_n hx hb dX1_divideByOdd_76 rfl (lv_at hl 1 rfl) ?_
  obtain ⟨x21, g22, hf⟩ := og_b hf
  refine kc_i (wr := [(q_t, .inr (1, [.int t_room, .ref q_t_plus, .ref q_t_minus, .ref q_t_divisor, .int t_sign, .int t_length])), (q_t_minus, .inl (cA, n_t_minus, .inl a_t_minus)), (q_t_divisor, .inl (cA, n_t_divisor, .inl a_t_divisor))]) (w1 := [(q_t_plus, .inl (cA, n_t_plus, .inl x19.2))]) [1] [0, 2, 3] (va_runS (As := [.ref q_t_plus, .int (if (0 : Int32) < (lengthLeft - size) + 1 then (lengthLeft - size) + 1 else (0 : Int32))]) (rest := [.ref q_t]) ⟨hx, hb, hml, hown, hts⟩ (c_S_trimmed l dC dI cA H.size q_t_plus k n_t_plus x19.2 (if (0 : Int32) < (lengthLeft - size) + 1 then (lengthLeft - size) + 1 else (0 : Int32)) x21 g22) (va_cwS 2 hts gX1_divideByOdd_X1_trimmed rfl rfl rfl (by decide +kernel) ⟨Nat.le_of_ble_eq_true rfl, Nat.le_of_ble_eq_true rfl⟩) (kc_preS hP hD hK [1] rfl rfl (by decide)) rfl rfl hl.1 rfl (lv_room (Nat.le_of_ble_eq_true rfl)) dX1_divideByOdd_77 ⟨Nat.le_of_ble_eq_true rfl, Nat.le_of_ble_eq_true rfl⟩) hP hD hS hA rfl rfl (by decide) (by decide) (fun H locs hP hD hS => ?_)
  have hP : va_P (dC, dI) vwCl [(q_t, .inr (1, [.int t_room, .ref q_t_plus, .ref q_t_minus, .ref q_t_divisor, .int t_sign, .int t_length])), (q_t_minus, .inl (cA, n_t_minus, .inl a_t_minus)), (q_t_divisor, .inl (cA, n_t_divisor, .inl a_t_divisor)), (q_t_plus, .inl (cA, n_t_plus, .inl x19.2))] H := hP
  have hD : va_D A [(q_t, .inr (1, [.int t_room, .ref q_t_plus, .ref q_t_minus, .ref q_t_divisor, .int t_sign, .int t_length])), (q_t_minus, .inl (cA, n_t_minus, .inl a_t_minus)), (q_t_divisor, .inl (cA, n_t_divisor, .inl a_t_divisor)), (q_t_plus, .inl (cA, n_t_plus, .inl x19.2))] := hD
  refine va_put (D := (dC, dI)) (ci := 1) (v := .int x21) (ty := .int) (C := RX1) (T := TX1) (N := 6) hx hb hts ki_S_divideByOdd_X1 tyX1 tyX1_ok nmX1 hown hK hP hD hS 0 rfl rfl 5 (by decide) (hts (.fieldLink RX1 34 "MinorSteps$Sum" "length" "I") kw_S_divideByOdd_7) (fun _ h9 => h9) rfl (by decide +kernel) rfl rfl (Nat.le_of_ble_eq_true rfl) dX1_divideByOdd_80 (fun H locs hP hD hS => ?_)
  have hP : va_P (dC, dI) vwCl [(q_t, .inr (1, [.int t_room, .ref q_t_plus, .ref q_t_minus, .ref q_t_divisor, .int t_sign, .int x21])), (q_t_minus, .inl (cA, n_t_minus, .inl a_t_minus)), (q_t_divisor, .inl (cA, n_t_divisor, .inl a_t_divisor)), (q_t_plus, .inl (cA, n_t_plus, .inl x19.2))] H := hP
  have hD : va_D A [(q_t, .inr (1, [.int t_room, .ref q_t_plus, .ref q_t_minus, .ref q_t_divisor, .int t_sign, .int x21])), (q_t_minus, .inl (cA, n_t_minus, .inl a_t_minus)), (q_t_divisor, .inl (cA, n_t_divisor, .inl a_t_divisor)), (q_t_plus, .inl (cA, n_t_plus, .inl x19.2))] := hD
  have e9 := Option.some.inj hf
  subst e9
  exact kr_v hx hb hr hlocks hK hS (hP.sub [0, 3, 1, 2] rfl) (hD.sub [0, 3, 1, 2] (by decide) rfl) dX1_divideByOdd_83
def rm_S_divideBy : Room := { frames := 2, cells := 0, slots := 0, locals := 54 }
theorem kw_S_divideBy_0 : (.fieldLink RX1 34 "MinorSteps$Sum" "length" "I" : Cond) ∈ wsX1_divideBy := by decide +kernel
theorem kw_S_divideBy_1 : (.fieldLink RX1 22 "MinorSteps$Sum" "divisor" "[I" : Cond) ∈ wsX1_divideBy := by decide +kernel
theorem kw_S_divideBy_2 : (.fieldLink RX1 15 "MinorSteps$Sum" "plus" "[I" : Cond) ∈ wsX1_divideBy := by decide +kernel
theorem kw_S_divideBy_3 : (.fieldLink RX1 31 "MinorSteps$Sum" "sign" "I" : Cond) ∈ wsX1_divideBy := by decide +kernel
theorem ki_S_divideBy_X1 : ∀ w ∈ u_ws RX1 TX1 6, w ∈ wsX1_divideBy := by decide +kernel
set_option maxHeartbeats 4000000 in
set_option maxRecDepth 100000 in
theorem w_S_divideBy_L22 {p : Program} {l : Launch} {e : Env} {s : State} {m : MethodId} {args : Array Value} {below : List Frame} {meth : Method} {c : Code} {Q : State → Prop} {A : Nat → Prop} {H0 : Heap} {dC : Nat → ClassId} {dI : Nat → Nat → Nat} {cA : ClassId} (hx : p.tables.exec = Jvm.exec) (hb : c.code = cX1_divideBy) (hown : s.vm.findClass RX1 = some m.cls) (hts : ∀ w ∈ wsX1_divideBy, w.before args s = true) (hml : c.maxLocals = 6) (hA : ∀ q, H0.size ≤ q → A q) (hK : va_K (dC, dI) vwCl [(cA, .int)] s) (k : Nat) (q_t : Nat) (q_t_plus : Nat) (q_t_minus : Nat) (q_t_divisor : Nat) (q_u : Nat) (q_u_signs : Nat) (q_u_lengths : Nat) (q_u_limbs : Nat) (v2 : Int32) (v3 : Int32) (i0_t : Int32) (i4_t : Int32) (i5_t : Int32) (n_t_plus : Nat) (a_t_plus : Nat → Int32) (n_t_minus : Nat) (a_t_minus : Nat → Int32) (n_t_divisor : Nat) (i0_u : Int32) (n_u_signs : Nat) (a_u_signs : Nat → Int32) (n_u_lengths : Nat) (a_u_lengths : Nat → Int32) (n_u_limbs : Nat) (a_u_limbs : Nat → Int32) : ∀ (j : Nat) (v4 : Int32) (a_t_divisor : Nat → Int32) (o : Int32 × (Nat → Int32)), f_S_divideBy_L22 k v2 v3 n_t_divisor i0_u n_u_limbs a_u_limbs j v4 a_t_divisor = some o → ∀ (H : Heap) (locs : List Loc), va_P (dC, dI) vwCl [(q_t, .inr (1, [.int i0_t, .ref q_t_plus, .ref q_t_minus, .ref q_t_divisor, .int i4_t, .int i5_t])), (q_t_plus, .inl (cA, n_t_plus, .inl a_t_plus)), (q_t_minus, .inl (cA, n_t_minus, .inl a_t_minus)), (q_t_divisor, .inl (cA, n_t_divisor, .inl a_t_divisor)), (q_u, .inr (0, [.int i0_u, .ref q_u_signs, .ref q_u_lengths, .ref q_u_limbs])), (q_u_signs, .inl (cA, n_u_signs, .inl a_u_signs)), (q_u_lengths, .inl (cA, n_u_lengths, .inl a_u_lengths)), (q_u_limbs, .inl (cA, n_u_limbs, .inl a_u_limbs))] H → va_D A [(q_t, .inr (1, [.int i0_t, .ref q_t_plus, .ref q_t_minus, .ref q_t_divisor, .int i4_t, .int i5_t])), (q_t_plus, .inl (cA, n_t_plus, .inl a_t_plus)), (q_t_minus, .inl (cA, n_t_minus, .inl a_t_minus)), (q_t_divisor, .inl (cA, n_t_divisor, .inl a_t_divisor)), (q_u, .inr (0, [.int i0_u, .ref q_u_signs, .ref q_u_lengths, .ref q_u_limbs])), (q_u_signs, .inl (cA, n_u_signs, .inl a_u_signs)), (q_u_lengths, .inl (cA, n_u_lengths, .inl a_u_lengths)), (q_u_limbs, .inl (cA, n_u_limbs, .inl a_u_limbs))] → va_S A H0 H locs → ∀ ls : Array Slot, lv_has ls 6 [(0, .ref q_t), (1, .ref q_u), (2, .int v2), (3, .int v3), (4, .int v4)] → ∀ (he : ∀ (H : Heap) (locs : List Loc), va_P (dC, dI) vwCl [(q_t, .inr (1, [.int i0_t, .ref q_t_plus, .ref q_t_minus, .ref q_t_divisor, .int i4_t, .int i5_t])), (q_t_plus, .inl (cA, n_t_plus, .inl a_t_plus)), (q_t_minus, .inl (cA, n_t_minus, .inl a_t_minus)), (q_t_divisor, .inl (cA, n_t_divisor, .inl o.2)), (q_u, .inr (0, [.int i0_u, .ref q_u_signs, .ref q_u_lengths, .ref q_u_limbs])), (q_u_signs, .inl (cA, n_u_signs, .inl a_u_signs)), (q_u_lengths, .inl (cA, n_u_lengths, .inl a_u_lengths)), (q_u_limbs, .inl (cA, n_u_limbs, .inl a_u_limbs))] H → va_D A [(q_t, .inr (1, [.int i0_t, .ref q_t_plus, .ref q_t_minus, .ref q_t_divisor, .int i4_t, .int i5_t])), (q_t_plus, .inl (cA, n_t_plus, .inl a_t_plus)), (q_t_minus, .inl (cA, n_t_minus, .inl a_t_minus)), (q_t_divisor, .inl (cA, n_t_divisor, .inl o.2)), (q_u, .inr (0, [.int i0_u, .ref q_u_signs, .ref q_u_lengths, .ref q_u_limbs])), (q_u_signs, .inl (cA, n_u_signs, .inl a_u_signs)), (q_u_lengths, .inl (cA, n_u_lengths, .inl a_u_lengths)), (q_u_limbs, .inl (cA, n_u_limbs, .inl a_u_limbs))] → va_S A H0 H locs → ∀ ls : Array Slot, lv_has ls 6 [(0, .ref q_t), (1, .ref q_u), (2, .int v2), (3, .int v3)] → W p l e rm_S_divideBy s m args below meth c H locs 0 0 Q (F0 m 48 ls [])), W p l e rm_S_divideBy s m args below meth c H locs 0 0 Q (F0 m 22 ls []) := by
  intro j
  induction j with
  | zero =>
    intro v4 a_t_divisor o hf
    rw [f_S_divideBy_L22] at hf
    cases hf
  | succ j ih =>
    intro v4 a_t_divisor o hf H locs hP hD hS ls hl he
    rw [f_S_divideBy_L22] at hf
    refine lv_iload hx hb dX1_divideBy_22 (lv_at hl 4 rfl) ?_
    refine lv_iload_n hx hb dX1_divideBy_24 rfl (lv_at hl 3 rfl) ?_
    refine lv_icmp_ge (tgt := 48) hx hb dX1_divideBy_25 (by decide) (fun c13 => ?_) (fun c13 => ?_)
    · have hf := og_t c13 hf
      have e9 := Option.some.inj hf
      subst e9
      exact he _ _ (hP.sub [0, 1, 2, 3, 4, 5, 6, 7] rfl) (hD.sub [0, 1, 2, 3, 4, 5, 6, 7] (by decide) rfl) hS _ (lv_sub hl [0, 1, 2, 3] rfl)
    · have hf := og_f c13 hf
      refine lv_aload_n hx hb dX1_divideBy_28 rfl (lv_at hl 0 rfl) ?_
      refine va_get (D := (dC, dI)) (ci := 1) (v := .ref q_t_divisor) (C := RX1) (T := TX1) (N := 6) hx hb hts ki_S_divideBy_X1 hown hK hP 0 rfl rfl 3 (by decide) (hts (.fieldLink RX1 22 "MinorSteps$Sum" "divisor" "[I") kw_S_divideBy_1) (fun _ h9 => h9) rfl dX1_divideBy_29 ?_
      refine lv_iload hx hb dX1_divideBy_32 (lv_at hl 4 rfl) ?_
      refine lv_aload_n hx hb dX1_divideBy_34 rfl (lv_at hl 1 rfl) ?_
      refine lv_iload_n hx hb dX1_divideBy_35 rfl (lv_at hl 2 rfl) ?_
      refine lv_iload hx hb dX1_divideBy_36 (lv_at hl 4 rfl) ?_
      obtain ⟨x14, g15, hf⟩ := og_b hf
      refine kc_i (wr := [(q_t, .inr (1, [.int i0_t, .ref q_t_plus, .ref q_t_minus, .ref q_t_divisor, .int i4_t, .int i5_t])), (q_t_plus, .inl (cA, n_t_plus, .inl a_t_plus)), (q_t_minus, .inl (cA, n_t_minus, .inl a_t_minus)), (q_t_divisor, .inl (cA, n_t_divisor, .inl a_t_divisor))]) (w1 := [(q_u, .inr (0, [.int i0_u, .ref q_u_signs, .ref q_u_lengths, .ref q_u_limbs])), (q_u_signs, .inl (cA, n_u_signs, .inl a_u_signs)), (q_u_lengths, .inl (cA, n_u_lengths, .inl a_u_lengths)), (q_u_limbs, .inl (cA, n_u_limbs, .inl a_u_limbs))]) [4, 5, 6, 7] [0, 1, 2, 3] (va_runV (As := [.int v2, .int v4]) (rest := [.int v4, .ref q_t_divisor]) ⟨hx, hb, hml, hown, hts⟩ (c_N_limbOf l dC dI cA H.size q_u q_u_signs q_u_lengths q_u_limbs i0_u n_u_signs a_u_signs n_u_lengths a_u_lengths n_u_limbs a_u_limbs v2 v4 x14 g15) (cwV 2 hts gX1_divideBy_X0_limbOf rfl rfl rfl (by decide +kernel) ⟨Nat.le_of_ble_eq_true rfl, Nat.le_of_ble_eq_true rfl⟩) (kc_preV hP hD hK [4, 5, 6, 7] rfl rfl (by decide) (ci := 0) (q0 := 4) rfl rfl) rfl rfl hl.1 rfl (lv_room (Nat.le_of_ble_eq_true rfl)) dX1_divideBy_38 ⟨Nat.le_of_ble_eq_true rfl, Nat.le_of_ble_eq_true rfl⟩) hP hD hS hA rfl rfl (by decide) (by decide) (fun H locs hP hD hS => ?_)
      have hP : va_P (dC, dI) vwCl [(q_t, .inr (1, [.int i0_t, .ref q_t_plus, .ref q_t_minus, .ref q_t_divisor, .int i4_t, .int i5_t])), (q_t_plus, .inl (cA, n_t_plus, .inl a_t_plus)), (q_t_minus, .inl (cA, n_t_minus, .inl a_t_minus)), (q_t_divisor, .inl (cA, n_t_divisor, .inl a_t_divisor)), (q_u, .inr (0, [.int i0_u, .ref q_u_signs, .ref q_u_lengths, .ref q_u_limbs])), (q_u_signs, .inl (cA, n_u_signs, .inl a_u_signs)), (q_u_lengths, .inl (cA, n_u_lengths, .inl a_u_lengths)), (q_u_limbs, .inl (cA, n_u_limbs, .inl a_u_limbs))] H := hP
      have hD : va_D A [(q_t, .inr (1, [.int i0_t, .ref q_t_plus, .ref q_t_minus, .ref q_t_divisor, .int i4_t, .int i5_t])), (q_t_plus, .inl (cA, n_t_plus, .inl a_t_plus)), (q_t_minus, .inl (cA, n_t_minus, .inl a_t_minus)), (q_t_divisor, .inl (cA, n_t_divisor, .inl a_t_divisor)), (q_u, .inr (0, [.int i0_u, .ref q_u_signs, .ref q_u_lengths, .ref q_u_limbs])), (q_u_signs, .inl (cA, n_u_signs, .inl a_u_signs)), (q_u_lengths, .inl (cA, n_u_lengths, .inl a_u_lengths)), (q_u_limbs, .inl (cA, n_u_limbs, .inl a_u_limbs))] := hD
      obtain ⟨g16, hf⟩ := og_c hf
      refine va_iast hx hb hK hP hD hS 3 0 rfl rfl (og_in g16) dX1_divideBy_41 (fun H locs hP hD hS => ?_)
      have hP : va_P (dC, dI) vwCl [(q_t, .inr (1, [.int i0_t, .ref q_t_plus, .ref q_t_minus, .ref q_t_divisor, .int i4_t, .int i5_t])), (q_t_plus, .inl (cA, n_t_plus, .inl a_t_plus)), (q_t_minus, .inl (cA, n_t_minus, .inl a_t_minus)), (q_t_divisor, .inl (cA, n_t_divisor, .inl (upd a_t_divisor v4.toNatClampNeg x14))), (q_u, .inr (0, [.int i0_u, .ref q_u_signs, .ref q_u_lengths, .ref q_u_limbs])), (q_u_signs, .inl (cA, n_u_signs, .inl a_u_signs)), (q_u_lengths, .inl (cA, n_u_lengths, .inl a_u_lengths)), (q_u_limbs, .inl (cA, n_u_limbs, .inl a_u_limbs))] H := hP
      have hD : va_D A [(q_t, .inr (1, [.int i0_t, .ref q_t_plus, .ref q_t_minus, .ref q_t_divisor, .int i4_t, .int i5_t])), (q_t_plus, .inl (cA, n_t_plus, .inl a_t_plus)), (q_t_minus, .inl (cA, n_t_minus, .inl a_t_minus)), (q_t_divisor, .inl (cA, n_t_divisor, .inl (upd a_t_divisor v4.toNatClampNeg x14))), (q_u, .inr (0, [.int i0_u, .ref q_u_signs, .ref q_u_lengths, .ref q_u_limbs])), (q_u_signs, .inl (cA, n_u_signs, .inl a_u_signs)), (q_u_lengths, .inl (cA, n_u_lengths, .inl a_u_lengths)), (q_u_limbs, .inl (cA, n_u_limbs, .inl a_u_limbs))] := hD
      refine lv_iinc (v := v4 + 1) (lv' := [(4, .int (v4 + 1)), (0, .ref q_t), (1, .ref q_u), (2, .int v2), (3, .int v3)]) hx hb dX1_divideBy_42 hl (k := 4) rfl rfl (by decide) rfl (fun ls hl => ?_)
      refine lv_goto (tgt := 22) hx hb dX1_divideBy_45 (by decide) ?_
      exact ih (v4 + 1) (upd a_t_divisor v4.toNatClampNeg x14) _ hf _ _ (hP.sub [0, 1, 2, 3, 4, 5, 6, 7] rfl) (hD.sub [0, 1, 2, 3, 4, 5, 6, 7] (by decide) rfl) hS _ (lv_sub hl [1, 2, 3, 4, 0] rfl) he
set_option maxHeartbeats 4000000 in
set_option maxRecDepth 100000 in
theorem c_S_divideBy (l : Launch) (dC : Nat → ClassId) (dI : Nat → Nat → Nat) (cA : ClassId) (sz : Nat) (q_t : Nat) (q_t_plus : Nat) (q_t_minus : Nat) (q_t_divisor : Nat) (q_u : Nat) (q_u_signs : Nat) (q_u_lengths : Nat) (q_u_limbs : Nat) (k : Nat) (t_room : Int32) (t_sign : Int32) (t_length : Int32) (n_t_plus : Nat) (a_t_plus : Nat → Int32) (n_t_minus : Nat) (a_t_minus : Nat → Int32) (n_t_divisor : Nat) (a_t_divisor : Nat → Int32) (u_room : Int32) (n_u_signs : Nat) (a_u_signs : Nat → Int32) (n_u_lengths : Nat) (a_u_lengths : Nat → Int32) (n_u_limbs : Nat) (a_u_limbs : Nat → Int32) (slot : Int32) (o : Int32 × Int32 × (Nat → Int32) × (Nat → Int32)) (hf : f_S_divideBy k t_sign t_length n_t_plus a_t_plus n_t_divisor a_t_divisor u_room n_u_signs a_u_signs n_u_lengths a_u_lengths n_u_limbs a_u_limbs slot = some o) : Met l yX1_divideBy wsX1_divideBy rm_S_divideBy (c_Pre (dC, dI) vwCl [(cA, .int)] [(q_t, .inr (1, [.int t_room, .ref q_t_plus, .ref q_t_minus, .ref q_t_divisor, .int t_sign, .int t_length])), (q_t_plus, .inl (cA, n_t_plus, .inl a_t_plus)), (q_t_minus, .inl (cA, n_t_minus, .inl a_t_minus)), (q_t_divisor, .inl (cA, n_t_divisor, .inl a_t_divisor)), (q_u, .inr (0, [.int u_room, .ref q_u_signs, .ref q_u_lengths, .ref q_u_limbs])), (q_u_signs, .inl (cA, n_u_signs, .inl a_u_signs)), (q_u_lengths, .inl (cA, n_u_lengths, .inl a_u_lengths)), (q_u_limbs, .inl (cA, n_u_limbs, .inl a_u_limbs))] sz [.ref q_t, .ref q_u, .int slot]) (c_Qv (dC, dI) vwCl [(cA, .int)] [(q_t, .inr (1, [.int t_room, .ref q_t_plus, .ref q_t_minus, .ref q_t_divisor, .int o.1, .int o.2.1])), (q_t_plus, .inl (cA, n_t_plus, .inl o.2.2.1)), (q_t_minus, .inl (cA, n_t_minus, .inl a_t_minus)), (q_t_divisor, .inl (cA, n_t_divisor, .inl o.2.2.2)), (q_u, .inr (0, [.int u_room, .ref q_u_signs, .ref q_u_lengths, .ref q_u_limbs])), (q_u_signs, .inl (cA, n_u_signs, .inl a_u_signs)), (q_u_lengths, .inl (cA, n_u_lengths, .inl a_u_lengths)), (q_u_limbs, .inl (cA, n_u_limbs, .inl a_u_limbs))] (va_A [(q_t, .inr (1, [.int t_room, .ref q_t_plus, .ref q_t_minus, .ref q_t_divisor, .int t_sign, .int t_length])), (q_t_plus, .inl (cA, n_t_plus, .inl a_t_plus)), (q_t_minus, .inl (cA, n_t_minus, .inl a_t_minus)), (q_t_divisor, .inl (cA, n_t_divisor, .inl a_t_divisor)), (q_u, .inr (0, [.int u_room, .ref q_u_signs, .ref q_u_lengths, .ref q_u_limbs])), (q_u_signs, .inl (cA, n_u_signs, .inl a_u_signs)), (q_u_lengths, .inl (cA, n_u_lengths, .inl a_u_lengths)), (q_u_limbs, .inl (cA, n_u_limbs, .inl a_u_limbs))] sz)) 0 0 (va_A [(q_t, .inr (1, [.int t_room, .ref q_t_plus, .ref q_t_minus, .ref q_t_divisor, .int t_sign, .int t_length])), (q_t_plus, .inl (cA, n_t_plus, .inl a_t_plus)), (q_t_minus, .inl (cA, n_t_minus, .inl a_t_minus)), (q_t_divisor, .inl (cA, n_t_divisor, .inl a_t_divisor)), (q_u, .inr (0, [.int u_room, .ref q_u_signs, .ref q_u_lengths, .ref q_u_limbs])), (q_u_signs, .inl (cA, n_u_signs, .inl a_u_signs)), (q_u_lengths, .inl (cA, n_u_lengths, .inl a_u_lengths)), (q_u_limbs, .inl (cA, n_u_limbs, .inl a_u_limbs))] sz) := by
  unfold f_S_divideBy at hf
  refine k_ent (Qc := fun A => c_Qv (dC, dI) vwCl [(cA, .int)] [(q_t, .inr (1, [.int t_room, .ref q_t_plus, .ref q_t_minus, .ref q_t_divisor, .int o.1, .int o.2.1])), (q_t_plus, .inl (cA, n_t_plus, .inl o.2.2.1)), (q_t_minus, .inl (cA, n_t_minus, .inl a_t_minus)), (q_t_divisor, .inl (cA, n_t_divisor, .inl o.2.2.2)), (q_u, .inr (0, [.int u_room, .ref q_u_signs, .ref q_u_lengths, .ref q_u_limbs])), (q_u_signs, .inl (cA, n_u_signs, .inl a_u_signs)), (q_u_lengths, .inl (cA, n_u_lengths, .inl a_u_lengths)), (q_u_limbs, .inl (cA, n_u_limbs, .inl a_u_limbs))] A) (by decide) rfl (Nat.le_of_ble_eq_true rfl) ?_
  intro p e s m below meth c A hx hb hr hown hts hml hlocks hin hsz hA hK H locs hP hD hS ls hl
  have hown : s.vm.findClass RX1 = some m.cls := hown
  have hl : lv_has ls 6 [(0, .ref q_t), (1, .ref q_u), (2, .int slot)] := hl
  refine lv_aload_n hx hb dX1_divideBy_0 rfl (lv_at hl 1 rfl) ?_
  refine lv_iload_n hx hb dX1_divideBy_1 rfl (lv_at hl 2 rfl) ?_
  obtain ⟨x1, g2, hf⟩ := og_b hf
  refine kc_i (wr := [(q_t, .inr (1, [.int t_room, .ref q_t_plus, .ref q_t_minus, .ref q_t_divisor, .int t_sign, .int t_length])), (q_t_plus, .inl (cA, n_t_plus, .inl a_t_plus)), (q_t_minus, .inl (cA, n_t_minus, .inl a_t_minus)), (q_t_divisor, .inl (cA, n_t_divisor, .inl a_t_divisor))]) (w1 := [(q_u, .inr (0, [.int u_room, .ref q_u_signs, .ref q_u_lengths, .ref q_u_limbs])), (q_u_signs, .inl (cA, n_u_signs, .inl a_u_signs)), (q_u_lengths, .inl (cA, n_u_lengths, .inl a_u_lengths)), (q_u_limbs, .inl (cA, n_u_limbs, .inl a_u_limbs))]) [4, 5, 6, 7] [0, 1, 2, 3] (va_runV (As := [.int slot]) (rest := []) ⟨hx, hb, hml, hown, hts⟩ (c_N_lengthOf l dC dI cA H.size q_u q_u_signs q_u_lengths q_u_limbs u_room n_u_signs a_u_signs n_u_lengths a_u_lengths n_u_limbs a_u_limbs slot x1 g2) (cwV 1 hts gX1_divideBy_X0_lengthOf rfl rfl rfl (by decide +kernel) ⟨Nat.le_of_ble_eq_true rfl, Nat.le_of_ble_eq_true rfl⟩) (kc_preV hP hD hK [4, 5, 6, 7] rfl rfl (by decide) (ci := 0) (q0 := 4) rfl rfl) rfl rfl hl.1 rfl (lv_room (Nat.le_of_ble_eq_true rfl)) dX1_divideBy_2 ⟨Nat.le_of_ble_eq_true rfl, Nat.le_of_ble_eq_true rfl⟩) hP hD hS hA rfl rfl (by decide) (by decide) (fun H locs hP hD hS => ?_)
  have hP : va_P (dC, dI) vwCl [(q_t, .inr (1, [.int t_room, .ref q_t_plus, .ref q_t_minus, .ref q_t_divisor, .int t_sign, .int t_length])), (q_t_plus, .inl (cA, n_t_plus, .inl a_t_plus)), (q_t_minus, .inl (cA, n_t_minus, .inl a_t_minus)), (q_t_divisor, .inl (cA, n_t_divisor, .inl a_t_divisor)), (q_u, .inr (0, [.int u_room, .ref q_u_signs, .ref q_u_lengths, .ref q_u_limbs])), (q_u_signs, .inl (cA, n_u_signs, .inl a_u_signs)), (q_u_lengths, .inl (cA, n_u_lengths, .inl a_u_lengths)), (q_u_limbs, .inl (cA, n_u_limbs, .inl a_u_limbs))] H := hP
  have hD : va_D A [(q_t, .inr (1, [.int t_room, .ref q_t_plus, .ref q_t_minus, .ref q_t_divisor, .int t_sign, .int t_length])), (q_t_plus, .inl (cA, n_t_plus, .inl a_t_plus)), (q_t_minus, .inl (cA, n_t_minus, .inl a_t_minus)), (q_t_divisor, .inl (cA, n_t_divisor, .inl a_t_divisor)), (q_u, .inr (0, [.int u_room, .ref q_u_signs, .ref q_u_lengths, .ref q_u_limbs])), (q_u_signs, .inl (cA, n_u_signs, .inl a_u_signs)), (q_u_lengths, .inl (cA, n_u_lengths, .inl a_u_lengths)), (q_u_limbs, .inl (cA, n_u_limbs, .inl a_u_limbs))] := hD
  refine lv_istore_n (lv' := [(3, .int x1), (0, .ref q_t), (1, .ref q_u), (2, .int slot)]) hx hb dX1_divideBy_5 rfl hl (by decide) rfl (fun ls hl => ?_)
  refine lv_iload_n hx hb dX1_divideBy_6 rfl (lv_at hl 0 rfl) ?_
  refine lv_if_eq (tgt := 18) hx hb dX1_divideBy_7 (by decide) (fun c3 => ?_) (fun c3 => ?_)
  · have hf := og_t c3 hf
    have e9 := Option.some.inj hf
    subst e9
    exact kr_v hx hb hr hlocks hK hS (hP.sub [0, 1, 2, 3, 4, 5, 6, 7] rfl) (hD.sub [0, 1, 2, 3, 4, 5, 6, 7] (by decide) rfl) dX1_divideBy_18
  · have hf := og_f c3 hf
    refine lv_aload_n hx hb dX1_divideBy_10 rfl (lv_at hl 1 rfl) ?_
    refine va_get (D := (dC, dI)) (ci := 1) (v := .int t_length) (C := RX1) (T := TX1) (N := 6) hx hb hts ki_S_divideBy_X1 hown hK hP 0 rfl rfl 5 (by decide) (hts (.fieldLink RX1 34 "MinorSteps$Sum" "length" "I") kw_S_divideBy_0) (fun _ h9 => h9) rfl dX1_divideBy_11 ?_
    refine lv_iload_n hx hb dX1_divideBy_14 rfl (lv_at hl 0 rfl) ?_
    refine lv_icmp_ge (tgt := 19) hx hb dX1_divideBy_15 (by decide) (fun c4 => ?_) (fun c4 => ?_)
    · have hf := og_t c4 hf
      refine lv_iconst (v := 0) hx hb dX1_divideBy_19 (by decide) ?_
      refine lv_istore (lv' := [(4, .int 0), (3, .int x1), (0, .ref q_t), (1, .ref q_u), (2, .int slot)]) hx hb dX1_divideBy_20 hl (by decide) rfl (fun ls hl => ?_)
      obtain ⟨x17, g18, hf⟩ := og_b hf
      refine w_S_divideBy_L22 hx hb hown hts hml hA hK k q_t q_t_plus q_t_minus q_t_divisor q_u q_u_signs q_u_lengths q_u_limbs slot x1 t_room t_sign t_length n_t_plus a_t_plus n_t_minus a_t_minus n_t_divisor u_room n_u_signs a_u_signs n_u_lengths a_u_lengths n_u_limbs a_u_limbs k (0 : Int32) a_t_divisor _ g18 _ _ (hP.sub [0, 1, 2, 3, 4, 5, 6, 7] rfl) (hD.sub [0, 1, 2, 3, 4, 5, 6, 7] (by decide) rfl) hS _ (lv_sub hl [2, 3, 4, 1, 0] rfl) ?_
      intro H locs hP hD hS ls hl
      refine lv_aload_n hx hb dX1_divideBy_48 rfl (lv_at hl 0 rfl) ?_
      refine lv_iload_n hx hb dX1_divideBy_49 rfl (lv_at hl 3 rfl) ?_
      obtain ⟨x19, g20, hf⟩ := og_b hf
      refine kc_i (wr := [(q_u, .inr (0, [.int u_room, .ref q_u_signs, .ref q_u_lengths, .ref q_u_limbs])), (q_u_signs, .inl (cA, n_u_signs, .inl a_u_signs)), (q_u_lengths, .inl (cA, n_u_lengths, .inl a_u_lengths)), (q_u_limbs, .inl (cA, n_u_limbs, .inl a_u_limbs))]) (w1 := [(q_t, .inr (1, [.int t_room, .ref q_t_plus, .ref q_t_minus, .ref q_t_divisor, .int t_sign, .int t_length])), (q_t_plus, .inl (cA, n_t_plus, .inl a_t_plus)), (q_t_minus, .inl (cA, n_t_minus, .inl a_t_minus)), (q_t_divisor, .inl (cA, n_t_divisor, .inl x17.2))]) [0, 1, 2, 3] [4, 5, 6, 7] (va_runV (As := [.int x1]) (rest := []) ⟨hx, hb, hml, hown, hts⟩ (c_S_countZeroLimbs l dC dI cA H.size q_t q_t_plus q_t_minus q_t_divisor k t_room t_sign t_length n_t_plus a_t_plus n_t_minus a_t_minus n_t_divisor x17.2 x1 x19 g20) (cwV 1 hts gX1_divideBy_X1_countZeroLimbs rfl rfl rfl (by decide +kernel) ⟨Nat.le_of_ble_eq_true rfl, Nat.le_of_ble_eq_true rfl⟩) (kc_preV hP hD hK [0, 1, 2, 3] rfl rfl (by decide) (ci := 1) (q0 := 0) rfl rfl) rfl rfl hl.1 rfl (lv_room (Nat.le_of_ble_eq_true rfl)) dX1_divideBy_50 ⟨Nat.le_of_ble_eq_true rfl, Nat.le_of_ble_eq_true rfl⟩) hP hD hS hA rfl rfl (by decide) (by decide) (fun H locs hP hD hS => ?_)
      have hP : va_P (dC, dI) vwCl [(q_u, .inr (0, [.int u_room, .ref q_u_signs, .ref q_u_lengths, .ref q_u_limbs])), (q_u_signs, .inl (cA, n_u_signs, .inl a_u_signs)), (q_u_lengths, .inl (cA, n_u_lengths, .inl a_u_lengths)), (q_u_limbs, .inl (cA, n_u_limbs, .inl a_u_limbs)), (q_t, .inr (1, [.int t_room, .ref q_t_plus, .ref q_t_minus, .ref q_t_divisor, .int t_sign, .int t_length])), (q_t_plus, .inl (cA, n_t_plus, .inl a_t_plus)), (q_t_minus, .inl (cA, n_t_minus, .inl a_t_minus)), (q_t_divisor, .inl (cA, n_t_divisor, .inl x17.2))] H := hP
      have hD : va_D A [(q_u, .inr (0, [.int u_room, .ref q_u_signs, .ref q_u_lengths, .ref q_u_limbs])), (q_u_signs, .inl (cA, n_u_signs, .inl a_u_signs)), (q_u_lengths, .inl (cA, n_u_lengths, .inl a_u_lengths)), (q_u_limbs, .inl (cA, n_u_limbs, .inl a_u_limbs)), (q_t, .inr (1, [.int t_room, .ref q_t_plus, .ref q_t_minus, .ref q_t_divisor, .int t_sign, .int t_length])), (q_t_plus, .inl (cA, n_t_plus, .inl a_t_plus)), (q_t_minus, .inl (cA, n_t_minus, .inl a_t_minus)), (q_t_divisor, .inl (cA, n_t_divisor, .inl x17.2))] := hD
      refine lv_istore (lv' := [(4, .int x19), (0, .ref q_t), (1, .ref q_u), (2, .int slot), (3, .int x1)]) hx hb dX1_divideBy_53 hl (by decide) rfl (fun ls hl => ?_)
      refine lv_aload_n hx hb dX1_divideBy_55 rfl (lv_at hl 1 rfl) ?_
      refine va_get (D := (dC, dI)) (ci := 1) (v := .ref q_t_divisor) (C := RX1) (T := TX1) (N := 6) hx hb hts ki_S_divideBy_X1 hown hK hP 4 rfl rfl 3 (by decide) (hts (.fieldLink RX1 22 "MinorSteps$Sum" "divisor" "[I") kw_S_divideBy_1) (fun _ h9 => h9) rfl dX1_divideBy_56 ?_
      refine lv_iload hx hb dX1_divideBy_59 (lv_at hl 0 rfl) ?_
      obtain ⟨g21, hf⟩ := og_c hf
      refine va_iald hx hb hK hP 7 0 rfl rfl (og_in g21) dX1_divideBy_61 ?_
      obtain ⟨x22, g23, hf⟩ := og_b hf
      refine kc_i (wr := [(q_u, .inr (0, [.int u_room, .ref q_u_signs, .ref q_u_lengths, .ref q_u_limbs])), (q_u_signs, .inl (cA, n_u_signs, .inl a_u_signs)), (q_u_lengths, .inl (cA, n_u_lengths, .inl a_u_lengths)), (q_u_limbs, .inl (cA, n_u_limbs, .inl a_u_limbs)), (q_t, .inr (1, [.int t_room, .ref q_t_plus, .ref q_t_minus, .ref q_t_divisor, .int t_sign, .int t_length])), (q_t_plus, .inl (cA, n_t_plus, .inl a_t_plus)), (q_t_minus, .inl (cA, n_t_minus, .inl a_t_minus)), (q_t_divisor, .inl (cA, n_t_divisor, .inl x17.2))]) (w1 := []) [] [0, 1, 2, 3, 4, 5, 6, 7] (va_runS (As := [.int (x17.2 x19.toNatClampNeg)]) (rest := []) ⟨hx, hb, hml, hown, hts⟩ (c_S_countZeroBits l dC dI cA H.size  k (x17.2 x19.toNatClampNeg) x22 g23) (va_cwS 1 hts gX1_divideBy_X1_countZeroBits rfl rfl rfl (by decide +kernel) ⟨Nat.le_of_ble_eq_true rfl, Nat.le_of_ble_eq_true rfl⟩) (kc_preS hP hD hK [] rfl rfl (by decide)) rfl rfl hl.1 rfl (lv_room (Nat.le_of_ble_eq_true rfl)) dX1_divideBy_62 ⟨Nat.le_of_ble_eq_true rfl, Nat.le_of_ble_eq_true rfl⟩) hP hD hS hA rfl rfl (by decide) (by decide) (fun H locs hP hD hS => ?_)
      have hP : va_P (dC, dI) vwCl [(q_u, .inr (0, [.int u_room, .ref q_u_signs, .ref q_u_lengths, .ref q_u_limbs])), (q_u_signs, .inl (cA, n_u_signs, .inl a_u_signs)), (q_u_lengths, .inl (cA, n_u_lengths, .inl a_u_lengths)), (q_u_limbs, .inl (cA, n_u_limbs, .inl a_u_limbs)), (q_t, .inr (1, [.int t_room, .ref q_t_plus, .ref q_t_minus, .ref q_t_divisor, .int t_sign, .int t_length])), (q_t_plus, .inl (cA, n_t_plus, .inl a_t_plus)), (q_t_minus, .inl (cA, n_t_minus, .inl a_t_minus)), (q_t_divisor, .inl (cA, n_t_divisor, .inl x17.2))] H := hP
      have hD : va_D A [(q_u, .inr (0, [.int u_room, .ref q_u_signs, .ref q_u_lengths, .ref q_u_limbs])), (q_u_signs, .inl (cA, n_u_signs, .inl a_u_signs)), (q_u_lengths, .inl (cA, n_u_lengths, .inl a_u_lengths)), (q_u_limbs, .inl (cA, n_u_limbs, .inl a_u_limbs)), (q_t, .inr (1, [.int t_room, .ref q_t_plus, .ref q_t_minus, .ref q_t_divisor, .int t_sign, .int t_length])), (q_t_plus, .inl (cA, n_t_plus, .inl a_t_plus)), (q_t_minus, .inl (cA, n_t_minus, .inl a_t_minus)), (q_t_divisor, .inl (cA, n_t_divisor, .inl x17.2))] := hD
      refine lv_istore (lv' := [(5, .int x22), (4, .int x19), (0, .ref q_t), (1, .ref q_u), (2, .int slot), (3, .int x1)]) hx hb dX1_divideBy_65 hl (by decide) rfl (fun ls hl => ?_)
      refine lv_aload_n hx hb dX1_divideBy_67 rfl (lv_at hl 2 rfl) ?_
      refine va_get (D := (dC, dI)) (ci := 1) (v := .ref q_t_divisor) (C := RX1) (T := TX1) (N := 6) hx hb hts ki_S_divideBy_X1 hown hK hP 4 rfl rfl 3 (by decide) (hts (.fieldLink RX1 22 "MinorSteps$Sum" "divisor" "[I") kw_S_divideBy_1) (fun _ h9 => h9) rfl dX1_divideBy_68 ?_
      refine lv_iload_n hx hb dX1_divideBy_71 rfl (lv_at hl 5 rfl) ?_
      refine lv_iload hx hb dX1_divideBy_72 (lv_at hl 1 rfl) ?_
      refine lv_iload hx hb dX1_divideBy_74 (lv_at hl 0 rfl) ?_
      obtain ⟨x24, g25, hf⟩ := og_b hf
      refine kc_v (wr := [(q_u, .inr (0, [.int u_room, .ref q_u_signs, .ref q_u_lengths, .ref q_u_limbs])), (q_u_signs, .inl (cA, n_u_signs, .inl a_u_signs)), (q_u_lengths, .inl (cA, n_u_lengths, .inl a_u_lengths)), (q_u_limbs, .inl (cA, n_u_limbs, .inl a_u_limbs)), (q_t, .inr (1, [.int t_room, .ref q_t_plus, .ref q_t_minus, .ref q_t_divisor, .int t_sign, .int t_length])), (q_t_plus, .inl (cA, n_t_plus, .inl a_t_plus)), (q_t_minus, .inl (cA, n_t_minus, .inl a_t_minus))]) (w1 := [(q_t_divisor, .inl (cA, n_t_divisor, .inl x24))]) [7] [0, 1, 2, 3, 4, 5, 6] (va_runS (As := [.ref q_t_divisor, .int x1, .int x19, .int x22]) (rest := []) ⟨hx, hb, hml, hown, hts⟩ (c_S_shiftDown l dC dI cA H.size q_t_divisor k n_t_divisor x17.2 x1 x19 x22 x24 g25) (va_cwS 4 hts gX1_divideBy_X1_shiftDown rfl rfl rfl (by decide +kernel) ⟨Nat.le_of_ble_eq_true rfl, Nat.le_of_ble_eq_true rfl⟩) (kc_preS hP hD hK [7] rfl rfl (by decide)) rfl rfl hl.1 rfl (lv_room (Nat.le_of_ble_eq_true rfl)) dX1_divideBy_76 ⟨Nat.le_of_ble_eq_true rfl, Nat.le_of_ble_eq_true rfl⟩) hP hD hS hA rfl rfl (by decide) (by decide) (fun H locs hP hD hS => ?_)
      have hP : va_P (dC, dI) vwCl [(q_u, .inr (0, [.int u_room, .ref q_u_signs, .ref q_u_lengths, .ref q_u_limbs])), (q_u_signs, .inl (cA, n_u_signs, .inl a_u_signs)), (q_u_lengths, .inl (cA, n_u_lengths, .inl a_u_lengths)), (q_u_limbs, .inl (cA, n_u_limbs, .inl a_u_limbs)), (q_t, .inr (1, [.int t_room, .ref q_t_plus, .ref q_t_minus, .ref q_t_divisor, .int t_sign, .int t_length])), (q_t_plus, .inl (cA, n_t_plus, .inl a_t_plus)), (q_t_minus, .inl (cA, n_t_minus, .inl a_t_minus)), (q_t_divisor, .inl (cA, n_t_divisor, .inl x24))] H := hP
      have hD : va_D A [(q_u, .inr (0, [.int u_room, .ref q_u_signs, .ref q_u_lengths, .ref q_u_limbs])), (q_u_signs, .inl (cA, n_u_signs, .inl a_u_signs)), (q_u_lengths, .inl (cA, n_u_lengths, .inl a_u_lengths)), (q_u_limbs, .inl (cA, n_u_limbs, .inl a_u_limbs)), (q_t, .inr (1, [.int t_room, .ref q_t_plus, .ref q_t_minus, .ref q_t_divisor, .int t_sign, .int t_length])), (q_t_plus, .inl (cA, n_t_plus, .inl a_t_plus)), (q_t_minus, .inl (cA, n_t_minus, .inl a_t_minus)), (q_t_divisor, .inl (cA, n_t_divisor, .inl x24))] := hD
      refine lv_aload_n hx hb dX1_divideBy_79 rfl (lv_at hl 2 rfl) ?_
      refine va_get (D := (dC, dI)) (ci := 1) (v := .ref q_t_plus) (C := RX1) (T := TX1) (N := 6) hx hb hts ki_S_divideBy_X1 hown hK hP 4 rfl rfl 1 (by decide) (hts (.fieldLink RX1 15 "MinorSteps$Sum" "plus" "[I") kw_S_divideBy_2) (fun _ h9 => h9) rfl dX1_divideBy_80 ?_
      refine lv_aload_n hx hb dX1_divideBy_83 rfl (lv_at hl 2 rfl) ?_
      refine va_get (D := (dC, dI)) (ci := 1) (v := .int t_length) (C := RX1) (T := TX1) (N := 6) hx hb hts ki_S_divideBy_X1 hown hK hP 4 rfl rfl 5 (by decide) (hts (.fieldLink RX1 34 "MinorSteps$Sum" "length" "I") kw_S_divideBy_0) (fun _ h9 => h9) rfl dX1_divideBy_84 ?_
      refine lv_iload hx hb dX1_divideBy_87 (lv_at hl 1 rfl) ?_
      refine lv_iload hx hb dX1_divideBy_89 (lv_at hl 0 rfl) ?_
      obtain ⟨x26, g27, hf⟩ := og_b hf
      refine kc_v (wr := [(q_u, .inr (0, [.int u_room, .ref q_u_signs, .ref q_u_lengths, .ref q_u_limbs])), (q_u_signs, .inl (cA, n_u_signs, .inl a_u_signs)), (q_u_lengths, .inl (cA, n_u_lengths, .inl a_u_lengths)), (q_u_limbs, .inl (cA, n_u_limbs, .inl a_u_limbs)), (q_t, .inr (1, [.int t_room, .ref q_t_plus, .ref q_t_minus, .ref q_t_divisor, .int t_sign, .int t_length])), (q_t_minus, .inl (cA, n_t_minus, .inl a_t_minus)), (q_t_divisor, .inl (cA, n_t_divisor, .inl x24))]) (w1 := [(q_t_plus, .inl (cA, n_t_plus, .inl x26))]) [5] [0, 1, 2, 3, 4, 6, 7] (va_runS (As := [.ref q_t_plus, .int t_length, .int x19, .int x22]) (rest := []) ⟨hx, hb, hml, hown, hts⟩ (c_S_shiftDown l dC dI cA H.size q_t_plus k n_t_plus a_t_plus t_length x19 x22 x26 g27) (va_cwS 4 hts gX1_divideBy_X1_shiftDown rfl rfl rfl (by decide +kernel) ⟨Nat.le_of_ble_eq_true rfl, Nat.le_of_ble_eq_true rfl⟩) (kc_preS hP hD hK [5] rfl rfl (by decide)) rfl rfl hl.1 rfl (lv_room (Nat.le_of_ble_eq_true rfl)) dX1_divideBy_91 ⟨Nat.le_of_ble_eq_true rfl, Nat.le_of_ble_eq_true rfl⟩) hP hD hS hA rfl rfl (by decide) (by decide) (fun H locs hP hD hS => ?_)
      have hP : va_P (dC, dI) vwCl [(q_u, .inr (0, [.int u_room, .ref q_u_signs, .ref q_u_lengths, .ref q_u_limbs])), (q_u_signs, .inl (cA, n_u_signs, .inl a_u_signs)), (q_u_lengths, .inl (cA, n_u_lengths, .inl a_u_lengths)), (q_u_limbs, .inl (cA, n_u_limbs, .inl a_u_limbs)), (q_t, .inr (1, [.int t_room, .ref q_t_plus, .ref q_t_minus, .ref q_t_divisor, .int t_sign, .int t_length])), (q_t_minus, .inl (cA, n_t_minus, .inl a_t_minus)), (q_t_divisor, .inl (cA, n_t_divisor, .inl x24)), (q_t_plus, .inl (cA, n_t_plus, .inl x26))] H := hP
      have hD : va_D A [(q_u, .inr (0, [.int u_room, .ref q_u_signs, .ref q_u_lengths, .ref q_u_limbs])), (q_u_signs, .inl (cA, n_u_signs, .inl a_u_signs)), (q_u_lengths, .inl (cA, n_u_lengths, .inl a_u_lengths)), (q_u_limbs, .inl (cA, n_u_limbs, .inl a_u_limbs)), (q_t, .inr (1, [.int t_room, .ref q_t_plus, .ref q_t_minus, .ref q_t_divisor, .int t_sign, .int t_length])), (q_t_minus, .inl (cA, n_t_minus, .inl a_t_minus)), (q_t_divisor, .inl (cA, n_t_divisor, .inl x24)), (q_t_plus, .inl (cA, n_t_plus, .inl x26))] := hD
      refine lv_aload_n hx hb dX1_divideBy_94 rfl (lv_at hl 2 rfl) ?_
      refine lv_aload_n hx hb dX1_divideBy_95 rfl (lv_at hl 2 rfl) ?_
      refine va_get (D := (dC, dI)) (ci := 1) (v := .ref q_t_divisor) (C := RX1) (T := TX1) (N := 6) hx hb hts ki_S_divideBy_X1 hown hK hP 4 rfl rfl 3 (by decide) (hts (.fieldLink RX1 22 "MinorSteps$Sum" "divisor" "[I") kw_S_divideBy_1) (fun _ h9 => h9) rfl dX1_divideBy_96 ?_
      refine lv_iload_n hx hb dX1_divideBy_99 rfl (lv_at hl 5 rfl) ?_
      obtain ⟨x28, g29, hf⟩ := og_b hf
      refine kc_i (wr := [(q_u, .inr (0, [.int u_room, .ref q_u_signs, .ref q_u_lengths, .ref q_u_limbs])), (q_u_signs, .inl (cA, n_u_signs, .inl a_u_signs)), (q_u_lengths, .inl (cA, n_u_lengths, .inl a_u_lengths)), (q_u_limbs, .inl (cA, n_u_limbs, .inl a_u_limbs)), (q_t, .inr (1, [.int t_room, .ref q_t_plus, .ref q_t_minus, .ref q_t_divisor, .int t_sign, .int t_length])), (q_t_minus, .inl (cA, n_t_minus, .inl a_t_minus)), (q_t_plus, .inl (cA, n_t_plus, .inl x26))]) (w1 := [(q_t_divisor, .inl (cA, n_t_divisor, .inl x24))]) [6] [0, 1, 2, 3, 4, 5, 7] (va_runS (As := [.ref q_t_divisor, .int x1]) (rest := [.ref q_t]) ⟨hx, hb, hml, hown, hts⟩ (c_S_trimmed l dC dI cA H.size q_t_divisor k n_t_divisor x24 x1 x28 g29) (va_cwS 2 hts gX1_divideBy_X1_trimmed rfl rfl rfl (by decide +kernel) ⟨Nat.le_of_ble_eq_true rfl, Nat.le_of_ble_eq_true rfl⟩) (kc_preS hP hD hK [6] rfl rfl (by decide)) rfl rfl hl.1 rfl (lv_room (Nat.le_of_ble_eq_true rfl)) dX1_divideBy_100 ⟨Nat.le_of_ble_eq_true rfl, Nat.le_of_ble_eq_true rfl⟩) hP hD hS hA rfl rfl (by decide) (by decide) (fun H locs hP hD hS => ?_)
      have hP : va_P (dC, dI) vwCl [(q_u, .inr (0, [.int u_room, .ref q_u_signs, .ref q_u_lengths, .ref q_u_limbs])), (q_u_signs, .inl (cA, n_u_signs, .inl a_u_signs)), (q_u_lengths, .inl (cA, n_u_lengths, .inl a_u_lengths)), (q_u_limbs, .inl (cA, n_u_limbs, .inl a_u_limbs)), (q_t, .inr (1, [.int t_room, .ref q_t_plus, .ref q_t_minus, .ref q_t_divisor, .int t_sign, .int t_length])), (q_t_minus, .inl (cA, n_t_minus, .inl a_t_minus)), (q_t_plus, .inl (cA, n_t_plus, .inl x26)), (q_t_divisor, .inl (cA, n_t_divisor, .inl x24))] H := hP
      have hD : va_D A [(q_u, .inr (0, [.int u_room, .ref q_u_signs, .ref q_u_lengths, .ref q_u_limbs])), (q_u_signs, .inl (cA, n_u_signs, .inl a_u_signs)), (q_u_lengths, .inl (cA, n_u_lengths, .inl a_u_lengths)), (q_u_limbs, .inl (cA, n_u_limbs, .inl a_u_limbs)), (q_t, .inr (1, [.int t_room, .ref q_t_plus, .ref q_t_minus, .ref q_t_divisor, .int t_sign, .int t_length])), (q_t_minus, .inl (cA, n_t_minus, .inl a_t_minus)), (q_t_plus, .inl (cA, n_t_plus, .inl x26)), (q_t_divisor, .inl (cA, n_t_divisor, .inl x24))] := hD
      refine lv_aload_n hx hb dX1_divideBy_103 rfl (lv_at hl 2 rfl) ?_
      refine va_get (D := (dC, dI)) (ci := 1) (v := .ref q_t_plus) (C := RX1) (T := TX1) (N := 6) hx hb hts ki_S_divideBy_X1 hown hK hP 4 rfl rfl 1 (by decide) (hts (.fieldLink RX1 15 "MinorSteps$Sum" "plus" "[I") kw_S_divideBy_2) (fun _ h9 => h9) rfl dX1_divideBy_104 ?_
      refine lv_aload_n hx hb dX1_divideBy_107 rfl (lv_at hl 2 rfl) ?_
      refine va_get (D := (dC, dI)) (ci := 1) (v := .int t_length) (C := RX1) (T := TX1) (N := 6) hx hb hts ki_S_divideBy_X1 hown hK hP 4 rfl rfl 5 (by decide) (hts (.fieldLink RX1 34 "MinorSteps$Sum" "length" "I") kw_S_divideBy_0) (fun _ h9 => h9) rfl dX1_divideBy_108 ?_
      obtain ⟨x30, g31, hf⟩ := og_b hf
      refine kc_i (wr := [(q_u, .inr (0, [.int u_room, .ref q_u_signs, .ref q_u_lengths, .ref q_u_limbs])), (q_u_signs, .inl (cA, n_u_signs, .inl a_u_signs)), (q_u_lengths, .inl (cA, n_u_lengths, .inl a_u_lengths)), (q_u_limbs, .inl (cA, n_u_limbs, .inl a_u_limbs)), (q_t, .inr (1, [.int t_room, .ref q_t_plus, .ref q_t_minus, .ref q_t_divisor, .int t_sign, .int t_length])), (q_t_minus, .inl (cA, n_t_minus, .inl a_t_minus)), (q_t_divisor, .inl (cA, n_t_divisor, .inl x24))]) (w1 := [(q_t_plus, .inl (cA, n_t_plus, .inl x26))]) [6] [0, 1, 2, 3, 4, 5, 7] (va_runS (As := [.ref q_t_plus, .int t_length]) (rest := [.int x28, .ref q_t]) ⟨hx, hb, hml, hown, hts⟩ (c_S_trimmed l dC dI cA H.size q_t_plus k n_t_plus x26 t_length x30 g31) (va_cwS 2 hts gX1_divideBy_X1_trimmed rfl rfl rfl (by decide +kernel) ⟨Nat.le_of_ble_eq_true rfl, Nat.le_of_ble_eq_true rfl⟩) (kc_preS hP hD hK [6] rfl rfl (by decide)) rfl rfl hl.1 rfl (lv_room (Nat.le_of_ble_eq_true rfl)) dX1_divideBy_111 ⟨Nat.le_of_ble_eq_true rfl, Nat.le_of_ble_eq_true rfl⟩) hP hD hS hA rfl rfl (by decide) (by decide) (fun H locs hP hD hS => ?_)
      have hP : va_P (dC, dI) vwCl [(q_u, .inr (0, [.int u_room, .ref q_u_signs, .ref q_u_lengths, .ref q_u_limbs])), (q_u_signs, .inl (cA, n_u_signs, .inl a_u_signs)), (q_u_lengths, .inl (cA, n_u_lengths, .inl a_u_lengths)), (q_u_limbs, .inl (cA, n_u_limbs, .inl a_u_limbs)), (q_t, .inr (1, [.int t_room, .ref q_t_plus, .ref q_t_minus, .ref q_t_divisor, .int t_sign, .int t_length])), (q_t_minus, .inl (cA, n_t_minus, .inl a_t_minus)), (q_t_divisor, .inl (cA, n_t_divisor, .inl x24)), (q_t_plus, .inl (cA, n_t_plus, .inl x26))] H := hP
      have hD : va_D A [(q_u, .inr (0, [.int u_room, .ref q_u_signs, .ref q_u_lengths, .ref q_u_limbs])), (q_u_signs, .inl (cA, n_u_signs, .inl a_u_signs)), (q_u_lengths, .inl (cA, n_u_lengths, .inl a_u_lengths)), (q_u_limbs, .inl (cA, n_u_limbs, .inl a_u_limbs)), (q_t, .inr (1, [.int t_room, .ref q_t_plus, .ref q_t_minus, .ref q_t_divisor, .int t_sign, .int t_length])), (q_t_minus, .inl (cA, n_t_minus, .inl a_t_minus)), (q_t_divisor, .inl (cA, n_t_divisor, .inl x24)), (q_t_plus, .inl (cA, n_t_plus, .inl x26))] := hD
      obtain ⟨x32, g33, hf⟩ := og_b hf
      refine kc_v (wr := [(q_u, .inr (0, [.int u_room, .ref q_u_signs, .ref q_u_lengths, .ref q_u_limbs])), (q_u_signs, .inl (cA, n_u_signs, .inl a_u_signs)), (q_u_lengths, .inl (cA, n_u_lengths, .inl a_u_lengths)), (q_u_limbs, .inl (cA, n_u_limbs, .inl a_u_limbs))]) (w1 := [(q_t, .inr (1, [.int t_room, .ref q_t_plus, .ref q_t_minus, .ref q_t_divisor, .int t_sign, .int x32.1])), (q_t_plus, .inl (cA, n_t_plus, .inl x32.2)), (q_t_minus, .inl (cA, n_t_minus, .inl a_t_minus)), (q_t_divisor, .inl (cA, n_t_divisor, .inl x24))]) [4, 7, 5, 6] [0, 1, 2, 3] (va_runV (As := [.int x28, .int x30]) (rest := []) ⟨hx, hb, hml, hown, hts⟩ (c_S_divideByOdd l dC dI cA H.size q_t q_t_plus q_t_minus q_t_divisor k t_room t_sign t_length n_t_plus x26 n_t_minus a_t_minus n_t_divisor x24 x28 x30 x32 g33) (cwV 2 hts gX1_divideBy_X1_divideByOdd rfl rfl rfl (by decide +kernel) ⟨Nat.le_of_ble_eq_true rfl, Nat.le_of_ble_eq_true rfl⟩) (kc_preV hP hD hK [4, 7, 5, 6] rfl rfl (by decide) (ci := 1) (q0 := 4) rfl rfl) rfl rfl hl.1 rfl (lv_room (Nat.le_of_ble_eq_true rfl)) dX1_divideBy_114 ⟨Nat.le_of_ble_eq_true rfl, Nat.le_of_ble_eq_true rfl⟩) hP hD hS hA rfl rfl (by decide) (by decide) (fun H locs hP hD hS => ?_)
      have hP : va_P (dC, dI) vwCl [(q_u, .inr (0, [.int u_room, .ref q_u_signs, .ref q_u_lengths, .ref q_u_limbs])), (q_u_signs, .inl (cA, n_u_signs, .inl a_u_signs)), (q_u_lengths, .inl (cA, n_u_lengths, .inl a_u_lengths)), (q_u_limbs, .inl (cA, n_u_limbs, .inl a_u_limbs)), (q_t, .inr (1, [.int t_room, .ref q_t_plus, .ref q_t_minus, .ref q_t_divisor, .int t_sign, .int x32.1])), (q_t_plus, .inl (cA, n_t_plus, .inl x32.2)), (q_t_minus, .inl (cA, n_t_minus, .inl a_t_minus)), (q_t_divisor, .inl (cA, n_t_divisor, .inl x24))] H := hP
      have hD : va_D A [(q_u, .inr (0, [.int u_room, .ref q_u_signs, .ref q_u_lengths, .ref q_u_limbs])), (q_u_signs, .inl (cA, n_u_signs, .inl a_u_signs)), (q_u_lengths, .inl (cA, n_u_lengths, .inl a_u_lengths)), (q_u_limbs, .inl (cA, n_u_limbs, .inl a_u_limbs)), (q_t, .inr (1, [.int t_room, .ref q_t_plus, .ref q_t_minus, .ref q_t_divisor, .int t_sign, .int x32.1])), (q_t_plus, .inl (cA, n_t_plus, .inl x32.2)), (q_t_minus, .inl (cA, n_t_minus, .inl a_t_minus)), (q_t_divisor, .inl (cA, n_t_divisor, .inl x24))] := hD
      refine lv_aload_n hx hb dX1_divideBy_117 rfl (lv_at hl 2 rfl) ?_
      refine lv_dup hx hb dX1_divideBy_118 rfl ?_
      refine va_get (D := (dC, dI)) (ci := 1) (v := .int t_sign) (C := RX1) (T := TX1) (N := 6) hx hb hts ki_S_divideBy_X1 hown hK hP 4 rfl rfl 4 (by decide) (hts (.fieldLink RX1 31 "MinorSteps$Sum" "sign" "I") kw_S_divideBy_3) (fun _ h9 => h9) rfl dX1_divideBy_119 ?_
      refine lv_aload_n hx hb dX1_divideBy_122 rfl (lv_at hl 3 rfl) ?_
      refine lv_iload_n hx hb dX1_divideBy_123 rfl (lv_at hl 4 rfl) ?_
      obtain ⟨x34, g35, hf⟩ := og_b hf
      refine kc_i (wr := [(q_t, .inr (1, [.int t_room, .ref q_t_plus, .ref q_t_minus, .ref q_t_divisor, .int t_sign, .int x32.1])), (q_t_plus, .inl (cA, n_t_plus, .inl x32.2)), (q_t_minus, .inl (cA, n_t_minus, .inl a_t_minus)), (q_t_divisor, .inl (cA, n_t_divisor, .inl x24))]) (w1 := [(q_u, .inr (0, [.int u_room, .ref q_u_signs, .ref q_u_lengths, .ref q_u_limbs])), (q_u_signs, .inl (cA, n_u_signs, .inl a_u_signs)), (q_u_lengths, .inl (cA, n_u_lengths, .inl a_u_lengths)), (q_u_limbs, .inl (cA, n_u_limbs, .inl a_u_limbs))]) [0, 1, 2, 3] [4, 5, 6, 7] (va_runV (As := [.int slot]) (rest := [.int t_sign, .ref q_t]) ⟨hx, hb, hml, hown, hts⟩ (c_N_signOf l dC dI cA H.size q_u q_u_signs q_u_lengths q_u_limbs u_room n_u_signs a_u_signs n_u_lengths a_u_lengths n_u_limbs a_u_limbs slot x34 g35) (cwV 1 hts gX1_divideBy_X0_signOf rfl rfl rfl (by decide +kernel) ⟨Nat.le_of_ble_eq_true rfl, Nat.le_of_ble_eq_true rfl⟩) (kc_preV hP hD hK [0, 1, 2, 3] rfl rfl (by decide) (ci := 0) (q0 := 0) rfl rfl) rfl rfl hl.1 rfl (lv_room (Nat.le_of_ble_eq_true rfl)) dX1_divideBy_124 ⟨Nat.le_of_ble_eq_true rfl, Nat.le_of_ble_eq_true rfl⟩) hP hD hS hA rfl rfl (by decide) (by decide) (fun H locs hP hD hS => ?_)
      have hP : va_P (dC, dI) vwCl [(q_t, .inr (1, [.int t_room, .ref q_t_plus, .ref q_t_minus, .ref q_t_divisor, .int t_sign, .int x32.1])), (q_t_plus, .inl (cA, n_t_plus, .inl x32.2)), (q_t_minus, .inl (cA, n_t_minus, .inl a_t_minus)), (q_t_divisor, .inl (cA, n_t_divisor, .inl x24)), (q_u, .inr (0, [.int u_room, .ref q_u_signs, .ref q_u_lengths, .ref q_u_limbs])), (q_u_signs, .inl (cA, n_u_signs, .inl a_u_signs)), (q_u_lengths, .inl (cA, n_u_lengths, .inl a_u_lengths)), (q_u_limbs, .inl (cA, n_u_limbs, .inl a_u_limbs))] H := hP
      have hD : va_D A [(q_t, .inr (1, [.int t_room, .ref q_t_plus, .ref q_t_minus, .ref q_t_divisor, .int t_sign, .int x32.1])), (q_t_plus, .inl (cA, n_t_plus, .inl x32.2)), (q_t_minus, .inl (cA, n_t_minus, .inl a_t_minus)), (q_t_divisor, .inl (cA, n_t_divisor, .inl x24)), (q_u, .inr (0, [.int u_room, .ref q_u_signs, .ref q_u_lengths, .ref q_u_limbs])), (q_u_signs, .inl (cA, n_u_signs, .inl a_u_signs)), (q_u_lengths, .inl (cA, n_u_lengths, .inl a_u_lengths)), (q_u_limbs, .inl (cA, n_u_limbs, .inl a_u_limbs))] := hD
      refine lv_imul hx hb dX1_divideBy_127 ?_
      refine va_put (D := (dC, dI)) (ci := 1) (v := .int (t_sign * x34)) (ty := .int) (C := RX1) (T := TX1) (N := 6) hx hb hts ki_S_divideBy_X1 tyX1 tyX1_ok nmX1 hown hK hP hD hS 0 rfl rfl 4 (by decide) (hts (.fieldLink RX1 31 "MinorSteps$Sum" "sign" "I") kw_S_divideBy_3) (fun _ h9 => h9) rfl (by decide +kernel) rfl rfl (Nat.le_of_ble_eq_true rfl) dX1_divideBy_128 (fun H locs hP hD hS => ?_)
      have hP : va_P (dC, dI) vwCl [(q_t, .inr (1, [.int t_room, .ref q_t_plus, .ref q_t_minus, .ref q_t_divisor, .int (t_sign * x34), .int x32.1])), (q_t_plus, .inl (cA, n_t_plus, .inl x32.2)), (q_t_minus, .inl (cA, n_t_minus, .inl a_t_minus)), (q_t_divisor, .inl (cA, n_t_divisor, .inl x24)), (q_u, .inr (0, [.int u_room, .ref q_u_signs, .ref q_u_lengths, .ref q_u_limbs])), (q_u_signs, .inl (cA, n_u_signs, .inl a_u_signs)), (q_u_lengths, .inl (cA, n_u_lengths, .inl a_u_lengths)), (q_u_limbs, .inl (cA, n_u_limbs, .inl a_u_limbs))] H := hP
      have hD : va_D A [(q_t, .inr (1, [.int t_room, .ref q_t_plus, .ref q_t_minus, .ref q_t_divisor, .int (t_sign * x34), .int x32.1])), (q_t_plus, .inl (cA, n_t_plus, .inl x32.2)), (q_t_minus, .inl (cA, n_t_minus, .inl a_t_minus)), (q_t_divisor, .inl (cA, n_t_divisor, .inl x24)), (q_u, .inr (0, [.int u_room, .ref q_u_signs, .ref q_u_lengths, .ref q_u_limbs])), (q_u_signs, .inl (cA, n_u_signs, .inl a_u_signs)), (q_u_lengths, .inl (cA, n_u_lengths, .inl a_u_lengths)), (q_u_limbs, .inl (cA, n_u_limbs, .inl a_u_limbs))] := hD
      have e9 := Option.some.inj hf
      subst e9
      exact kr_v hx hb hr hlocks hK hS (hP.sub [0, 1, 2, 3, 4, 5, 6, 7] rfl) (hD.sub [0, 1, 2, 3, 4, 5, 6, 7] (by decide) rfl) dX1_divideBy_131
    · have hf := og_f c4 hf
      have e9 := Option.some.inj hf
      subst e9
      exact kr_v hx hb hr hlocks hK hS (hP.sub [0, 1, 2, 3, 4, 5, 6, 7] rfl) (hD.sub [0, 1, 2, 3, 4, 5, 6, 7] (by decide) rfl) dX1_divideBy_18
def rm_S_storeIn : Room := { frames := 2, cells := 0, slots := 0, locals := 84 }
theorem kw_S_storeIn_0 : (.fieldLink RX1 34 "MinorSteps$Sum" "length" "I" : Cond) ∈ wsX1_storeIn := by decide +kernel
theorem kw_S_storeIn_1 : (.fieldLink RX1 9 "MinorSteps$Sum" "room" "I" : Cond) ∈ wsX1_storeIn := by decide +kernel
theorem kw_S_storeIn_2 : (.fieldLink RX1 15 "MinorSteps$Sum" "plus" "[I" : Cond) ∈ wsX1_storeIn := by decide +kernel
theorem kw_S_storeIn_3 : (.fieldLink RX1 31 "MinorSteps$Sum" "sign" "I" : Cond) ∈ wsX1_storeIn := by decide +kernel
theorem ki_S_storeIn_X1 : ∀ w ∈ u_ws RX1 TX1 6, w ∈ wsX1_storeIn := by decide +kernel
set_option maxHeartbeats 4000000 in
set_option maxRecDepth 100000 in
theorem c_S_storeIn (l : Launch) (dC : Nat → ClassId) (dI : Nat → Nat → Nat) (cA : ClassId) (sz : Nat) (q_t : Nat) (q_t_plus : Nat) (q_t_minus : Nat) (q_t_divisor : Nat) (q_u : Nat) (q_u_signs : Nat) (q_u_lengths : Nat) (q_u_limbs : Nat) (t_room : Int32) (t_sign : Int32) (t_length : Int32) (n_t_plus : Nat) (a_t_plus : Nat → Int32) (n_t_minus : Nat) (a_t_minus : Nat → Int32) (n_t_divisor : Nat) (a_t_divisor : Nat → Int32) (u_room : Int32) (n_u_signs : Nat) (a_u_signs : Nat → Int32) (n_u_lengths : Nat) (a_u_lengths : Nat → Int32) (n_u_limbs : Nat) (a_u_limbs : Nat → Int32) (slot : Int32) (o : Int32 × (Nat → Int32) × (Nat → Int32) × (Nat → Int32)) (hf : f_S_storeIn t_room t_sign t_length n_t_plus a_t_plus u_room n_u_signs a_u_signs n_u_lengths a_u_lengths n_u_limbs a_u_limbs slot = some o) : Met l yX1_storeIn wsX1_storeIn rm_S_storeIn (c_Pre (dC, dI) vwCl [(cA, .int)] [(q_t, .inr (1, [.int t_room, .ref q_t_plus, .ref q_t_minus, .ref q_t_divisor, .int t_sign, .int t_length])), (q_t_plus, .inl (cA, n_t_plus, .inl a_t_plus)), (q_t_minus, .inl (cA, n_t_minus, .inl a_t_minus)), (q_t_divisor, .inl (cA, n_t_divisor, .inl a_t_divisor)), (q_u, .inr (0, [.int u_room, .ref q_u_signs, .ref q_u_lengths, .ref q_u_limbs])), (q_u_signs, .inl (cA, n_u_signs, .inl a_u_signs)), (q_u_lengths, .inl (cA, n_u_lengths, .inl a_u_lengths)), (q_u_limbs, .inl (cA, n_u_limbs, .inl a_u_limbs))] sz [.ref q_t, .ref q_u, .int slot]) (c_Qi (dC, dI) vwCl [(cA, .int)] [(q_t, .inr (1, [.int t_room, .ref q_t_plus, .ref q_t_minus, .ref q_t_divisor, .int t_sign, .int t_length])), (q_t_plus, .inl (cA, n_t_plus, .inl a_t_plus)), (q_t_minus, .inl (cA, n_t_minus, .inl a_t_minus)), (q_t_divisor, .inl (cA, n_t_divisor, .inl a_t_divisor)), (q_u, .inr (0, [.int u_room, .ref q_u_signs, .ref q_u_lengths, .ref q_u_limbs])), (q_u_signs, .inl (cA, n_u_signs, .inl o.2.1)), (q_u_lengths, .inl (cA, n_u_lengths, .inl o.2.2.1)), (q_u_limbs, .inl (cA, n_u_limbs, .inl o.2.2.2))] (va_A [(q_t, .inr (1, [.int t_room, .ref q_t_plus, .ref q_t_minus, .ref q_t_divisor, .int t_sign, .int t_length])), (q_t_plus, .inl (cA, n_t_plus, .inl a_t_plus)), (q_t_minus, .inl (cA, n_t_minus, .inl a_t_minus)), (q_t_divisor, .inl (cA, n_t_divisor, .inl a_t_divisor)), (q_u, .inr (0, [.int u_room, .ref q_u_signs, .ref q_u_lengths, .ref q_u_limbs])), (q_u_signs, .inl (cA, n_u_signs, .inl a_u_signs)), (q_u_lengths, .inl (cA, n_u_lengths, .inl a_u_lengths)), (q_u_limbs, .inl (cA, n_u_limbs, .inl a_u_limbs))] sz) o.1) 0 0 (va_A [(q_t, .inr (1, [.int t_room, .ref q_t_plus, .ref q_t_minus, .ref q_t_divisor, .int t_sign, .int t_length])), (q_t_plus, .inl (cA, n_t_plus, .inl a_t_plus)), (q_t_minus, .inl (cA, n_t_minus, .inl a_t_minus)), (q_t_divisor, .inl (cA, n_t_divisor, .inl a_t_divisor)), (q_u, .inr (0, [.int u_room, .ref q_u_signs, .ref q_u_lengths, .ref q_u_limbs])), (q_u_signs, .inl (cA, n_u_signs, .inl a_u_signs)), (q_u_lengths, .inl (cA, n_u_lengths, .inl a_u_lengths)), (q_u_limbs, .inl (cA, n_u_limbs, .inl a_u_limbs))] sz) := by
  unfold f_S_storeIn at hf
  refine k_ent (Qc := fun A => c_Qi (dC, dI) vwCl [(cA, .int)] [(q_t, .inr (1, [.int t_room, .ref q_t_plus, .ref q_t_minus, .ref q_t_divisor, .int t_sign, .int t_length])), (q_t_plus, .inl (cA, n_t_plus, .inl a_t_plus)), (q_t_minus, .inl (cA, n_t_minus, .inl a_t_minus)), (q_t_divisor, .inl (cA, n_t_divisor, .inl a_t_divisor)), (q_u, .inr (0, [.int u_room, .ref q_u_signs, .ref q_u_lengths, .ref q_u_limbs])), (q_u_signs, .inl (cA, n_u_signs, .inl o.2.1)), (q_u_lengths, .inl (cA, n_u_lengths, .inl o.2.2.1)), (q_u_limbs, .inl (cA, n_u_limbs, .inl o.2.2.2))] A o.1) (by decide) rfl (Nat.le_of_ble_eq_true rfl) ?_
  intro p e s m below meth c A hx hb hr hown hts hml hlocks hin hsz hA hK H locs hP hD hS ls hl
  have hown : s.vm.findClass RX1 = some m.cls := hown
  have hl : lv_has ls 3 [(0, .ref q_t), (1, .ref q_u), (2, .int slot)] := hl
  refine lv_aload_n hx hb dX1_storeIn_0 rfl (lv_at hl 0 rfl) ?_
  refine va_get (D := (dC, dI)) (ci := 1) (v := .int t_length) (C := RX1) (T := TX1) (N := 6) hx hb hts ki_S_storeIn_X1 hown hK hP 0 rfl rfl 5 (by decide) (hts (.fieldLink RX1 34 "MinorSteps$Sum" "length" "I") kw_S_storeIn_0) (fun _ h9 => h9) rfl dX1_storeIn_1 ?_
  refine lv_aload_n hx hb dX1_storeIn_4 rfl (lv_at hl 0 rfl) ?_
  refine va_get (D := (dC, dI)) (ci := 1) (v := .int t_room) (C := RX1) (T := TX1) (N := 6) hx hb hts ki_S_storeIn_X1 hown hK hP 0 rfl rfl 0 (by decide) (hts (.fieldLink RX1 9 "MinorSteps$Sum" "room" "I") kw_S_storeIn_1) (fun _ h9 => h9) rfl dX1_storeIn_5 ?_
  refine lv_icmp_le (tgt := 13) hx hb dX1_storeIn_8 (by decide) (fun c1 => ?_) (fun c1 => ?_)
  · have hf := og_t c1 hf
    refine lv_aload_n hx hb dX1_storeIn_13 rfl (lv_at hl 1 rfl) ?_
    refine lv_iload_n hx hb dX1_storeIn_14 rfl (lv_at hl 2 rfl) ?_
    refine lv_aload_n hx hb dX1_storeIn_15 rfl (lv_at hl 0 rfl) ?_
    refine va_get (D := (dC, dI)) (ci := 1) (v := .ref q_t_plus) (C := RX1) (T := TX1) (N := 6) hx hb hts ki_S_storeIn_X1 hown hK hP 0 rfl rfl 1 (by decide) (hts (.fieldLink RX1 15 "MinorSteps$Sum" "plus" "[I") kw_S_storeIn_2) (fun _ h9 => h9) rfl dX1_storeIn_16 ?_
    refine lv_aload_n hx hb dX1_storeIn_19 rfl (lv_at hl 0 rfl) ?_
    refine va_get (D := (dC, dI)) (ci := 1) (v := .int t_length) (C := RX1) (T := TX1) (N := 6) hx hb hts ki_S_storeIn_X1 hown hK hP 0 rfl rfl 5 (by decide) (hts (.fieldLink RX1 34 "MinorSteps$Sum" "length" "I") kw_S_storeIn_0) (fun _ h9 => h9) rfl dX1_storeIn_20 ?_
    refine lv_aload_n hx hb dX1_storeIn_23 rfl (lv_at hl 0 rfl) ?_
    refine va_get (D := (dC, dI)) (ci := 1) (v := .int t_sign) (C := RX1) (T := TX1) (N := 6) hx hb hts ki_S_storeIn_X1 hown hK hP 0 rfl rfl 4 (by decide) (hts (.fieldLink RX1 31 "MinorSteps$Sum" "sign" "I") kw_S_storeIn_3) (fun _ h9 => h9) rfl dX1_storeIn_24 ?_
    obtain ⟨x2, g3, hf⟩ := og_b hf
    refine kc_v (wr := [(q_t, .inr (1, [.int t_room, .ref q_t_plus, .ref q_t_minus, .ref q_t_divisor, .int t_sign, .int t_length])), (q_t_minus, .inl (cA, n_t_minus, .inl a_t_minus)), (q_t_divisor, .inl (cA, n_t_divisor, .inl a_t_divisor))]) (w1 := [(q_u, .inr (0, [.int u_room, .ref q_u_signs, .ref q_u_lengths, .ref q_u_limbs])), (q_u_signs, .inl (cA, n_u_signs, .inl x2.1)), (q_u_lengths, .inl (cA, n_u_lengths, .inl x2.2.1)), (q_u_limbs, .inl (cA, n_u_limbs, .inl x2.2.2)), (q_t_plus, .inl (cA, n_t_plus, .inl a_t_plus))]) [4, 5, 6, 7, 1] [0, 2, 3] (va_runV (As := [.int slot, .ref q_t_plus, .int t_length, .int t_sign]) (rest := []) ⟨hx, hb, hml, hown, hts⟩ (c_N_put l dC dI cA H.size q_u q_u_signs q_u_lengths q_u_limbs q_t_plus u_room n_u_signs a_u_signs n_u_lengths a_u_lengths n_u_limbs a_u_limbs slot n_t_plus a_t_plus t_length t_sign x2 g3) (cwV 4 hts gX1_storeIn_X0_put rfl rfl rfl (by decide +kernel) ⟨Nat.le_of_ble_eq_true rfl, Nat.le_of_ble_eq_true rfl⟩) (kc_preV hP hD hK [4, 5, 6, 7, 1] rfl rfl (by decide) (ci := 0) (q0 := 4) rfl rfl) rfl rfl hl.1 rfl (lv_room (Nat.le_of_ble_eq_true rfl)) dX1_storeIn_27 ⟨Nat.le_of_ble_eq_true rfl, Nat.le_of_ble_eq_true rfl⟩) hP hD hS hA rfl rfl (by decide) (by decide) (fun H locs hP hD hS => ?_)
    have hP : va_P (dC, dI) vwCl [(q_t, .inr (1, [.int t_room, .ref q_t_plus, .ref q_t_minus, .ref q_t_divisor, .int t_sign, .int t_length])), (q_t_minus, .inl (cA, n_t_minus, .inl a_t_minus)), (q_t_divisor, .inl (cA, n_t_divisor, .inl a_t_divisor)), (q_u, .inr (0, [.int u_room, .ref q_u_signs, .ref q_u_lengths, .ref q_u_limbs])), (q_u_signs, .inl (cA, n_u_signs, .inl x2.1)), (q_u_lengths, .inl (cA, n_u_lengths, .inl x2.2.1)), (q_u_limbs, .inl (cA, n_u_limbs, .inl x2.2.2)), (q_t_plus, .inl (cA, n_t_plus, .inl a_t_plus))] H := hP
    have hD : va_D A [(q_t, .inr (1, [.int t_room, .ref q_t_plus, .ref q_t_minus, .ref q_t_divisor, .int t_sign, .int t_length])), (q_t_minus, .inl (cA, n_t_minus, .inl a_t_minus)), (q_t_divisor, .inl (cA, n_t_divisor, .inl a_t_divisor)), (q_u, .inr (0, [.int u_room, .ref q_u_signs, .ref q_u_lengths, .ref q_u_limbs])), (q_u_signs, .inl (cA, n_u_signs, .inl x2.1)), (q_u_lengths, .inl (cA, n_u_lengths, .inl x2.2.1)), (q_u_limbs, .inl (cA, n_u_limbs, .inl x2.2.2)), (q_t_plus, .inl (cA, n_t_plus, .inl a_t_plus))] := hD
    refine lv_iconst (v := 1) hx hb dX1_storeIn_30 (by decide) ?_
    have e9 := Option.some.inj hf
    subst e9
    exact kr_z (v := 1) hx hb hr hlocks nz_1 hK hS (hP.sub [0, 7, 1, 2, 3, 4, 5, 6] rfl) (hD.sub [0, 7, 1, 2, 3, 4, 5, 6] (by decide) rfl) dX1_storeIn_31
  · have hf := og_f c1 hf
    refine lv_iconst (v := 0) hx hb dX1_storeIn_11 (by decide) ?_
    have e9 := Option.some.inj hf
    subst e9
    exact kr_z (v := 0) hx hb hr hlocks nz_0 hK hS (hP.sub [0, 1, 2, 3, 4, 5, 6, 7] rfl) (hD.sub [0, 1, 2, 3, 4, 5, 6, 7] (by decide) rfl) dX1_storeIn_12
