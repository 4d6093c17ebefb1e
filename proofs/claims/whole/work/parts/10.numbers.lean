def rm_fill : Room := { frames := 0, cells := 0, slots := 0, locals := 0 }
set_option maxHeartbeats 4000000 in
set_option maxRecDepth 100000 in
theorem w_fill_L5 {p : Program} {l : Launch} {e : Env} {s : State} {m : MethodId} {args : Array Value} {below : List Frame} {meth : Method} {c : Code} {Q : State → Prop} {A : Nat → Prop} {H0 : Heap} {dC : Nat → ClassId} {dI : Nat → Nat → Nat} {cA : ClassId} (hx : p.tables.exec = Jvm.exec) (hb : c.code = cJ7_fill_53178) (hown : s.vm.findClass RJ7 = some m.cls) (hts : ∀ w ∈ wsJ7_fill_53178, w.before args s = true) (hml : c.maxLocals = 4) (hA : ∀ q, H0.size ≤ q → A q) (hK : va_K (dC, dI) vwCl [(cA, .int)] s) (k : Nat) (q_row : Nat) (v1 : Int32) (v3 : Int32) (n_row : Nat) : ∀ (j : Nat) (v2 : Int32) (a_row : Nat → Int32) (o : Int32 × (Nat → Int32)), f_fill_L5 k v1 v3 n_row j v2 a_row = some o → ∀ (H : Heap) (locs : List Loc), va_P (dC, dI) vwCl [(q_row, .inl (cA, n_row, .inl a_row))] H → va_D A [(q_row, .inl (cA, n_row, .inl a_row))] → va_S A H0 H locs → ∀ ls : Array Slot, lv_has ls 4 [(0, .ref q_row), (1, .int v1), (2, .int v2), (3, .int v3)] → ∀ (he : ∀ (H : Heap) (locs : List Loc), va_P (dC, dI) vwCl [(q_row, .inl (cA, n_row, .inl o.2))] H → va_D A [(q_row, .inl (cA, n_row, .inl o.2))] → va_S A H0 H locs → ∀ ls : Array Slot, lv_has ls 4 [] → W p l e rm_fill s m args below meth c H locs 0 0 Q (F0 m 20 ls [])), W p l e rm_fill s m args below meth c H locs 0 0 Q (F0 m 5 ls []) := by
  intro j
  induction j with
  | zero =>
    intro v2 a_row o hf
    rw [f_fill_L5] at hf
    cases hf
  | succ j ih =>
    intro v2 a_row o hf H locs hP hD hS ls hl he
    rw [f_fill_L5] at hf
    refine lv_iload_n hx hb dJ7_fill_53178_5 rfl (lv_at hl 2 rfl) ?_
    refine lv_iload_n hx hb dJ7_fill_53178_6 rfl (lv_at hl 3 rfl) ?_
    refine lv_icmp_ge (tgt := 20) hx hb dJ7_fill_53178_7 (by decide) (fun c5 => ?_) (fun c5 => ?_)
    · have hf := og_t c5 hf
      have e9 := Option.some.inj hf
      subst e9
      exact he _ _ (hP.sub [0] rfl) (hD.sub [0] (by decide) rfl) hS _ (lv_sub hl [] rfl)
    · have hf := og_f c5 hf
      refine lv_aload_n hx hb dJ7_fill_53178_10 rfl (lv_at hl 0 rfl) ?_
      refine lv_iload_n hx hb dJ7_fill_53178_11 rfl (lv_at hl 2 rfl) ?_
      refine lv_iload_n hx hb dJ7_fill_53178_12 rfl (lv_at hl 1 rfl) ?_
      obtain ⟨g6, hf⟩ := og_c hf
      refine va_iast hx hb hK hP hD hS 0 0 rfl rfl (og_in g6) dJ7_fill_53178_13 (fun H locs hP hD hS => ?_)
      have hP : va_P (dC, dI) vwCl [(q_row, .inl (cA, n_row, .inl (upd a_row v2.toNatClampNeg v1)))] H := hP
      have hD : va_D A [(q_row, .inl (cA, n_row, .inl (upd a_row v2.toNatClampNeg v1)))] := hD
      refine lv_iinc (v := v2 + 1) (lv' := [(2, .int (v2 + 1)), (0, .ref q_row), (1, .int v1), (3, .int v3)]) hx hb dJ7_fill_53178_14 hl (k := 2) rfl rfl (by decide) rfl (fun ls hl => ?_)
      refine lv_goto (tgt := 5) hx hb dJ7_fill_53178_17 (by decide) ?_
      exact ih (v2 + 1) (upd a_row v2.toNatClampNeg v1) _ hf _ _ (hP.sub [0] rfl) (hD.sub [0] (by decide) rfl) hS _ (lv_sub hl [1, 2, 0, 3] rfl) he
set_option maxHeartbeats 4000000 in
set_option maxRecDepth 100000 in
theorem c_fill (l : Launch) (dC : Nat → ClassId) (dI : Nat → Nat → Nat) (cA : ClassId) (sz : Nat) (q_row : Nat) (k : Nat) (n_row : Nat) (a_row : Nat → Int32) (val : Int32) (o : (Nat → Int32)) (hf : f_fill k n_row a_row val = some o) : Met l yJ7_fill_53178 wsJ7_fill_53178 rm_fill (c_Pre (dC, dI) vwCl [(cA, .int)] [(q_row, .inl (cA, n_row, .inl a_row))] sz [.ref q_row, .int val]) (c_Qv (dC, dI) vwCl [(cA, .int)] [(q_row, .inl (cA, n_row, .inl o))] (va_A [(q_row, .inl (cA, n_row, .inl a_row))] sz)) 0 0 (va_A [(q_row, .inl (cA, n_row, .inl a_row))] sz) := by
  unfold f_fill at hf
  refine k_ent (Qc := fun A => c_Qv (dC, dI) vwCl [(cA, .int)] [(q_row, .inl (cA, n_row, .inl o))] A) (by decide) rfl (Nat.le_of_ble_eq_true rfl) ?_
  intro p e s m below meth c A hx hb hr hown hts hml hlocks hin hsz hA hK H locs hP hD hS ls hl
  have hown : s.vm.findClass RJ7 = some m.cls := hown
  have hl : lv_has ls 4 [(0, .ref q_row), (1, .int val)] := hl
  refine lv_iconst (v := 0) hx hb dJ7_fill_53178_0 (by decide) ?_
  refine lv_istore_n (lv' := [(2, .int 0), (0, .ref q_row), (1, .int val)]) hx hb dJ7_fill_53178_1 rfl hl (by decide) rfl (fun ls hl => ?_)
  refine lv_aload_n hx hb dJ7_fill_53178_2 rfl (lv_at hl 1 rfl) ?_
  refine va_alen hx hb hK hP 0 0 rfl rfl (v := nI n_row) rfl dJ7_fill_53178_3 ?_
  refine lv_istore_n (lv' := [(3, .int (nI n_row)), (2, .int 0), (0, .ref q_row), (1, .int val)]) hx hb dJ7_fill_53178_4 rfl hl (by decide) rfl (fun ls hl => ?_)
  obtain ⟨x7, g8, hf⟩ := og_b hf
  refine w_fill_L5 hx hb hown hts hml hA hK k q_row val (nI n_row) n_row k (0 : Int32) a_row _ g8 _ _ (hP.sub [0] rfl) (hD.sub [0] (by decide) rfl) hS _ (lv_sub hl [2, 3, 1, 0] rfl) ?_
  intro H locs hP hD hS ls hl
  have e9 := Option.some.inj hf
  subst e9
  exact kr_v hx hb hr hlocks hK hS (hP.sub [0] rfl) (hD.sub [0] (by decide) rfl) dJ7_fill_53178_20
def rm_N_clearAll : Room := { frames := 1, cells := 0, slots := 0, locals := 23 }
theorem kw_N_clearAll_0 : (.fieldLink RX0 15 "MinorSteps$Numbers" "signs" "[I" : Cond) ∈ wsX0_clearAll := by decide +kernel
theorem kw_N_clearAll_1 : (.fieldLink RX0 19 "MinorSteps$Numbers" "lengths" "[I" : Cond) ∈ wsX0_clearAll := by decide +kernel
theorem ki_N_clearAll_X0 : ∀ w ∈ u_ws RX0 TX0 4, w ∈ wsX0_clearAll := by decide +kernel
set_option maxHeartbeats 4000000 in
set_option maxRecDepth 100000 in
theorem c_N_clearAll (l : Launch) (dC : Nat → ClassId) (dI : Nat → Nat → Nat) (cA : ClassId) (sz : Nat) (q_t : Nat) (q_t_signs : Nat) (q_t_lengths : Nat) (q_t_limbs : Nat) (k : Nat) (t_room : Int32) (n_t_signs : Nat) (a_t_signs : Nat → Int32) (n_t_lengths : Nat) (a_t_lengths : Nat → Int32) (n_t_limbs : Nat) (a_t_limbs : Nat → Int32) (o : (Nat → Int32) × (Nat → Int32)) (hf : f_N_clearAll k n_t_signs a_t_signs n_t_lengths a_t_lengths = some o) : Met l yX0_clearAll wsX0_clearAll rm_N_clearAll (c_Pre (dC, dI) vwCl [(cA, .int)] [(q_t, .inr (0, [.int t_room, .ref q_t_signs, .ref q_t_lengths, .ref q_t_limbs])), (q_t_signs, .inl (cA, n_t_signs, .inl a_t_signs)), (q_t_lengths, .inl (cA, n_t_lengths, .inl a_t_lengths)), (q_t_limbs, .inl (cA, n_t_limbs, .inl a_t_limbs))] sz [.ref q_t]) (c_Qv (dC, dI) vwCl [(cA, .int)] [(q_t, .inr (0, [.int t_room, .ref q_t_signs, .ref q_t_lengths, .ref q_t_limbs])), (q_t_signs, .inl (cA, n_t_signs, .inl o.1)), (q_t_lengths, .inl (cA, n_t_lengths, .inl o.2)), (q_t_limbs, .inl (cA, n_t_limbs, .inl a_t_limbs))] (va_A [(q_t, .inr (0, [.int t_room, .ref q_t_signs, .ref q_t_lengths, .ref q_t_limbs])), (q_t_signs, .inl (cA, n_t_signs, .inl a_t_signs)), (q_t_lengths, .inl (cA, n_t_lengths, .inl a_t_lengths)), (q_t_limbs, .inl (cA, n_t_limbs, .inl a_t_limbs))] sz)) 0 0 (va_A [(q_t, .inr (0, [.int t_room, .ref q_t_signs, .ref q_t_lengths, .ref q_t_limbs])), (q_t_signs, .inl (cA, n_t_signs, .inl a_t_signs)), (q_t_lengths, .inl (cA, n_t_lengths, .inl a_t_lengths)), (q_t_limbs, .inl (cA, n_t_limbs, .inl a_t_limbs))] sz) := by
  unfold f_N_clearAll at hf
  refine k_ent (Qc := fun A => c_Qv (dC, dI) vwCl [(cA, .int)] [(q_t, .inr (0, [.int t_room, .ref q_t_signs, .ref q_t_lengths, .ref q_t_limbs])), (q_t_signs, .inl (cA, n_t_signs, .inl o.1)), (q_t_lengths, .inl (cA, n_t_lengths, .inl o.2)), (q_t_limbs, .inl (cA, n_t_limbs, .inl a_t_limbs))] A) (by decide) rfl (Nat.le_of_ble_eq_true rfl) ?_
  intro p e s m below meth c A hx hb hr hown hts hml hlocks hin hsz hA hK H locs hP hD hS ls hl
  have hown : s.vm.findClass RX0 = some m.cls := hown
  have hl : lv_has ls 1 [(0, .ref q_t)] := hl
  refine lv_aload_n hx hb dX0_clearAll_0 rfl (lv_at hl 0 rfl) ?_
  refine va_get (D := (dC, dI)) (ci := 0) (v := .ref q_t_signs) (C := RX0) (T := TX0) (N := 4) hx hb hts ki_N_clearAll_X0 hown hK hP 0 rfl rfl 1 (by decide) (hts (.fieldLink RX0 15 "MinorSteps$Numbers" "signs" "[I") kw_N_clearAll_0) (fun _ h9 => h9) rfl dX0_clearAll_1 ?_
  refine lv_iconst (v := 0) hx hb dX0_clearAll_4 (by decide) ?_
  obtain ⟨x1, g2, hf⟩ := og_b hf
  refine kc_v (wr := [(q_t, .inr (0, [.int t_room, .ref q_t_signs, .ref q_t_lengths, .ref q_t_limbs])), (q_t_lengths, .inl (cA, n_t_lengths, .inl a_t_lengths)), (q_t_limbs, .inl (cA, n_t_limbs, .inl a_t_limbs))]) (w1 := [(q_t_signs, .inl (cA, n_t_signs, .inl x1))]) [1] [0, 2, 3] (va_runS (As := [.ref q_t_signs, .int 0]) (rest := []) ⟨hx, hb, hml, hown, hts⟩ (c_fill l dC dI cA H.size q_t_signs k n_t_signs a_t_signs (0 : Int32) x1 g2) (va_cwS 2 hts gX0_clearAll_J7_fill_53178 rfl rfl rfl (by decide +kernel) ⟨Nat.le_of_ble_eq_true rfl, Nat.le_of_ble_eq_true rfl⟩) (kc_preS hP hD hK [1] rfl rfl (by decide)) rfl rfl hl.1 rfl (lv_room (Nat.le_of_ble_eq_true rfl)) dX0_clearAll_5 ⟨Nat.le_of_ble_eq_true rfl, Nat.le_of_ble_eq_true rfl⟩) hP hD hS hA rfl rfl (by decide) (by decide) (fun H locs hP hD hS => ?_)
  have hP : va_P (dC, dI) vwCl [(q_t, .inr (0, [.int t_room, .ref q_t_signs, .ref q_t_lengths, .ref q_t_limbs])), (q_t_lengths, .inl (cA, n_t_lengths, .inl a_t_lengths)), (q_t_limbs, .inl (cA, n_t_limbs, .inl a_t_limbs)), (q_t_signs, .inl (cA, n_t_signs, .inl x1))] H := hP
  have hD : va_D A [(q_t, .inr (0, [.int t_room, .ref q_t_signs, .ref q_t_lengths, .ref q_t_limbs])), (q_t_lengths, .inl (cA, n_t_lengths, .inl a_t_lengths)), (q_t_limbs, .inl (cA, n_t_limbs, .inl a_t_limbs)), (q_t_signs, .inl (cA, n_t_signs, .inl x1))] := hD
  refine lv_aload_n hx hb dX0_clearAll_8 rfl (lv_at hl 0 rfl) ?_
  refine va_get (D := (dC, dI)) (ci := 0) (v := .ref q_t_lengths) (C := RX0) (T := TX0) (N := 4) hx hb hts ki_N_clearAll_X0 hown hK hP 0 rfl rfl 2 (by decide) (hts (.fieldLink RX0 19 "MinorSteps$Numbers" "lengths" "[I") kw_N_clearAll_1) (fun _ h9 => h9) rfl dX0_clearAll_9 ?_
  refine lv_iconst (v := 0) hx hb dX0_clearAll_12 (by decide) ?_
  obtain ⟨x3, g4, hf⟩ := og_b hf
  refine kc_v (wr := [(q_t, .inr (0, [.int t_room, .ref q_t_signs, .ref q_t_lengths, .ref q_t_limbs])), (q_t_limbs, .inl (cA, n_t_limbs, .inl a_t_limbs)), (q_t_signs, .inl (cA, n_t_signs, .inl x1))]) (w1 := [(q_t_lengths, .inl (cA, n_t_lengths, .inl x3))]) [1] [0, 2, 3] (va_runS (As := [.ref q_t_lengths, .int 0]) (rest := []) ⟨hx, hb, hml, hown, hts⟩ (c_fill l dC dI cA H.size q_t_lengths k n_t_lengths a_t_lengths (0 : Int32) x3 g4) (va_cwS 2 hts gX0_clearAll_J7_fill_53178 rfl rfl rfl (by decide +kernel) ⟨Nat.le_of_ble_eq_true rfl, Nat.le_of_ble_eq_true rfl⟩) (kc_preS hP hD hK [1] rfl rfl (by decide)) rfl rfl hl.1 rfl (lv_room (Nat.le_of_ble_eq_true rfl)) dX0_clearAll_13 ⟨Nat.le_of_ble_eq_true rfl, Nat.le_of_ble_eq_true rfl⟩) hP hD hS hA rfl rfl (by decide) (by decide) (fun H locs hP hD hS => ?_)
  have hP : va_P (dC, dI) vwCl [(q_t, .inr (0, [.int t_room, .ref q_t_signs, .ref q_t_lengths, .ref q_t_limbs])), (q_t_limbs, .inl (cA, n_t_limbs, .inl a_t_limbs)), (q_t_signs, .inl (cA, n_t_signs, .inl x1)), (q_t_lengths, .inl (cA, n_t_lengths, .inl x3))] H := hP
  have hD : va_D A [(q_t, .inr (0, [.int t_room, .ref q_t_signs, .ref q_t_lengths, .ref q_t_limbs])), (q_t_limbs, .inl (cA, n_t_limbs, .inl a_t_limbs)), (q_t_signs, .inl (cA, n_t_signs, .inl x1)), (q_t_lengths, .inl (cA, n_t_lengths, .inl x3))] := hD
  have e9 := Option.some.inj hf
  subst e9
  exact kr_v hx hb hr hlocks hK hS (hP.sub [0, 2, 3, 1] rfl) (hD.sub [0, 2, 3, 1] (by decide) rfl) dX0_clearAll_16
def rm_N_clear : Room := { frames := 0, cells := 0, slots := 0, locals := 0 }
theorem kw_N_clear_0 : (.fieldLink RX0 15 "MinorSteps$Numbers" "signs" "[I" : Cond) ∈ wsX0_clear := by decide +kernel
theorem kw_N_clear_1 : (.fieldLink RX0 19 "MinorSteps$Numbers" "lengths" "[I" : Cond) ∈ wsX0_clear := by decide +kernel
theorem ki_N_clear_X0 : ∀ w ∈ u_ws RX0 TX0 4, w ∈ wsX0_clear := by decide +kernel
set_option maxHeartbeats 4000000 in
set_option maxRecDepth 100000 in
theorem c_N_clear (l : Launch) (dC : Nat → ClassId) (dI : Nat → Nat → Nat) (cA : ClassId) (sz : Nat) (q_t : Nat) (q_t_signs : Nat) (q_t_lengths : Nat) (q_t_limbs : Nat) (t_room : Int32) (n_t_signs : Nat) (a_t_signs : Nat → Int32) (n_t_lengths : Nat) (a_t_lengths : Nat → Int32) (n_t_limbs : Nat) (a_t_limbs : Nat → Int32) (slot : Int32) (o : (Nat → Int32) × (Nat → Int32)) (hf : f_N_clear n_t_signs a_t_signs n_t_lengths a_t_lengths slot = some o) : Met l yX0_clear wsX0_clear rm_N_clear (c_Pre (dC, dI) vwCl [(cA, .int)] [(q_t, .inr (0, [.int t_room, .ref q_t_signs, .ref q_t_lengths, .ref q_t_limbs])), (q_t_signs, .inl (cA, n_t_signs, .inl a_t_signs)), (q_t_lengths, .inl (cA, n_t_lengths, .inl a_t_lengths)), (q_t_limbs, .inl (cA, n_t_limbs, .inl a_t_limbs))] sz [.ref q_t, .int slot]) (c_Qv (dC, dI) vwCl [(cA, .int)] [(q_t, .inr (0, [.int t_room, .ref q_t_signs, .ref q_t_lengths, .ref q_t_limbs])), (q_t_signs, .inl (cA, n_t_signs, .inl o.1)), (q_t_lengths, .inl (cA, n_t_lengths, .inl o.2)), (q_t_limbs, .inl (cA, n_t_limbs, .inl a_t_limbs))] (va_A [(q_t, .inr (0, [.int t_room, .ref q_t_signs, .ref q_t_lengths, .ref q_t_limbs])), (q_t_signs, .inl (cA, n_t_signs, .inl a_t_signs)), (q_t_lengths, .inl (cA, n_t_lengths, .inl a_t_lengths)), (q_t_limbs, .inl (cA, n_t_limbs, .inl a_t_limbs))] sz)) 0 0 (va_A [(q_t, .inr (0, [.int t_room, .ref q_t_signs, .ref q_t_lengths, .ref q_t_limbs])), (q_t_signs, .inl (cA, n_t_signs, .inl a_t_signs)), (q_t_lengths, .inl (cA, n_t_lengths, .inl a_t_lengths)), (q_t_limbs, .inl (cA, n_t_limbs, .inl a_t_limbs))] sz) := by
  unfold f_N_clear at hf
  refine k_ent (Qc := fun A => c_Qv (dC, dI) vwCl [(cA, .int)] [(q_t, .inr (0, [.int t_room, .ref q_t_signs, .ref q_t_lengths, .ref q_t_limbs])), (q_t_signs, .inl (cA, n_t_signs, .inl o.1)), (q_t_lengths, .inl (cA, n_t_lengths, .inl o.2)), (q_t_limbs, .inl (cA, n_t_limbs, .inl a_t_limbs))] A) (by decide) rfl (Nat.le_of_ble_eq_true rfl) ?_
  intro p e s m below meth c A hx hb hr hown hts hml hlocks hin hsz hA hK H locs hP hD hS ls hl
  have hown : s.vm.findClass RX0 = some m.cls := hown
  have hl : lv_has ls 2 [(0, .ref q_t), (1, .int slot)] := hl
  refine lv_aload_n hx hb dX0_clear_0 rfl (lv_at hl 0 rfl) ?_
  refine va_get (D := (dC, dI)) (ci := 0) (v := .ref q_t_signs) (C := RX0) (T := TX0) (N := 4) hx hb hts ki_N_clear_X0 hown hK hP 0 rfl rfl 1 (by decide) (hts (.fieldLink RX0 15 "MinorSteps$Numbers" "signs" "[I") kw_N_clear_0) (fun _ h9 => h9) rfl dX0_clear_1 ?_
  refine lv_iload_n hx hb dX0_clear_4 rfl (lv_at hl 1 rfl) ?_
  refine lv_iconst (v := 0) hx hb dX0_clear_5 (by decide) ?_
  obtain ⟨g1, hf⟩ := og_c hf
  refine va_iast hx hb hK hP hD hS 1 0 rfl rfl (og_in g1) dX0_clear_6 (fun H locs hP hD hS => ?_)
  have hP : va_P (dC, dI) vwCl [(q_t, .inr (0, [.int t_room, .ref q_t_signs, .ref q_t_lengths, .ref q_t_limbs])), (q_t_signs, .inl (cA, n_t_signs, .inl (upd a_t_signs slot.toNatClampNeg 0))), (q_t_lengths, .inl (cA, n_t_lengths, .inl a_t_lengths)), (q_t_limbs, .inl (cA, n_t_limbs, .inl a_t_limbs))] H := hP
  have hD : va_D A [(q_t, .inr (0, [.int t_room, .ref q_t_signs, .ref q_t_lengths, .ref q_t_limbs])), (q_t_signs, .inl (cA, n_t_signs, .inl (upd a_t_signs slot.toNatClampNeg 0))), (q_t_lengths, .inl (cA, n_t_lengths, .inl a_t_lengths)), (q_t_limbs, .inl (cA, n_t_limbs, .inl a_t_limbs))] := hD
  refine lv_aload_n hx hb dX0_clear_7 rfl (lv_at hl 0 rfl) ?_
  refine va_get (D := (dC, dI)) (ci := 0) (v := .ref q_t_lengths) (C := RX0) (T := TX0) (N := 4) hx hb hts ki_N_clear_X0 hown hK hP 0 rfl rfl 2 (by decide) (hts (.fieldLink RX0 19 "MinorSteps$Numbers" "lengths" "[I") kw_N_clear_1) (fun _ h9 => h9) rfl dX0_clear_8 ?_
  refine lv_iload_n hx hb dX0_clear_11 rfl (lv_at hl 1 rfl) ?_
  refine lv_iconst (v := 0) hx hb dX0_clear_12 (by decide) ?_
  obtain ⟨g2, hf⟩ := og_c hf
  refine va_iast hx hb hK hP hD hS 2 0 rfl rfl (og_in g2) dX0_clear_13 (fun H locs hP hD hS => ?_)
  have hP : va_P (dC, dI) vwCl [(q_t, .inr (0, [.int t_room, .ref q_t_signs, .ref q_t_lengths, .ref q_t_limbs])), (q_t_signs, .inl (cA, n_t_signs, .inl (upd a_t_signs slot.toNatClampNeg 0))), (q_t_lengths, .inl (cA, n_t_lengths, .inl (upd a_t_lengths slot.toNatClampNeg 0))), (q_t_limbs, .inl (cA, n_t_limbs, .inl a_t_limbs))] H := hP
  have hD : va_D A [(q_t, .inr (0, [.int t_room, .ref q_t_signs, .ref q_t_lengths, .ref q_t_limbs])), (q_t_signs, .inl (cA, n_t_signs, .inl (upd a_t_signs slot.toNatClampNeg 0))), (q_t_lengths, .inl (cA, n_t_lengths, .inl (upd a_t_lengths slot.toNatClampNeg 0))), (q_t_limbs, .inl (cA, n_t_limbs, .inl a_t_limbs))] := hD
  have e9 := Option.some.inj hf
  subst e9
  exact kr_v hx hb hr hlocks hK hS (hP.sub [0, 1, 2, 3] rfl) (hD.sub [0, 1, 2, 3] (by decide) rfl) dX0_clear_14
def rm_N_signOf : Room := { frames := 0, cells := 0, slots := 0, locals := 0 }
theorem kw_N_signOf_0 : (.fieldLink RX0 15 "MinorSteps$Numbers" "signs" "[I" : Cond) ∈ wsX0_signOf := by decide +kernel
theorem ki_N_signOf_X0 : ∀ w ∈ u_ws RX0 TX0 4, w ∈ wsX0_signOf := by decide +kernel
set_option maxHeartbeats 4000000 in
set_option maxRecDepth 100000 in
theorem c_N_signOf (l : Launch) (dC : Nat → ClassId) (dI : Nat → Nat → Nat) (cA : ClassId) (sz : Nat) (q_t : Nat) (q_t_signs : Nat) (q_t_lengths : Nat) (q_t_limbs : Nat) (t_room : Int32) (n_t_signs : Nat) (a_t_signs : Nat → Int32) (n_t_lengths : Nat) (a_t_lengths : Nat → Int32) (n_t_limbs : Nat) (a_t_limbs : Nat → Int32) (slot : Int32) (o : Int32) (hf : f_N_signOf n_t_signs a_t_signs slot = some o) : Met l yX0_signOf wsX0_signOf rm_N_signOf (c_Pre (dC, dI) vwCl [(cA, .int)] [(q_t, .inr (0, [.int t_room, .ref q_t_signs, .ref q_t_lengths, .ref q_t_limbs])), (q_t_signs, .inl (cA, n_t_signs, .inl a_t_signs)), (q_t_lengths, .inl (cA, n_t_lengths, .inl a_t_lengths)), (q_t_limbs, .inl (cA, n_t_limbs, .inl a_t_limbs))] sz [.ref q_t, .int slot]) (c_Qi (dC, dI) vwCl [(cA, .int)] [(q_t, .inr (0, [.int t_room, .ref q_t_signs, .ref q_t_lengths, .ref q_t_limbs])), (q_t_signs, .inl (cA, n_t_signs, .inl a_t_signs)), (q_t_lengths, .inl (cA, n_t_lengths, .inl a_t_lengths)), (q_t_limbs, .inl (cA, n_t_limbs, .inl a_t_limbs))] (va_A [(q_t, .inr (0, [.int t_room, .ref q_t_signs, .ref q_t_lengths, .ref q_t_limbs])), (q_t_signs, .inl (cA, n_t_signs, .inl a_t_signs)), (q_t_lengths, .inl (cA, n_t_lengths, .inl a_t_lengths)), (q_t_limbs, .inl (cA, n_t_limbs, .inl a_t_limbs))] sz) o) 0 0 (va_A [(q_t, .inr (0, [.int t_room, .ref q_t_signs, .ref q_t_lengths, .ref q_t_limbs])), (q_t_signs, .inl (cA, n_t_signs, .inl a_t_signs)), (q_t_lengths, .inl (cA, n_t_lengths, .inl a_t_lengths)), (q_t_limbs, .inl (cA, n_t_limbs, .inl a_t_limbs))] sz) := by
  unfold f_N_signOf at hf
  refine k_ent (Qc := fun A => c_Qi (dC, dI) vwCl [(cA, .int)] [(q_t, .inr (0, [.int t_room, .ref q_t_signs, .ref q_t_lengths, .ref q_t_limbs])), (q_t_signs, .inl (cA, n_t_signs, .inl a_t_signs)), (q_t_lengths, .inl (cA, n_t_lengths, .inl a_t_lengths)), (q_t_limbs, .inl (cA, n_t_limbs, .inl a_t_limbs))] A o) (by decide) rfl (Nat.le_of_ble_eq_true rfl) ?_
  intro p e s m below meth c A hx hb hr hown hts hml hlocks hin hsz hA hK H locs hP hD hS ls hl
  have hown : s.vm.findClass RX0 = some m.cls := hown
  have hl : lv_has ls 2 [(0, .ref q_t), (1, .int slot)] := hl
  refine lv_aload_n hx hb dX0_signOf_0 rfl (lv_at hl 0 rfl) ?_
  refine va_get (D := (dC, dI)) (ci := 0) (v := .ref q_t_signs) (C := RX0) (T := TX0) (N := 4) hx hb hts ki_N_signOf_X0 hown hK hP 0 rfl rfl 1 (by decide) (hts (.fieldLink RX0 15 "MinorSteps$Numbers" "signs" "[I") kw_N_signOf_0) (fun _ h9 => h9) rfl dX0_signOf_1 ?_
  refine lv_iload_n hx hb dX0_signOf_4 rfl (lv_at hl 1 rfl) ?_
  obtain ⟨g1, hf⟩ := og_c hf
  refine va_iald hx hb hK hP 1 0 rfl rfl (og_in g1) dX0_signOf_5 ?_
  have e9 := Option.some.inj hf
  subst e9
  exact kr_i hx hb hr hlocks hK hS (hP.sub [0, 1, 2, 3] rfl) (hD.sub [0, 1, 2, 3] (by decide) rfl) dX0_signOf_6
def rm_N_lengthOf : Room := { frames := 0, cells := 0, slots := 0, locals := 0 }
theorem kw_N_lengthOf_0 : (.fieldLink RX0 19 "MinorSteps$Numbers" "lengths" "[I" : Cond) ∈ wsX0_lengthOf := by decide +kernel
theorem ki_N_lengthOf_X0 : ∀ w ∈ u_ws RX0 TX0 4, w ∈ wsX0_lengthOf := by decide +kernel
set_option maxHeartbeats 4000000 in
set_option maxRecDepth 100000 in
theorem c_N_lengthOf (l : Launch) (dC : Nat → ClassId) (dI : Nat → Nat → Nat) (cA : ClassId) (sz : Nat) (q_t : Nat) (q_t_signs : Nat) (q_t_lengths : Nat) (q_t_limbs : Nat) (t_room : Int32) (n_t_signs : Nat) (a_t_signs : Nat → Int32) (n_t_lengths : Nat) (a_t_lengths : Nat → Int32) (n_t_limbs : Nat) (a_t_limbs : Nat → Int32) (slot : Int32) (o : Int32) (hf : f_N_lengthOf n_t_lengths a_t_lengths slot = some o) : Met l yX0_lengthOf wsX0_lengthOf rm_N_lengthOf (c_Pre (dC, dI) vwCl [(cA, .int)] [(q_t, .inr (0, [.int t_room, .ref q_t_signs, .ref q_t_lengths, .ref q_t_limbs])), (q_t_signs, .inl (cA, n_t_signs, .inl a_t_signs)), (q_t_lengths, .inl (cA, n_t_lengths, .inl a_t_lengths)), (q_t_limbs, .inl (cA, n_t_limbs, .inl a_t_limbs))] sz [.ref q_t, .int slot]) (c_Qi (dC, dI) vwCl [(cA, .int)] [(q_t, .inr (0, [.int t_room, .ref q_t_signs, .ref q_t_lengths, .ref q_t_limbs])), (q_t_signs, .inl (cA, n_t_signs, .inl a_t_signs)), (q_t_lengths, .inl (cA, n_t_lengths, .inl a_t_lengths)), (q_t_limbs, .inl (cA, n_t_limbs, .inl a_t_limbs))] (va_A [(q_t, .inr (0, [.int t_room, .ref q_t_signs, .ref q_t_lengths, .ref q_t_limbs])), (q_t_signs, .inl (cA, n_t_signs, .inl a_t_signs)), (q_t_lengths, .inl (cA, n_t_lengths, .inl a_t_lengths)), (q_t_limbs, .inl (cA, n_t_limbs, .inl a_t_limbs))] sz) o) 0 0 (va_A [(q_t, .inr (0, [.int t_room, .ref q_t_signs, .ref q_t_lengths, .ref q_t_limbs])), (q_t_signs, .inl (cA, n_t_signs, .inl a_t_signs)), (q_t_lengths, .inl (cA, n_t_lengths, .inl a_t_lengths)), (q_t_limbs, .inl (cA, n_t_limbs, .inl a_t_limbs))] sz) := by
  unfold f_N_lengthOf at hf
  refine k_ent (Qc := fun A => c_Qi (dC, dI) vwCl [(cA, .int)] [(q_t, .inr (0, [.int t_room, .ref q_t_signs, .ref q_t_lengths, .ref q_t_limbs])), (q_t_signs, .inl (cA, n_t_signs, .inl a_t_signs)), (q_t_lengths, .inl (cA, n_t_lengths, .inl a_t_lengths)), (q_t_limbs, .inl (cA, n_t_limbs, .inl a_t_limbs))] A o) (by decide) rfl (Nat.le_of_ble_eq_true rfl) ?_
  intro p e s m below meth c A hx hb hr hown hts hml hlocks hin hsz hA hK H locs hP hD hS ls hl
  have hown : s.vm.findClass RX0 = some m.cls := hown
  have hl : lv_has ls 2 [(0, .ref q_t), (1, .int slot)] := hl
  refine lv_aload_n hx hb dX0_lengthOf_0 rfl (lv_at hl 0 rfl) ?_
  refine va_get (D := (dC, dI)) (ci := 0) (v := .ref q_t_lengths) (C := RX0) (T := TX0) (N := 4) hx hb hts ki_N_lengthOf_X0 hown hK hP 0 rfl rfl 2 (by decide) (hts (.fieldLink RX0 19 "MinorSteps$Numbers" "lengths" "[I") kw_N_lengthOf_0) (fun _ h9 => h9) rfl dX0_lengthOf_1 ?_
  refine lv_iload_n hx hb dX0_lengthOf_4 rfl (lv_at hl 1 rfl) ?_
  obtain ⟨g1, hf⟩ := og_c hf
  refine va_iald hx hb hK hP 2 0 rfl rfl (og_in g1) dX0_lengthOf_5 ?_
  have e9 := Option.some.inj hf
  subst e9
  exact kr_i hx hb hr hlocks hK hS (hP.sub [0, 1, 2, 3] rfl) (hD.sub [0, 1, 2, 3] (by decide) rfl) dX0_lengthOf_6
def rm_N_limbOf : Room := { frames := 0, cells := 0, slots := 0, locals := 0 }
theorem kw_N_limbOf_0 : (.fieldLink RX0 22 "MinorSteps$Numbers" "limbs" "[I" : Cond) ∈ wsX0_limbOf := by decide +kernel
theorem kw_N_limbOf_1 : (.fieldLink RX0 9 "MinorSteps$Numbers" "room" "I" : Cond) ∈ wsX0_limbOf := by decide +kernel
theorem ki_N_limbOf_X0 : ∀ w ∈ u_ws RX0 TX0 4, w ∈ wsX0_limbOf := by decide +kernel
set_option maxHeartbeats 4000000 in
set_option maxRecDepth 100000 in
theorem c_N_limbOf (l : Launch) (dC : Nat → ClassId) (dI : Nat → Nat → Nat) (cA : ClassId) (sz : Nat) (q_t : Nat) (q_t_signs : Nat) (q_t_lengths : Nat) (q_t_limbs : Nat) (t_room : Int32) (n_t_signs : Nat) (a_t_signs : Nat → Int32) (n_t_lengths : Nat) (a_t_lengths : Nat → Int32) (n_t_limbs : Nat) (a_t_limbs : Nat → Int32) (slot : Int32) (place : Int32) (o : Int32) (hf : f_N_limbOf t_room n_t_limbs a_t_limbs slot place = some o) : Met l yX0_limbOf wsX0_limbOf rm_N_limbOf (c_Pre (dC, dI) vwCl [(cA, .int)] [(q_t, .inr (0, [.int t_room, .ref q_t_signs, .ref q_t_lengths, .ref q_t_limbs])), (q_t_signs, .inl (cA, n_t_signs, .inl a_t_signs)), (q_t_lengths, .inl (cA, n_t_lengths, .inl a_t_lengths)), (q_t_limbs, .inl (cA, n_t_limbs, .inl a_t_limbs))] sz [.ref q_t, .int slot, .int place]) (c_Qi (dC, dI) vwCl [(cA, .int)] [(q_t, .inr (0, [.int t_room, .ref q_t_signs, .ref q_t_lengths, .ref q_t_limbs])), (q_t_signs, .inl (cA, n_t_signs, .inl a_t_signs)), (q_t_lengths, .inl (cA, n_t_lengths, .inl a_t_lengths)), (q_t_limbs, .inl (cA, n_t_limbs, .inl a_t_limbs))] (va_A [(q_t, .inr (0, [.int t_room, .ref q_t_signs, .ref q_t_lengths, .ref q_t_limbs])), (q_t_signs, .inl (cA, n_t_signs, .inl a_t_signs)), (q_t_lengths, .inl (cA, n_t_lengths, .inl a_t_lengths)), (q_t_limbs, .inl (cA, n_t_limbs, .inl a_t_limbs))] sz) o) 0 0 (va_A [(q_t, .inr (0, [.int t_room, .ref q_t_signs, .ref q_t_lengths, .ref q_t_limbs])), (q_t_signs, .inl (cA, n_t_signs, .inl a_t_signs)), (q_t_lengths, .inl (cA, n_t_lengths, .inl a_t_lengths)), (q_t_limbs, .inl (cA, n_t_limbs, .inl a_t_limbs))] sz) := by
  unfold f_N_limbOf at hf
  refine k_ent (Qc := fun A => c_Qi (dC, dI) vwCl [(cA, .int)] [(q_t, .inr (0, [.int t_room, .ref q_t_signs, .ref q_t_lengths, .ref q_t_limbs])), (q_t_signs, .inl (cA, n_t_signs, .inl a_t_signs)), (q_t_lengths, .inl (cA, n_t_lengths, .inl a_t_lengths)), (q_t_limbs, .inl (cA, n_t_limbs, .inl a_t_limbs))] A o) (by decide) rfl (Nat.le_of_ble_eq_true rfl) ?_
  intro p e s m below meth c A hx hb hr hown hts hml hlocks hin hsz hA hK H locs hP hD hS ls hl
  have hown : s.vm.findClass RX0 = some m.cls := hown
  have hl : lv_has ls 3 [(0, .ref q_t), (1, .int slot), (2, .int place)] := hl
  refine lv_aload_n hx hb dX0_limbOf_0 rfl (lv_at hl 0 rfl) ?_
  refine va_get (D := (dC, dI)) (ci := 0) (v := .ref q_t_limbs) (C := RX0) (T := TX0) (N := 4) hx hb hts ki_N_limbOf_X0 hown hK hP 0 rfl rfl 3 (by decide) (hts (.fieldLink RX0 22 "MinorSteps$Numbers" "limbs" "[I") kw_N_limbOf_0) (fun _ h9 => h9) rfl dX0_limbOf_1 ?_
  refine lv_iload_n hx hb dX0_limbOf_4 rfl (lv_at hl 1 rfl) ?_
  refine lv_aload_n hx hb dX0_limbOf_5 rfl (lv_at hl 0 rfl) ?_
  refine va_get (D := (dC, dI)) (ci := 0) (v := .int t_room) (C := RX0) (T := TX0) (N := 4) hx hb hts ki_N_limbOf_X0 hown hK hP 0 rfl rfl 0 (by decide) (hts (.fieldLink RX0 9 "MinorSteps$Numbers" "room" "I") kw_N_limbOf_1) (fun _ h9 => h9) rfl dX0_limbOf_6 ?_
  refine lv_imul hx hb dX0_limbOf_9 ?_
  refine lv_iload_n hx hb dX0_limbOf_10 rfl (lv_at hl 2 rfl) ?_
  refine lv_iadd hx hb dX0_limbOf_11 ?_
  obtain ⟨g1, hf⟩ := og_c hf
  refine va_iald hx hb hK hP 3 0 rfl rfl (og_in g1) dX0_limbOf_12 ?_
  have e9 := Option.some.inj hf
  subst e9
  exact kr_i hx hb hr hlocks hK hS (hP.sub [0, 1, 2, 3] rfl) (hD.sub [0, 1, 2, 3] (by decide) rfl) dX0_limbOf_13
def rm_N_putLimb : Room := { frames := 0, cells := 0, slots := 0, locals := 0 }
theorem kw_N_putLimb_0 : (.fieldLink RX0 22 "MinorSteps$Numbers" "limbs" "[I" : Cond) ∈ wsX0_putLimb := by decide +kernel
theorem kw_N_putLimb_1 : (.fieldLink RX0 9 "MinorSteps$Numbers" "room" "I" : Cond) ∈ wsX0_putLimb := by decide +kernel
theorem kw_N_putLimb_2 : (.fieldLink RX0 19 "MinorSteps$Numbers" "lengths" "[I" : Cond) ∈ wsX0_putLimb := by decide +kernel
theorem kw_N_putLimb_3 : (.fieldLink RX0 15 "MinorSteps$Numbers" "signs" "[I" : Cond) ∈ wsX0_putLimb := by decide +kernel
theorem ki_N_putLimb_X0 : ∀ w ∈ u_ws RX0 TX0 4, w ∈ wsX0_putLimb := by decide +kernel
set_option maxHeartbeats 4000000 in
set_option maxRecDepth 100000 in
theorem c_N_putLimb (l : Launch) (dC : Nat → ClassId) (dI : Nat → Nat → Nat) (cA : ClassId) (sz : Nat) (q_t : Nat) (q_t_signs : Nat) (q_t_lengths : Nat) (q_t_limbs : Nat) (t_room : Int32) (n_t_signs : Nat) (a_t_signs : Nat → Int32) (n_t_lengths : Nat) (a_t_lengths : Nat → Int32) (n_t_limbs : Nat) (a_t_limbs : Nat → Int32) (slot : Int32) (place : Int32) (word : Int32) (sign : Int32) (o : (Nat → Int32) × (Nat → Int32) × (Nat → Int32)) (hf : f_N_putLimb t_room n_t_signs a_t_signs n_t_lengths a_t_lengths n_t_limbs a_t_limbs slot place word sign = some o) : Met l yX0_putLimb wsX0_putLimb rm_N_putLimb (c_Pre (dC, dI) vwCl [(cA, .int)] [(q_t, .inr (0, [.int t_room, .ref q_t_signs, .ref q_t_lengths, .ref q_t_limbs])), (q_t_signs, .inl (cA, n_t_signs, .inl a_t_signs)), (q_t_lengths, .inl (cA, n_t_lengths, .inl a_t_lengths)), (q_t_limbs, .inl (cA, n_t_limbs, .inl a_t_limbs))] sz [.ref q_t, .int slot, .int place, .int word, .int sign]) (c_Qv (dC, dI) vwCl [(cA, .int)] [(q_t, .inr (0, [.int t_room, .ref q_t_signs, .ref q_t_lengths, .ref q_t_limbs])), (q_t_signs, .inl (cA, n_t_signs, .inl o.1)), (q_t_lengths, .inl (cA, n_t_lengths, .inl o.2.1)), (q_t_limbs, .inl (cA, n_t_limbs, .inl o.2.2))] (va_A [(q_t, .inr (0, [.int t_room, .ref q_t_signs, .ref q_t_lengths, .ref q_t_limbs])), (q_t_signs, .inl (cA, n_t_signs, .inl a_t_signs)), (q_t_lengths, .inl (cA, n_t_lengths, .inl a_t_lengths)), (q_t_limbs, .inl (cA, n_t_limbs, .inl a_t_limbs))] sz)) 0 0 (va_A [(q_t, .inr (0, [.int t_room, .ref q_t_signs, .ref q_t_lengths, .ref q_t_limbs])), (q_t_signs, .inl (cA, n_t_signs, .inl a_t_signs)), (q_t_lengths, .inl (cA, n_t_lengths, .inl a_t_lengths)), (q_t_limbs, .inl (cA, n_t_limbs, .inl a_t_limbs))] sz) := by
  unfold f_N_putLimb at hf
  refine k_ent (Qc := fun A => c_Qv (dC, dI) vwCl [(cA, .int)] [(q_t, .inr (0, [.int t_room, .ref q_t_signs, .ref q_t_lengths, .ref q_t_limbs])), (q_t_signs, .inl (cA, n_t_signs, .inl o.1)), (q_t_lengths, .inl (cA, n_t_lengths, .inl o.2.1)), (q_t_limbs, .inl (cA, n_t_limbs, .inl o.2.2))] A) (by decide) rfl (Nat.le_of_ble_eq_true rfl) ?_
  intro p e s m below meth c A hx hb hr hown hts hml hlocks hin hsz hA hK H locs hP hD hS ls hl
  have hown : s.vm.findClass RX0 = some m.cls := hown
  have hl : lv_has ls 5 [(0, .ref q_t), (1, .int slot), (2, .int place), (3, .int word), (4, .int sign)] := hl
  refine lv_aload_n hx hb dX0_putLimb_0 rfl (lv_at hl 0 rfl) ?_
  refine va_get (D := (dC, dI)) (ci := 0) (v := .ref q_t_limbs) (C := RX0) (T := TX0) (N := 4) hx hb hts ki_N_putLimb_X0 hown hK hP 0 rfl rfl 3 (by decide) (hts (.fieldLink RX0 22 "MinorSteps$Numbers" "limbs" "[I") kw_N_putLimb_0) (fun _ h9 => h9) rfl dX0_putLimb_1 ?_
  refine lv_iload_n hx hb dX0_putLimb_4 rfl (lv_at hl 1 rfl) ?_
  refine lv_aload_n hx hb dX0_putLimb_5 rfl (lv_at hl 0 rfl) ?_
  refine va_get (D := (dC, dI)) (ci := 0) (v := .int t_room) (C := RX0) (T := TX0) (N := 4) hx hb hts ki_N_putLimb_X0 hown hK hP 0 rfl rfl 0 (by decide) (hts (.fieldLink RX0 9 "MinorSteps$Numbers" "room" "I") kw_N_putLimb_1) (fun _ h9 => h9) rfl dX0_putLimb_6 ?_
  refine lv_imul hx hb dX0_putLimb_9 ?_
  refine lv_iload_n hx hb dX0_putLimb_10 rfl (lv_at hl 2 rfl) ?_
  refine lv_iadd hx hb dX0_putLimb_11 ?_
  refine lv_iload_n hx hb dX0_putLimb_12 rfl (lv_at hl 3 rfl) ?_
  obtain ⟨g1, hf⟩ := og_c hf
  refine va_iast hx hb hK hP hD hS 3 0 rfl rfl (og_in g1) dX0_putLimb_13 (fun H locs hP hD hS => ?_)
  have hP : va_P (dC, dI) vwCl [(q_t, .inr (0, [.int t_room, .ref q_t_signs, .ref q_t_lengths, .ref q_t_limbs])), (q_t_signs, .inl (cA, n_t_signs, .inl a_t_signs)), (q_t_lengths, .inl (cA, n_t_lengths, .inl a_t_lengths)), (q_t_limbs, .inl (cA, n_t_limbs, .inl (upd a_t_limbs ((slot * t_room) + place).toNatClampNeg word)))] H := hP
  have hD : va_D A [(q_t, .inr (0, [.int t_room, .ref q_t_signs, .ref q_t_lengths, .ref q_t_limbs])), (q_t_signs, .inl (cA, n_t_signs, .inl a_t_signs)), (q_t_lengths, .inl (cA, n_t_lengths, .inl a_t_lengths)), (q_t_limbs, .inl (cA, n_t_limbs, .inl (upd a_t_limbs ((slot * t_room) + place).toNatClampNeg word)))] := hD
  refine lv_iload_n hx hb dX0_putLimb_14 rfl (lv_at hl 3 rfl) ?_
  refine lv_if_eq (tgt := 35) hx hb dX0_putLimb_15 (by decide) (fun c2 => ?_) (fun c2 => ?_)
  · have hf := og_t c2 hf
    have e9 := Option.some.inj hf
    subst e9
    exact kr_v hx hb hr hlocks hK hS (hP.sub [0, 1, 2, 3] rfl) (hD.sub [0, 1, 2, 3] (by decide) rfl) dX0_putLimb_35
  · have hf := og_f c2 hf
    refine lv_aload_n hx hb dX0_putLimb_18 rfl (lv_at hl 0 rfl) ?_
    refine va_get (D := (dC, dI)) (ci := 0) (v := .ref q_t_lengths) (C := RX0) (T := TX0) (N := 4) hx hb hts ki_N_putLimb_X0 hown hK hP 0 rfl rfl 2 (by decide) (hts (.fieldLink RX0 19 "MinorSteps$Numbers" "lengths" "[I") kw_N_putLimb_2) (fun _ h9 => h9) rfl dX0_putLimb_19 ?_
    refine lv_iload_n hx hb dX0_putLimb_22 rfl (lv_at hl 1 rfl) ?_
    refine lv_iload_n hx hb dX0_putLimb_23 rfl (lv_at hl 2 rfl) ?_
    refine lv_iconst (v := 1) hx hb dX0_putLimb_24 (by decide) ?_
    refine lv_iadd hx hb dX0_putLimb_25 ?_
    obtain ⟨g3, hf⟩ := og_c hf
    refine va_iast hx hb hK hP hD hS 2 0 rfl rfl (og_in g3) dX0_putLimb_26 (fun H locs hP hD hS => ?_)
    have hP : va_P (dC, dI) vwCl [(q_t, .inr (0, [.int t_room, .ref q_t_signs, .ref q_t_lengths, .ref q_t_limbs])), (q_t_signs, .inl (cA, n_t_signs, .inl a_t_signs)), (q_t_lengths, .inl (cA, n_t_lengths, .inl (upd a_t_lengths slot.toNatClampNeg (place + 1)))), (q_t_limbs, .inl (cA, n_t_limbs, .inl (upd a_t_limbs ((slot * t_room) + place).toNatClampNeg word)))] H := hP
    have hD : va_D A [(q_t, .inr (0, [.int t_room, .ref q_t_signs, .ref q_t_lengths, .ref q_t_limbs])), (q_t_signs, .inl (cA, n_t_signs, .inl a_t_signs)), (q_t_lengths, .inl (cA, n_t_lengths, .inl (upd a_t_lengths slot.toNatClampNeg (place + 1)))), (q_t_limbs, .inl (cA, n_t_limbs, .inl (upd a_t_limbs ((slot * t_room) + place).toNatClampNeg word)))] := hD
    refine lv_aload_n hx hb dX0_putLimb_27 rfl (lv_at hl 0 rfl) ?_
    refine va_get (D := (dC, dI)) (ci := 0) (v := .ref q_t_signs) (C := RX0) (T := TX0) (N := 4) hx hb hts ki_N_putLimb_X0 hown hK hP 0 rfl rfl 1 (by decide) (hts (.fieldLink RX0 15 "MinorSteps$Numbers" "signs" "[I") kw_N_putLimb_3) (fun _ h9 => h9) rfl dX0_putLimb_28 ?_
    refine lv_iload_n hx hb dX0_putLimb_31 rfl (lv_at hl 1 rfl) ?_
    refine lv_iload hx hb dX0_putLimb_32 (lv_at hl 4 rfl) ?_
    obtain ⟨g4, hf⟩ := og_c hf
    refine va_iast hx hb hK hP hD hS 1 0 rfl rfl (og_in g4) dX0_putLimb_34 (fun H locs hP hD hS => ?_)
    have hP : va_P (dC, dI) vwCl [(q_t, .inr (0, [.int t_room, .ref q_t_signs, .ref q_t_lengths, .ref q_t_limbs])), (q_t_signs, .inl (cA, n_t_signs, .inl (upd a_t_signs slot.toNatClampNeg sign))), (q_t_lengths, .inl (cA, n_t_lengths, .inl (upd a_t_lengths slot.toNatClampNeg (place + 1)))), (q_t_limbs, .inl (cA, n_t_limbs, .inl (upd a_t_limbs ((slot * t_room) + place).toNatClampNeg word)))] H := hP
    have hD : va_D A [(q_t, .inr (0, [.int t_room, .ref q_t_signs, .ref q_t_lengths, .ref q_t_limbs])), (q_t_signs, .inl (cA, n_t_signs, .inl (upd a_t_signs slot.toNatClampNeg sign))), (q_t_lengths, .inl (cA, n_t_lengths, .inl (upd a_t_lengths slot.toNatClampNeg (place + 1)))), (q_t_limbs, .inl (cA, n_t_limbs, .inl (upd a_t_limbs ((slot * t_room) + place).toNatClampNeg word)))] := hD
    have e9 := Option.some.inj hf
    subst e9
    exact kr_v hx hb hr hlocks hK hS (hP.sub [0, 1, 2, 3] rfl) (hD.sub [0, 1, 2, 3] (by decide) rfl) dX0_putLimb_35
def rm_N_put : Room := { frames := 1, cells := 0, slots := 0, locals := 60 }
theorem kw_N_put_0 : (.fieldLink RX0 22 "MinorSteps$Numbers" "limbs" "[I" : Cond) ∈ wsX0_put := by decide +kernel
theorem kw_N_put_1 : (.fieldLink RX0 9 "MinorSteps$Numbers" "room" "I" : Cond) ∈ wsX0_put := by decide +kernel
theorem kw_N_put_2 : (.methodLink RX0 31 arraycopyName : Cond) ∈ wsX0_put := by decide +kernel
theorem kw_N_put_3 : (.native arraycopyName : Cond) ∈ wsX0_put := by decide +kernel
theorem kw_N_put_4 : (.static arraycopyName : Cond) ∈ wsX0_put := by decide +kernel
theorem kw_N_put_5 : (.initialized "java/lang/System" : Cond) ∈ wsX0_put := by decide +kernel
theorem kw_N_put_6 : (.fieldLink RX0 19 "MinorSteps$Numbers" "lengths" "[I" : Cond) ∈ wsX0_put := by decide +kernel
theorem kw_N_put_7 : (.fieldLink RX0 15 "MinorSteps$Numbers" "signs" "[I" : Cond) ∈ wsX0_put := by decide +kernel
theorem ki_N_put_X0 : ∀ w ∈ u_ws RX0 TX0 4, w ∈ wsX0_put := by decide +kernel
set_option maxHeartbeats 4000000 in
set_option maxRecDepth 100000 in
theorem c_N_put (l : Launch) (dC : Nat → ClassId) (dI : Nat → Nat → Nat) (cA : ClassId) (sz : Nat) (q_t : Nat) (q_t_signs : Nat) (q_t_lengths : Nat) (q_t_limbs : Nat) (q_row : Nat) (t_room : Int32) (n_t_signs : Nat) (a_t_signs : Nat → Int32) (n_t_lengths : Nat) (a_t_lengths : Nat → Int32) (n_t_limbs : Nat) (a_t_limbs : Nat → Int32) (slot : Int32) (n_row : Nat) (a_row : Nat → Int32) (len : Int32) (sign : Int32) (o : (Nat → Int32) × (Nat → Int32) × (Nat → Int32)) (hf : f_N_put t_room n_t_signs a_t_signs n_t_lengths a_t_lengths n_t_limbs a_t_limbs slot n_row a_row len sign = some o) : Met l yX0_put wsX0_put rm_N_put (c_Pre (dC, dI) vwCl [(cA, .int)] [(q_t, .inr (0, [.int t_room, .ref q_t_signs, .ref q_t_lengths, .ref q_t_limbs])), (q_t_signs, .inl (cA, n_t_signs, .inl a_t_signs)), (q_t_lengths, .inl (cA, n_t_lengths, .inl a_t_lengths)), (q_t_limbs, .inl (cA, n_t_limbs, .inl a_t_limbs)), (q_row, .inl (cA, n_row, .inl a_row))] sz [.ref q_t, .int slot, .ref q_row, .int len, .int sign]) (c_Qv (dC, dI) vwCl [(cA, .int)] [(q_t, .inr (0, [.int t_room, .ref q_t_signs, .ref q_t_lengths, .ref q_t_limbs])), (q_t_signs, .inl (cA, n_t_signs, .inl o.1)), (q_t_lengths, .inl (cA, n_t_lengths, .inl o.2.1)), (q_t_limbs, .inl (cA, n_t_limbs, .inl o.2.2)), (q_row, .inl (cA, n_row, .inl a_row))] (va_A [(q_t, .inr (0, [.int t_room, .ref q_t_signs, .ref q_t_lengths, .ref q_t_limbs])), (q_t_signs, .inl (cA, n_t_signs, .inl a_t_signs)), (q_t_lengths, .inl (cA, n_t_lengths, .inl a_t_lengths)), (q_t_limbs, .inl (cA, n_t_limbs, .inl a_t_limbs)), (q_row, .inl (cA, n_row, .inl a_row))] sz)) 0 0 (va_A [(q_t, .inr (0, [.int t_room, .ref q_t_signs, .ref q_t_lengths, .ref q_t_limbs])), (q_t_signs, .inl (cA, n_t_signs, .inl a_t_signs)), (q_t_lengths, .inl (cA, n_t_lengths, .inl a_t_lengths)), (q_t_limbs, .inl (cA, n_t_limbs, .inl a_t_limbs)), (q_row, .inl (cA, n_row, .inl a_row))] sz) := by
  unfold f_N_put at hf
  refine k_ent (Qc := fun A => c_Qv (dC, dI) vwCl [(cA, .int)] [(q_t, .inr (0, [.int t_room, .ref q_t_signs, .ref q_t_lengths, .ref q_t_limbs])), (q_t_signs, .inl (cA, n_t_signs, .inl o.1)), (q_t_lengths, .inl (cA, n_t_lengths, .inl o.2.1)), (q_t_limbs, .inl (cA, n_t_limbs, .inl o.2.2)), (q_row, .inl (cA, n_row, .inl a_row))] A) (by decide) rfl (Nat.le_of_ble_eq_true rfl) ?_
  intro p e s m below meth c A hx hb hr hown hts hml hlocks hin hsz hA hK H locs hP hD hS ls hl
  have hown : s.vm.findClass RX0 = some m.cls := hown
  have hl : lv_has ls 5 [(0, .ref q_t), (1, .int slot), (2, .ref q_row), (3, .int len), (4, .int sign)] := hl
  refine lv_aload_n hx hb dX0_put_0 rfl (lv_at hl 2 rfl) ?_
  refine lv_iconst (v := 0) hx hb dX0_put_1 (by decide) ?_
  refine lv_aload_n hx hb dX0_put_2 rfl (lv_at hl 0 rfl) ?_
  refine va_get (D := (dC, dI)) (ci := 0) (v := .ref q_t_limbs) (C := RX0) (T := TX0) (N := 4) hx hb hts ki_N_put_X0 hown hK hP 0 rfl rfl 3 (by decide) (hts (.fieldLink RX0 22 "MinorSteps$Numbers" "limbs" "[I") kw_N_put_0) (fun _ h9 => h9) rfl dX0_put_3 ?_
  refine lv_iload_n hx hb dX0_put_6 rfl (lv_at hl 1 rfl) ?_
  refine lv_aload_n hx hb dX0_put_7 rfl (lv_at hl 0 rfl) ?_
  refine va_get (D := (dC, dI)) (ci := 0) (v := .int t_room) (C := RX0) (T := TX0) (N := 4) hx hb hts ki_N_put_X0 hown hK hP 0 rfl rfl 0 (by decide) (hts (.fieldLink RX0 9 "MinorSteps$Numbers" "room" "I") kw_N_put_1) (fun _ h9 => h9) rfl dX0_put_8 ?_
  refine lv_imul hx hb dX0_put_11 ?_
  refine lv_iload_n hx hb dX0_put_12 rfl (lv_at hl 3 rfl) ?_
  obtain ⟨g1, hf⟩ := og_c hf
  refine va_copyi (ty := .int) hx hb (hml.trans hl.1.symm) hown (hts (.methodLink RX0 31 arraycopyName) kw_N_put_2) (hts (.native arraycopyName) kw_N_put_3) (hts (.static arraycopyName) kw_N_put_4) (hts (.initialized "java/lang/System") kw_N_put_5) hK hP hD hS 4 3 0 0 rfl rfl rfl rfl rfl (og_cp g1).1 (og_cp g1).2.1 (og_cp g1).2.2.1 (og_cp g1).2.2.2.1 (og_cp g1).2.2.2.2 (fun _ _ => rfl) (Nat.le_of_ble_eq_true rfl) (Nat.le_of_ble_eq_true rfl) dX0_put_13 (fun H locs hP hD hS => ?_)
  have hP : va_P (dC, dI) vwCl [(q_t, .inr (0, [.int t_room, .ref q_t_signs, .ref q_t_lengths, .ref q_t_limbs])), (q_t_signs, .inl (cA, n_t_signs, .inl a_t_signs)), (q_t_lengths, .inl (cA, n_t_lengths, .inl a_t_lengths)), (q_t_limbs, .inl (cA, n_t_limbs, .inl (va_cpy a_row a_t_limbs (0 : Int32).toNatClampNeg (slot * t_room).toNatClampNeg len.toNatClampNeg))), (q_row, .inl (cA, n_row, .inl a_row))] H := hP
  have hD : va_D A [(q_t, .inr (0, [.int t_room, .ref q_t_signs, .ref q_t_lengths, .ref q_t_limbs])), (q_t_signs, .inl (cA, n_t_signs, .inl a_t_signs)), (q_t_lengths, .inl (cA, n_t_lengths, .inl a_t_lengths)), (q_t_limbs, .inl (cA, n_t_limbs, .inl (va_cpy a_row a_t_limbs (0 : Int32).toNatClampNeg (slot * t_room).toNatClampNeg len.toNatClampNeg))), (q_row, .inl (cA, n_row, .inl a_row))] := hD
  refine lv_aload_n hx hb dX0_put_16 rfl (lv_at hl 0 rfl) ?_
  refine va_get (D := (dC, dI)) (ci := 0) (v := .ref q_t_lengths) (C := RX0) (T := TX0) (N := 4) hx hb hts ki_N_put_X0 hown hK hP 0 rfl rfl 2 (by decide) (hts (.fieldLink RX0 19 "MinorSteps$Numbers" "lengths" "[I") kw_N_put_6) (fun _ h9 => h9) rfl dX0_put_17 ?_
  refine lv_iload_n hx hb dX0_put_20 rfl (lv_at hl 1 rfl) ?_
  refine lv_iload_n hx hb dX0_put_21 rfl (lv_at hl 3 rfl) ?_
  obtain ⟨g2, hf⟩ := og_c hf
  refine va_iast hx hb hK hP hD hS 2 0 rfl rfl (og_in g2) dX0_put_22 (fun H locs hP hD hS => ?_)
  have hP : va_P (dC, dI) vwCl [(q_t, .inr (0, [.int t_room, .ref q_t_signs, .ref q_t_lengths, .ref q_t_limbs])), (q_t_signs, .inl (cA, n_t_signs, .inl a_t_signs)), (q_t_lengths, .inl (cA, n_t_lengths, .inl (upd a_t_lengths slot.toNatClampNeg len))), (q_t_limbs, .inl (cA, n_t_limbs, .inl (va_cpy a_row a_t_limbs (0 : Int32).toNatClampNeg (slot * t_room).toNatClampNeg len.toNatClampNeg))), (q_row, .inl (cA, n_row, .inl a_row))] H := hP
  have hD : va_D A [(q_t, .inr (0, [.int t_room, .ref q_t_signs, .ref q_t_lengths, .ref q_t_limbs])), (q_t_signs, .inl (cA, n_t_signs, .inl a_t_signs)), (q_t_lengths, .inl (cA, n_t_lengths, .inl (upd a_t_lengths slot.toNatClampNeg len))), (q_t_limbs, .inl (cA, n_t_limbs, .inl (va_cpy a_row a_t_limbs (0 : Int32).toNatClampNeg (slot * t_room).toNatClampNeg len.toNatClampNeg))), (q_row, .inl (cA, n_row, .inl a_row))] := hD
  refine lv_aload_n hx hb dX0_put_23 rfl (lv_at hl 0 rfl) ?_
  refine va_get (D := (dC, dI)) (ci := 0) (v := .ref q_t_signs) (C := RX0) (T := TX0) (N := 4) hx hb hts ki_N_put_X0 hown hK hP 0 rfl rfl 1 (by decide) (hts (.fieldLink RX0 15 "MinorSteps$Numbers" "signs" "[I") kw_N_put_7) (fun _ h9 => h9) rfl dX0_put_24 ?_
  refine lv_iload_n hx hb dX0_put_27 rfl (lv_at hl 1 rfl) ?_
  refine lv_iload hx hb dX0_put_28 (lv_at hl 4 rfl) ?_
  obtain ⟨g3, hf⟩ := og_c hf
  refine va_iast hx hb hK hP hD hS 1 0 rfl rfl (og_in g3) dX0_put_30 (fun H locs hP hD hS => ?_)
  have hP : va_P (dC, dI) vwCl [(q_t, .inr (0, [.int t_room, .ref q_t_signs, .ref q_t_lengths, .ref q_t_limbs])), (q_t_signs, .inl (cA, n_t_signs, .inl (upd a_t_signs slot.toNatClampNeg sign))), (q_t_lengths, .inl (cA, n_t_lengths, .inl (upd a_t_lengths slot.toNatClampNeg len))), (q_t_limbs, .inl (cA, n_t_limbs, .inl (va_cpy a_row a_t_limbs (0 : Int32).toNatClampNeg (slot * t_room).toNatClampNeg len.toNatClampNeg))), (q_row, .inl (cA, n_row, .inl a_row))] H := hP
  have hD : va_D A [(q_t, .inr (0, [.int t_room, .ref q_t_signs, .ref q_t_lengths, .ref q_t_limbs])), (q_t_signs, .inl (cA, n_t_signs, .inl (upd a_t_signs slot.toNatClampNeg sign))), (q_t_lengths, .inl (cA, n_t_lengths, .inl (upd a_t_lengths slot.toNatClampNeg len))), (q_t_limbs, .inl (cA, n_t_limbs, .inl (va_cpy a_row a_t_limbs (0 : Int32).toNatClampNeg (slot * t_room).toNatClampNeg len.toNatClampNeg))), (q_row, .inl (cA, n_row, .inl a_row))] := hD
  have e9 := Option.some.inj hf
  subst e9
  exact kr_v hx hb hr hlocks hK hS (hP.sub [0, 1, 2, 3, 4] rfl) (hD.sub [0, 1, 2, 3, 4] (by decide) rfl) dX0_put_31
def rm_N_copy : Room := { frames := 1, cells := 0, slots := 0, locals := 60 }
theorem kw_N_copy_0 : (.fieldLink RX0 22 "MinorSteps$Numbers" "limbs" "[I" : Cond) ∈ wsX0_copy := by decide +kernel
theorem kw_N_copy_1 : (.fieldLink RX0 9 "MinorSteps$Numbers" "room" "I" : Cond) ∈ wsX0_copy := by decide +kernel
theorem kw_N_copy_2 : (.fieldLink RX0 19 "MinorSteps$Numbers" "lengths" "[I" : Cond) ∈ wsX0_copy := by decide +kernel
theorem kw_N_copy_3 : (.methodLink RX0 31 arraycopyName : Cond) ∈ wsX0_copy := by decide +kernel
theorem kw_N_copy_4 : (.native arraycopyName : Cond) ∈ wsX0_copy := by decide +kernel
theorem kw_N_copy_5 : (.static arraycopyName : Cond) ∈ wsX0_copy := by decide +kernel
theorem kw_N_copy_6 : (.initialized "java/lang/System" : Cond) ∈ wsX0_copy := by decide +kernel
theorem kw_N_copy_7 : (.fieldLink RX0 15 "MinorSteps$Numbers" "signs" "[I" : Cond) ∈ wsX0_copy := by decide +kernel
theorem ki_N_copy_X0 : ∀ w ∈ u_ws RX0 TX0 4, w ∈ wsX0_copy := by decide +kernel
set_option maxHeartbeats 4000000 in
set_option maxRecDepth 100000 in
theorem c_N_copy (l : Launch) (dC : Nat → ClassId) (dI : Nat → Nat → Nat) (cA : ClassId) (sz : Nat) (q_t : Nat) (q_t_signs : Nat) (q_t_lengths : Nat) (q_t_limbs : Nat) (q_u : Nat) (q_u_signs : Nat) (q_u_lengths : Nat) (q_u_limbs : Nat) (t_room : Int32) (n_t_signs : Nat) (a_t_signs : Nat → Int32) (n_t_lengths : Nat) (a_t_lengths : Nat → Int32) (n_t_limbs : Nat) (a_t_limbs : Nat → Int32) (slot : Int32) (u_room : Int32) (n_u_signs : Nat) (a_u_signs : Nat → Int32) (n_u_lengths : Nat) (a_u_lengths : Nat → Int32) (n_u_limbs : Nat) (a_u_limbs : Nat → Int32) (fromSlot : Int32) (o : (Nat → Int32) × (Nat → Int32) × (Nat → Int32)) (hf : f_N_copy t_room n_t_signs a_t_signs n_t_lengths a_t_lengths n_t_limbs a_t_limbs slot n_u_signs a_u_signs n_u_lengths a_u_lengths n_u_limbs a_u_limbs fromSlot = some o) : Met l yX0_copy wsX0_copy rm_N_copy (c_Pre (dC, dI) vwCl [(cA, .int)] [(q_t, .inr (0, [.int t_room, .ref q_t_signs, .ref q_t_lengths, .ref q_t_limbs])), (q_t_signs, .inl (cA, n_t_signs, .inl a_t_signs)), (q_t_lengths, .inl (cA, n_t_lengths, .inl a_t_lengths)), (q_t_limbs, .inl (cA, n_t_limbs, .inl a_t_limbs)), (q_u, .inr (0, [.int u_room, .ref q_u_signs, .ref q_u_lengths, .ref q_u_limbs])), (q_u_signs, .inl (cA, n_u_signs, .inl a_u_signs)), (q_u_lengths, .inl (cA, n_u_lengths, .inl a_u_lengths)), (q_u_limbs, .inl (cA, n_u_limbs, .inl a_u_limbs))] sz [.ref q_t, .int slot, .ref q_u, .int fromSlot]) (c_Qv (dC, dI) vwCl [(cA, .int)] [(q_t, .inr (0, [.int t_room, .ref q_t_signs, .ref q_t_lengths, .ref q_t_limbs])), (q_t_signs, .inl (cA, n_t_signs, .inl o.1)), (q_t_lengths, .inl (cA, n_t_lengths, .inl o.2.1)), (q_t_limbs, .inl (cA, n_t_limbs, .inl o.2.2)), (q_u, .inr (0, [.int u_room, .ref q_u_signs, .ref q_u_lengths, .ref q_u_limbs])), (q_u_signs, .inl (cA, n_u_signs, .inl a_u_signs)), (q_u_lengths, .inl (cA, n_u_lengths, .inl a_u_lengths)), (q_u_limbs, .inl (cA, n_u_limbs, .inl a_u_limbs))] (va_A [(q_t, .inr (0, [.int t_room, .ref q_t_signs, .ref q_t_lengths, .ref q_t_limbs])), (q_t_signs, .inl (cA, n_t_signs, .inl a_t_signs)), (q_t_lengths, .inl (cA, n_t_lengths, .inl a_t_lengths)), (q_t_limbs, .inl (cA, n_t_limbs, .inl a_t_limbs)), (q_u, .inr (0, [.int u_room, .ref q_u_signs, .ref q_u_lengths, .ref q_u_limbs])), (q_u_signs, .inl (cA, n_u_signs, .inl a_u_signs)), (q_u_lengths, .inl (cA, n_u_lengths, .inl a_u_lengths)), (q_u_limbs, .inl (cA, n_u_limbs, .inl a_u_limbs))] sz)) 0 0 (va_A [(q_t, .inr (0, [.int t_room, .ref q_t_signs, .ref q_t_lengths, .ref q_t_limbs])), (q_t_signs, .inl (cA, n_t_signs, .inl a_t_signs)), (q_t_lengths, .inl (cA, n_t_lengths, .inl a_t_lengths)), (q_t_limbs, .inl (cA, n_t_limbs, .inl a_t_limbs)), (q_u, .inr (0, [.int u_room, .ref q_u_signs, .ref q_u_lengths, .ref q_u_limbs])), (q_u_signs, .inl (cA, n_u_signs, .inl a_u_signs)), (q_u_lengths, .inl (cA, n_u_lengths, .inl a_u_lengths)), (q_u_limbs, .inl (cA, n_u_limbs, .inl a_u_limbs))] sz) := by
  unfold f_N_copy at hf
  refine k_ent (Qc := fun A => c_Qv (dC, dI) vwCl [(cA, .int)] [(q_t, .inr (0, [.int t_room, .ref q_t_signs, .ref q_t_lengths, .ref q_t_limbs])), (q_t_signs, .inl (cA, n_t_signs, .inl o.1)), (q_t_lengths, .inl (cA, n_t_lengths, .inl o.2.1)), (q_t_limbs, .inl (cA, n_t_limbs, .inl o.2.2)), (q_u, .inr (0, [.int u_room, .ref q_u_signs, .ref q_u_lengths, .ref q_u_limbs])), (q_u_signs, .inl (cA, n_u_signs, .inl a_u_signs)), (q_u_lengths, .inl (cA, n_u_lengths, .inl a_u_lengths)), (q_u_limbs, .inl (cA, n_u_limbs, .inl a_u_limbs))] A) (by decide) rfl (Nat.le_of_ble_eq_true rfl) ?_
  intro p e s m below meth c A hx hb hr hown hts hml hlocks hin hsz hA hK H locs hP hD hS ls hl
  have hown : s.vm.findClass RX0 = some m.cls := hown
  have hl : lv_has ls 4 [(0, .ref q_t), (1, .int slot), (2, .ref q_u), (3, .int fromSlot)] := hl
  refine lv_aload_n hx hb dX0_copy_0 rfl (lv_at hl 2 rfl) ?_
  refine va_get (D := (dC, dI)) (ci := 0) (v := .ref q_u_limbs) (C := RX0) (T := TX0) (N := 4) hx hb hts ki_N_copy_X0 hown hK hP 4 rfl rfl 3 (by decide) (hts (.fieldLink RX0 22 "MinorSteps$Numbers" "limbs" "[I") kw_N_copy_0) (fun _ h9 => h9) rfl dX0_copy_1 ?_
  refine lv_iload_n hx hb dX0_copy_4 rfl (lv_at hl 3 rfl) ?_
  refine lv_aload_n hx hb dX0_copy_5 rfl (lv_at hl 0 rfl) ?_
  refine va_get (D := (dC, dI)) (ci := 0) (v := .int t_room) (C := RX0) (T := TX0) (N := 4) hx hb hts ki_N_copy_X0 hown hK hP 0 rfl rfl 0 (by decide) (hts (.fieldLink RX0 9 "MinorSteps$Numbers" "room" "I") kw_N_copy_1) (fun _ h9 => h9) rfl dX0_copy_6 ?_
  refine lv_imul hx hb dX0_copy_9 ?_
  refine lv_aload_n hx hb dX0_copy_10 rfl (lv_at hl 0 rfl) ?_
  refine va_get (D := (dC, dI)) (ci := 0) (v := .ref q_t_limbs) (C := RX0) (T := TX0) (N := 4) hx hb hts ki_N_copy_X0 hown hK hP 0 rfl rfl 3 (by decide) (hts (.fieldLink RX0 22 "MinorSteps$Numbers" "limbs" "[I") kw_N_copy_0) (fun _ h9 => h9) rfl dX0_copy_11 ?_
  refine lv_iload_n hx hb dX0_copy_14 rfl (lv_at hl 1 rfl) ?_
  refine lv_aload_n hx hb dX0_copy_15 rfl (lv_at hl 0 rfl) ?_
  refine va_get (D := (dC, dI)) (ci := 0) (v := .int t_room) (C := RX0) (T := TX0) (N := 4) hx hb hts ki_N_copy_X0 hown hK hP 0 rfl rfl 0 (by decide) (hts (.fieldLink RX0 9 "MinorSteps$Numbers" "room" "I") kw_N_copy_1) (fun _ h9 => h9) rfl dX0_copy_16 ?_
  refine lv_imul hx hb dX0_copy_19 ?_
  refine lv_aload_n hx hb dX0_copy_20 rfl (lv_at hl 2 rfl) ?_
  refine va_get (D := (dC, dI)) (ci := 0) (v := .ref q_u_lengths) (C := RX0) (T := TX0) (N := 4) hx hb hts ki_N_copy_X0 hown hK hP 4 rfl rfl 2 (by decide) (hts (.fieldLink RX0 19 "MinorSteps$Numbers" "lengths" "[I") kw_N_copy_2) (fun _ h9 => h9) rfl dX0_copy_21 ?_
  refine lv_iload_n hx hb dX0_copy_24 rfl (lv_at hl 3 rfl) ?_
  obtain ⟨g1, hf⟩ := og_c hf
  refine va_iald hx hb hK hP 6 0 rfl rfl (og_in g1) dX0_copy_25 ?_
  obtain ⟨g2, hf⟩ := og_c hf
  refine va_copyi (ty := .int) hx hb (hml.trans hl.1.symm) hown (hts (.methodLink RX0 31 arraycopyName) kw_N_copy_3) (hts (.native arraycopyName) kw_N_copy_4) (hts (.static arraycopyName) kw_N_copy_5) (hts (.initialized "java/lang/System") kw_N_copy_6) hK hP hD hS 7 3 0 0 rfl rfl rfl rfl rfl (og_cp g2).1 (og_cp g2).2.1 (og_cp g2).2.2.1 (og_cp g2).2.2.2.1 (og_cp g2).2.2.2.2 (fun _ _ => rfl) (Nat.le_of_ble_eq_true rfl) (Nat.le_of_ble_eq_true rfl) dX0_copy_26 (fun H locs hP hD hS => ?_)
  have hP : va_P (dC, dI) vwCl [(q_t, .inr (0, [.int t_room, .ref q_t_signs, .ref q_t_lengths, .ref q_t_limbs])), (q_t_signs, .inl (cA, n_t_signs, .inl a_t_signs)), (q_t_lengths, .inl (cA, n_t_lengths, .inl a_t_lengths)), (q_t_limbs, .inl (cA, n_t_limbs, .inl (va_cpy a_u_limbs a_t_limbs (fromSlot * t_room).toNatClampNeg (slot * t_room).toNatClampNeg (a_u_lengths fromSlot.toNatClampNeg).toNatClampNeg))), (q_u, .inr (0, [.int u_room, .ref q_u_signs, .ref q_u_lengths, .ref q_u_limbs])), (q_u_signs, .inl (cA, n_u_signs, .inl a_u_signs)), (q_u_lengths, .inl (cA, n_u_lengths, .inl a_u_lengths)), (q_u_limbs, .inl (cA, n_u_limbs, .inl a_u_limbs))] H := hP
  have hD : va_D A [(q_t, .inr (0, [.int t_room, .ref q_t_signs, .ref q_t_lengths, .ref q_t_limbs])), (q_t_signs, .inl (cA, n_t_signs, .inl a_t_signs)), (q_t_lengths, .inl (cA, n_t_lengths, .inl a_t_lengths)), (q_t_limbs, .inl (cA, n_t_limbs, .inl (va_cpy a_u_limbs a_t_limbs (fromSlot * t_room).toNatClampNeg (slot * t_room).toNatClampNeg (a_u_lengths fromSlot.toNatClampNeg).toNatClampNeg))), (q_u, .inr (0, [.int u_room, .ref q_u_signs, .ref q_u_lengths, .ref q_u_limbs])), (q_u_signs, .inl (cA, n_u_signs, .inl a_u_signs)), (q_u_lengths, .inl (cA, n_u_lengths, .inl a_u_lengths)), (q_u_limbs, .inl (cA, n_u_limbs, .inl a_u_limbs))] := hD
  refine lv_aload_n hx hb dX0_copy_29 rfl (lv_at hl 0 rfl) ?_
  refine va_get (D := (dC, dI)) (ci := 0) (v := .ref q_t_lengths) (C := RX0) (T := TX0) (N := 4) hx hb hts ki_N_copy_X0 hown hK hP 0 rfl rfl 2 (by decide) (hts (.fieldLink RX0 19 "MinorSteps$Numbers" "lengths" "[I") kw_N_copy_2) (fun _ h9 => h9) rfl dX0_copy_30 ?_
  refine lv_iload_n hx hb dX0_copy_33 rfl (lv_at hl 1 rfl) ?_
  refine lv_aload_n hx hb dX0_copy_34 rfl (lv_at hl 2 rfl) ?_
  refine va_get (D := (dC, dI)) (ci := 0) (v := .ref q_u_lengths) (C := RX0) (T := TX0) (N := 4) hx hb hts ki_N_copy_X0 hown hK hP 4 rfl rfl 2 (by decide) (hts (.fieldLink RX0 19 "MinorSteps$Numbers" "lengths" "[I") kw_N_copy_2) (fun _ h9 => h9) rfl dX0_copy_35 ?_
  refine lv_iload_n hx hb dX0_copy_38 rfl (lv_at hl 3 rfl) ?_
  obtain ⟨g3, hf⟩ := og_c hf
  refine va_iald hx hb hK hP 6 0 rfl rfl (og_in g3) dX0_copy_39 ?_
  obtain ⟨g4, hf⟩ := og_c hf
  refine va_iast hx hb hK hP hD hS 2 0 rfl rfl (og_in g4) dX0_copy_40 (fun H locs hP hD hS => ?_)
  have hP : va_P (dC, dI) vwCl [(q_t, .inr (0, [.int t_room, .ref q_t_signs, .ref q_t_lengths, .ref q_t_limbs])), (q_t_signs, .inl (cA, n_t_signs, .inl a_t_signs)), (q_t_lengths, .inl (cA, n_t_lengths, .inl (upd a_t_lengths slot.toNatClampNeg (a_u_lengths fromSlot.toNatClampNeg)))), (q_t_limbs, .inl (cA, n_t_limbs, .inl (va_cpy a_u_limbs a_t_limbs (fromSlot * t_room).toNatClampNeg (slot * t_room).toNatClampNeg (a_u_lengths fromSlot.toNatClampNeg).toNatClampNeg))), (q_u, .inr (0, [.int u_room, .ref q_u_signs, .ref q_u_lengths, .ref q_u_limbs])), (q_u_signs, .inl (cA, n_u_signs, .inl a_u_signs)), (q_u_lengths, .inl (cA, n_u_lengths, .inl a_u_lengths)), (q_u_limbs, .inl (cA, n_u_limbs, .inl a_u_limbs))] H := hP
  have hD : va_D A [(q_t, .inr (0, [.int t_room, .ref q_t_signs, .ref q_t_lengths, .ref q_t_limbs])), (q_t_signs, .inl (cA, n_t_signs, .inl a_t_signs)), (q_t_lengths, .inl (cA, n_t_lengths, .inl (upd a_t_lengths slot.toNatClampNeg (a_u_lengths fromSlot.toNatClampNeg)))), (q_t_limbs, .inl (cA, n_t_limbs, .inl (va_cpy a_u_limbs a_t_limbs (fromSlot * t_room).toNatClampNeg (slot * t_room).toNatClampNeg (a_u_lengths fromSlot.toNatClampNeg).toNatClampNeg))), (q_u, .inr (0, [.int u_room, .ref q_u_signs, .ref q_u_lengths, .ref q_u_limbs])), (q_u_signs, .inl (cA, n_u_signs, .inl a_u_signs)), (q_u_lengths, .inl (cA, n_u_lengths, .inl a_u_lengths)), (q_u_limbs, .inl (cA, n_u_limbs, .inl a_u_limbs))] := hD
  refine lv_aload_n hx hb dX0_copy_41 rfl (lv_at hl 0 rfl) ?_
  refine va_get (D := (dC, dI)) (ci := 0) (v := .ref q_t_signs) (C := RX0) (T := TX0) (N := 4) hx hb hts ki_N_copy_X0 hown hK hP 0 rfl rfl 1 (by decide) (hts (.fieldLink RX0 15 "MinorSteps$Numbers" "signs" "[I") kw_N_copy_7) (fun _ h9 => h9) rfl dX0_copy_42 ?_
  refine lv_iload_n hx hb dX0_copy_45 rfl (lv_at hl 1 rfl) ?_
  refine lv_aload_n hx hb dX0_copy_46 rfl (lv_at hl 2 rfl) ?_
  refine va_get (D := (dC, dI)) (ci := 0) (v := .ref q_u_signs) (C := RX0) (T := TX0) (N := 4) hx hb hts ki_N_copy_X0 hown hK hP 4 rfl rfl 1 (by decide) (hts (.fieldLink RX0 15 "MinorSteps$Numbers" "signs" "[I") kw_N_copy_7) (fun _ h9 => h9) rfl dX0_copy_47 ?_
  refine lv_iload_n hx hb dX0_copy_50 rfl (lv_at hl 3 rfl) ?_
  obtain ⟨g5, hf⟩ := og_c hf
  refine va_iald hx hb hK hP 5 0 rfl rfl (og_in g5) dX0_copy_51 ?_
  obtain ⟨g6, hf⟩ := og_c hf
  refine va_iast hx hb hK hP hD hS 1 0 rfl rfl (og_in g6) dX0_copy_52 (fun H locs hP hD hS => ?_)
  have hP : va_P (dC, dI) vwCl [(q_t, .inr (0, [.int t_room, .ref q_t_signs, .ref q_t_lengths, .ref q_t_limbs])), (q_t_signs, .inl (cA, n_t_signs, .inl (upd a_t_signs slot.toNatClampNeg (a_u_signs fromSlot.toNatClampNeg)))), (q_t_lengths, .inl (cA, n_t_lengths, .inl (upd a_t_lengths slot.toNatClampNeg (a_u_lengths fromSlot.toNatClampNeg)))), (q_t_limbs, .inl (cA, n_t_limbs, .inl (va_cpy a_u_limbs a_t_limbs (fromSlot * t_room).toNatClampNeg (slot * t_room).toNatClampNeg (a_u_lengths fromSlot.toNatClampNeg).toNatClampNeg))), (q_u, .inr (0, [.int u_room, .ref q_u_signs, .ref q_u_lengths, .ref q_u_limbs])), (q_u_signs, .inl (cA, n_u_signs, .inl a_u_signs)), (q_u_lengths, .inl (cA, n_u_lengths, .inl a_u_lengths)), (q_u_limbs, .inl (cA, n_u_limbs, .inl a_u_limbs))] H := hP
  have hD : va_D A [(q_t, .inr (0, [.int t_room, .ref q_t_signs, .ref q_t_lengths, .ref q_t_limbs])), (q_t_signs, .inl (cA, n_t_signs, .inl (upd a_t_signs slot.toNatClampNeg (a_u_signs fromSlot.toNatClampNeg)))), (q_t_lengths, .inl (cA, n_t_lengths, .inl (upd a_t_lengths slot.toNatClampNeg (a_u_lengths fromSlot.toNatClampNeg)))), (q_t_limbs, .inl (cA, n_t_limbs, .inl (va_cpy a_u_limbs a_t_limbs (fromSlot * t_room).toNatClampNeg (slot * t_room).toNatClampNeg (a_u_lengths fromSlot.toNatClampNeg).toNatClampNeg))), (q_u, .inr (0, [.int u_room, .ref q_u_signs, .ref q_u_lengths, .ref q_u_limbs])), (q_u_signs, .inl (cA, n_u_signs, .inl a_u_signs)), (q_u_lengths, .inl (cA, n_u_lengths, .inl a_u_lengths)), (q_u_limbs, .inl (cA, n_u_limbs, .inl a_u_limbs))] := hD
  have e9 := Option.some.inj hf
  subst e9
  exact kr_v hx hb hr hlocks hK hS (hP.sub [0, 1, 2, 3, 4, 5, 6, 7] rfl) (hD.sub [0, 1, 2, 3, 4, 5, 6, 7] (by decide) rfl) dX0_copy_53
def rm_N_negate : Room := { frames := 0, cells := 0, slots := 0, locals := 0 }
theorem kw_N_negate_0 : (.fieldLink RX0 15 "MinorSteps$Numbers" "signs" "[I" : Cond) ∈ wsX0_negate := by decide +kernel
theorem ki_N_negate_X0 : ∀ w ∈ u_ws RX0 TX0 4, w ∈ wsX0_negate := by decide +kernel
set_option maxHeartbeats 4000000 in
set_option maxRecDepth 100000 in
theorem c_N_negate (l : Launch) (dC : Nat → ClassId) (dI : Nat → Nat → Nat) (cA : ClassId) (sz : Nat) (q_t : Nat) (q_t_signs : Nat) (q_t_lengths : Nat) (q_t_limbs : Nat) (t_room : Int32) (n_t_signs : Nat) (a_t_signs : Nat → Int32) (n_t_lengths : Nat) (a_t_lengths : Nat → Int32) (n_t_limbs : Nat) (a_t_limbs : Nat → Int32) (slot : Int32) (o : (Nat → Int32)) (hf : f_N_negate n_t_signs a_t_signs slot = some o) : Met l yX0_negate wsX0_negate rm_N_negate (c_Pre (dC, dI) vwCl [(cA, .int)] [(q_t, .inr (0, [.int t_room, .ref q_t_signs, .ref q_t_lengths, .ref q_t_limbs])), (q_t_signs, .inl (cA, n_t_signs, .inl a_t_signs)), (q_t_lengths, .inl (cA, n_t_lengths, .inl a_t_lengths)), (q_t_limbs, .inl (cA, n_t_limbs, .inl a_t_limbs))] sz [.ref q_t, .int slot]) (c_Qv (dC, dI) vwCl [(cA, .int)] [(q_t, .inr (0, [.int t_room, .ref q_t_signs, .ref q_t_lengths, .ref q_t_limbs])), (q_t_signs, .inl (cA, n_t_signs, .inl o)), (q_t_lengths, .inl (cA, n_t_lengths, .inl a_t_lengths)), (q_t_limbs, .inl (cA, n_t_limbs, .inl a_t_limbs))] (va_A [(q_t, .inr (0, [.int t_room, .ref q_t_signs, .ref q_t_lengths, .ref q_t_limbs])), (q_t_signs, .inl (cA, n_t_signs, .inl a_t_signs)), (q_t_lengths, .inl (cA, n_t_lengths, .inl a_t_lengths)), (q_t_limbs, .inl (cA, n_t_limbs, .inl a_t_limbs))] sz)) 0 0 (va_A [(q_t, .inr (0, [.int t_room, .ref q_t_signs, .ref q_t_lengths, .ref q_t_limbs])), (q_t_signs, .inl (cA, n_t_signs, .inl a_t_signs)), (q_t_lengths, .inl (cA, n_t_lengths, .inl a_t_lengths)), (q_t_limbs, .inl (cA, n_t_limbs, .inl a_t_limbs))] sz) := by
  unfold f_N_negate at hf
  refine k_ent (Qc := fun A => c_Qv (dC, dI) vwCl [(cA, .int)] [(q_t, .inr (0, [.int t_room, .ref q_t_signs, .ref q_t_lengths, .ref q_t_limbs])), (q_t_signs, .inl (cA, n_t_signs, .inl o)), (q_t_lengths, .inl (cA, n_t_lengths, .inl a_t_lengths)), (q_t_limbs, .inl (cA, n_t_limbs, .inl a_t_limbs))] A) (by decide) rfl (Nat.le_of_ble_eq_true rfl) ?_
  intro p e s m below meth c A hx hb hr hown hts hml hlocks hin hsz hA hK H locs hP hD hS ls hl
  have hown : s.vm.findClass RX0 = some m.cls := hown
  have hl : lv_has ls 2 [(0, .ref q_t), (1, .int slot)] := hl
  refine lv_aload_n hx hb dX0_negate_0 rfl (lv_at hl 0 rfl) ?_
  refine va_get (D := (dC, dI)) (ci := 0) (v := .ref q_t_signs) (C := RX0) (T := TX0) (N := 4) hx hb hts ki_N_negate_X0 hown hK hP 0 rfl rfl 1 (by decide) (hts (.fieldLink RX0 15 "MinorSteps$Numbers" "signs" "[I") kw_N_negate_0) (fun _ h9 => h9) rfl dX0_negate_1 ?_
  refine lv_iload_n hx hb dX0_negate_4 rfl (lv_at hl 1 rfl) ?_
  refine lv_aload_n hx hb dX0_negate_5 rfl (lv_at hl 0 rfl) ?_
  refine va_get (D := (dC, dI)) (ci := 0) (v := .ref q_t_signs) (C := RX0) (T := TX0) (N := 4) hx hb hts ki_N_negate_X0 hown hK hP 0 rfl rfl 1 (by decide) (hts (.fieldLink RX0 15 "MinorSteps$Numbers" "signs" "[I") kw_N_negate_0) (fun _ h9 => h9) rfl dX0_negate_6 ?_
  refine lv_iload_n hx hb dX0_negate_9 rfl (lv_at hl 1 rfl) ?_
  obtain ⟨g1, hf⟩ := og_c hf
  refine va_iald hx hb hK hP 1 0 rfl rfl (og_in g1) dX0_negate_10 ?_
  refine lv_ineg hx hb dX0_negate_11 ?_
  obtain ⟨g2, hf⟩ := og_c hf
  refine va_iast hx hb hK hP hD hS 1 0 rfl rfl (og_in g2) dX0_negate_12 (fun H locs hP hD hS => ?_)
  have hP : va_P (dC, dI) vwCl [(q_t, .inr (0, [.int t_room, .ref q_t_signs, .ref q_t_lengths, .ref q_t_limbs])), (q_t_signs, .inl (cA, n_t_signs, .inl (upd a_t_signs slot.toNatClampNeg (-(a_t_signs slot.toNatClampNeg))))), (q_t_lengths, .inl (cA, n_t_lengths, .inl a_t_lengths)), (q_t_limbs, .inl (cA, n_t_limbs, .inl a_t_limbs))] H := hP
  have hD : va_D A [(q_t, .inr (0, [.int t_room, .ref q_t_signs, .ref q_t_lengths, .ref q_t_limbs])), (q_t_signs, .inl (cA, n_t_signs, .inl (upd a_t_signs slot.toNatClampNeg (-(a_t_signs slot.toNatClampNeg))))), (q_t_lengths, .inl (cA, n_t_lengths, .inl a_t_lengths)), (q_t_limbs, .inl (cA, n_t_limbs, .inl a_t_limbs))] := hD
  have e9 := Option.some.inj hf
  subst e9
  exact kr_v hx hb hr hlocks hK hS (hP.sub [0, 1, 2, 3] rfl) (hD.sub [0, 1, 2, 3] (by decide) rfl) dX0_negate_13
def rm_N_tell : Room := { frames := 1, cells := 0, slots := 0, locals := 22 }
theorem kw_N_tell_0 : (.fieldLink RX0 19 "MinorSteps$Numbers" "lengths" "[I" : Cond) ∈ wsX0_tell := by decide +kernel
theorem kw_N_tell_1 : (.fieldLink RX0 15 "MinorSteps$Numbers" "signs" "[I" : Cond) ∈ wsX0_tell := by decide +kernel
theorem ki_N_tell_X0 : ∀ w ∈ u_ws RX0 TX0 4, w ∈ wsX0_tell := by decide +kernel
set_option maxHeartbeats 4000000 in
set_option maxRecDepth 100000 in
theorem c_N_tell (l : Launch) (dC : Nat → ClassId) (dI : Nat → Nat → Nat) (cA : ClassId) (sz : Nat) (q_t : Nat) (q_t_signs : Nat) (q_t_lengths : Nat) (q_t_limbs : Nat) (t_room : Int32) (n_t_signs : Nat) (a_t_signs : Nat → Int32) (n_t_lengths : Nat) (a_t_lengths : Nat → Int32) (n_t_limbs : Nat) (a_t_limbs : Nat → Int32) (slot : Int32) (what : Int32) (o : Int32) (hf : f_N_tell t_room n_t_signs a_t_signs n_t_lengths a_t_lengths n_t_limbs a_t_limbs slot what = some o) : Met l yX0_tell wsX0_tell rm_N_tell (c_Pre (dC, dI) vwCl [(cA, .int)] [(q_t, .inr (0, [.int t_room, .ref q_t_signs, .ref q_t_lengths, .ref q_t_limbs])), (q_t_signs, .inl (cA, n_t_signs, .inl a_t_signs)), (q_t_lengths, .inl (cA, n_t_lengths, .inl a_t_lengths)), (q_t_limbs, .inl (cA, n_t_limbs, .inl a_t_limbs))] sz [.ref q_t, .int slot, .int what]) (c_Qi (dC, dI) vwCl [(cA, .int)] [(q_t, .inr (0, [.int t_room, .ref q_t_signs, .ref q_t_lengths, .ref q_t_limbs])), (q_t_signs, .inl (cA, n_t_signs, .inl a_t_signs)), (q_t_lengths, .inl (cA, n_t_lengths, .inl a_t_lengths)), (q_t_limbs, .inl (cA, n_t_limbs, .inl a_t_limbs))] (va_A [(q_t, .inr (0, [.int t_room, .ref q_t_signs, .ref q_t_lengths, .ref q_t_limbs])), (q_t_signs, .inl (cA, n_t_signs, .inl a_t_signs)), (q_t_lengths, .inl (cA, n_t_lengths, .inl a_t_lengths)), (q_t_limbs, .inl (cA, n_t_limbs, .inl a_t_limbs))] sz) o) 0 0 (va_A [(q_t, .inr (0, [.int t_room, .ref q_t_signs, .ref q_t_lengths, .ref q_t_limbs])), (q_t_signs, .inl (cA, n_t_signs, .inl a_t_signs)), (q_t_lengths, .inl (cA, n_t_lengths, .inl a_t_lengths)), (q_t_limbs, .inl (cA, n_t_limbs, .inl a_t_limbs))] sz) := by
  unfold f_N_tell at hf
  refine k_ent (Qc := fun A => c_Qi (dC, dI) vwCl [(cA, .int)] [(q_t, .inr (0, [.int t_room, .ref q_t_signs, .ref q_t_lengths, .ref q_t_limbs])), (q_t_signs, .inl (cA, n_t_signs, .inl a_t_signs)), (q_t_lengths, .inl (cA, n_t_lengths, .inl a_t_lengths)), (q_t_limbs, .inl (cA, n_t_limbs, .inl a_t_limbs))] A o) (by decide) rfl (Nat.le_of_ble_eq_true rfl) ?_
  intro p e s m below meth c A hx hb hr hown hts hml hlocks hin hsz hA hK H locs hP hD hS ls hl
  have hown : s.vm.findClass RX0 = some m.cls := hown
  have hl : lv_has ls 3 [(0, .ref q_t), (1, .int slot), (2, .int what)] := hl
  refine lv_iload_n hx hb dX0_tell_0 rfl (lv_at hl 2 rfl) ?_
  refine lv_bipush (v := (-2)) hx hb dX0_tell_1 (by decide) ?_
  refine lv_icmp_ne (tgt := 13) hx hb dX0_tell_3 (by decide) (fun c1 => ?_) (fun c1 => ?_)
  · have hf := og_f c1 hf
    refine lv_iload_n hx hb dX0_tell_13 rfl (lv_at hl 2 rfl) ?_
    refine lv_iconst (v := (-1)) hx hb dX0_tell_14 (by decide) ?_
    refine lv_icmp_ne (tgt := 25) hx hb dX0_tell_15 (by decide) (fun c2 => ?_) (fun c2 => ?_)
    · have hf := og_f c2 hf
      refine lv_iload_n hx hb dX0_tell_25 rfl (lv_at hl 2 rfl) ?_
      refine lv_if_lt (tgt := 48) hx hb dX0_tell_26 (by decide) (fun c3 => ?_) (fun c3 => ?_)
      · have hf := og_t c3 hf
        refine lv_iconst (v := (-1)) hx hb dX0_tell_48 (by decide) ?_
        have e9 := Option.some.inj hf
        subst e9
        exact kr_i hx hb hr hlocks hK hS (hP.sub [0, 1, 2, 3] rfl) (hD.sub [0, 1, 2, 3] (by decide) rfl) dX0_tell_49
      · have hf := og_f c3 hf
        refine lv_iload_n hx hb dX0_tell_29 rfl (lv_at hl 2 rfl) ?_
        refine lv_aload_n hx hb dX0_tell_30 rfl (lv_at hl 0 rfl) ?_
        refine va_get (D := (dC, dI)) (ci := 0) (v := .ref q_t_lengths) (C := RX0) (T := TX0) (N := 4) hx hb hts ki_N_tell_X0 hown hK hP 0 rfl rfl 2 (by decide) (hts (.fieldLink RX0 19 "MinorSteps$Numbers" "lengths" "[I") kw_N_tell_0) (fun _ h9 => h9) rfl dX0_tell_31 ?_
        refine lv_iload_n hx hb dX0_tell_34 rfl (lv_at hl 1 rfl) ?_
        obtain ⟨g4, hf⟩ := og_c hf
        refine va_iald hx hb hK hP 2 0 rfl rfl (og_in g4) dX0_tell_35 ?_
        refine lv_icmp_ge (tgt := 48) hx hb dX0_tell_36 (by decide) (fun c5 => ?_) (fun c5 => ?_)
        · have hf := og_t c5 hf
          refine lv_iconst (v := (-1)) hx hb dX0_tell_48 (by decide) ?_
          have e9 := Option.some.inj hf
          subst e9
          exact kr_i hx hb hr hlocks hK hS (hP.sub [0, 1, 2, 3] rfl) (hD.sub [0, 1, 2, 3] (by decide) rfl) dX0_tell_49
        · have hf := og_f c5 hf
          refine lv_aload_n hx hb dX0_tell_39 rfl (lv_at hl 0 rfl) ?_
          refine lv_iload_n hx hb dX0_tell_40 rfl (lv_at hl 1 rfl) ?_
          refine lv_iload_n hx hb dX0_tell_41 rfl (lv_at hl 2 rfl) ?_
          obtain ⟨x6, g7, hf⟩ := og_b hf
          refine kc_i (wr := []) (w1 := [(q_t, .inr (0, [.int t_room, .ref q_t_signs, .ref q_t_lengths, .ref q_t_limbs])), (q_t_signs, .inl (cA, n_t_signs, .inl a_t_signs)), (q_t_lengths, .inl (cA, n_t_lengths, .inl a_t_lengths)), (q_t_limbs, .inl (cA, n_t_limbs, .inl a_t_limbs))]) [0, 1, 2, 3] [] (va_runV (As := [.int slot, .int what]) (rest := []) ⟨hx, hb, hml, hown, hts⟩ (c_N_limbOf l dC dI cA H.size q_t q_t_signs q_t_lengths q_t_limbs t_room n_t_signs a_t_signs n_t_lengths a_t_lengths n_t_limbs a_t_limbs slot what x6 g7) (cwV 2 hts gX0_tell_X0_limbOf rfl rfl rfl (by decide +kernel) ⟨Nat.le_of_ble_eq_true rfl, Nat.le_of_ble_eq_true rfl⟩) (kc_preV hP hD hK [0, 1, 2, 3] rfl rfl (by decide) (ci := 0) (q0 := 0) rfl rfl) rfl rfl hl.1 rfl (lv_room (Nat.le_of_ble_eq_true rfl)) dX0_tell_42 ⟨Nat.le_of_ble_eq_true rfl, Nat.le_of_ble_eq_true rfl⟩) hP hD hS hA rfl rfl (by decide) (by decide) (fun H locs hP hD hS => ?_)
          have hP : va_P (dC, dI) vwCl [(q_t, .inr (0, [.int t_room, .ref q_t_signs, .ref q_t_lengths, .ref q_t_limbs])), (q_t_signs, .inl (cA, n_t_signs, .inl a_t_signs)), (q_t_lengths, .inl (cA, n_t_lengths, .inl a_t_lengths)), (q_t_limbs, .inl (cA, n_t_limbs, .inl a_t_limbs))] H := hP
          have hD : va_D A [(q_t, .inr (0, [.int t_room, .ref q_t_signs, .ref q_t_lengths, .ref q_t_limbs])), (q_t_signs, .inl (cA, n_t_signs, .inl a_t_signs)), (q_t_lengths, .inl (cA, n_t_lengths, .inl a_t_lengths)), (q_t_limbs, .inl (cA, n_t_limbs, .inl a_t_limbs))] := hD
          refine lv_goto (tgt := 49) hx hb dX0_tell_45 (by decide) ?_
          have e9 := Option.some.inj hf
          subst e9
          exact kr_i hx hb hr hlocks hK hS (hP.sub [0, 1, 2, 3] rfl) (hD.sub [0, 1, 2, 3] (by decide) rfl) dX0_tell_49
    · have hf := og_t c2 hf
      refine lv_aload_n hx hb dX0_tell_18 rfl (lv_at hl 0 rfl) ?_
      refine va_get (D := (dC, dI)) (ci := 0) (v := .ref q_t_lengths) (C := RX0) (T := TX0) (N := 4) hx hb hts ki_N_tell_X0 hown hK hP 0 rfl rfl 2 (by decide) (hts (.fieldLink RX0 19 "MinorSteps$Numbers" "lengths" "[I") kw_N_tell_0) (fun _ h9 => h9) rfl dX0_tell_19 ?_
      refine lv_iload_n hx hb dX0_tell_22 rfl (lv_at hl 1 rfl) ?_
      obtain ⟨g8, hf⟩ := og_c hf
      refine va_iald hx hb hK hP 2 0 rfl rfl (og_in g8) dX0_tell_23 ?_
      have e9 := Option.some.inj hf
      subst e9
      exact kr_i hx hb hr hlocks hK hS (hP.sub [0, 1, 2, 3] rfl) (hD.sub [0, 1, 2, 3] (by decide) rfl) dX0_tell_24
  · have hf := og_t c1 hf
    refine lv_aload_n hx hb dX0_tell_6 rfl (lv_at hl 0 rfl) ?_
    refine va_get (D := (dC, dI)) (ci := 0) (v := .ref q_t_signs) (C := RX0) (T := TX0) (N := 4) hx hb hts ki_N_tell_X0 hown hK hP 0 rfl rfl 1 (by decide) (hts (.fieldLink RX0 15 "MinorSteps$Numbers" "signs" "[I") kw_N_tell_1) (fun _ h9 => h9) rfl dX0_tell_7 ?_
    refine lv_iload_n hx hb dX0_tell_10 rfl (lv_at hl 1 rfl) ?_
    obtain ⟨g9, hf⟩ := og_c hf
    refine va_iald hx hb hK hP 1 0 rfl rfl (og_in g9) dX0_tell_11 ?_
    have e9 := Option.some.inj hf
    subst e9
    exact kr_i hx hb hr hlocks hK hS (hP.sub [0, 1, 2, 3] rfl) (hD.sub [0, 1, 2, 3] (by decide) rfl) dX0_tell_12
