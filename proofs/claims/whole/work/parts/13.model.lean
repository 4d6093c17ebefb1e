def rm_X_reset : Room := { frames := 0, cells := 0, slots := 0, locals := 0 }
theorem kw_X_reset_0 : (.fieldLink RX3 7 "MinorStepsModel" "limbs" "[I" : Cond) ∈ wsX3_reset := by decide +kernel
theorem kw_X_reset_1 : (.fieldLink RX3 13 "MinorStepsModel" "signs" "[I" : Cond) ∈ wsX3_reset := by decide +kernel
theorem kw_X_reset_2 : (.fieldLink RX3 16 "MinorStepsModel" "rows" "[I" : Cond) ∈ wsX3_reset := by decide +kernel
theorem kw_X_reset_3 : (.fieldLink RX3 29 "MinorStepsModel" "chosen" "I" : Cond) ∈ wsX3_reset := by decide +kernel
theorem kw_X_reset_4 : (.fieldLink RX3 32 "MinorStepsModel" "state" "I" : Cond) ∈ wsX3_reset := by decide +kernel
theorem kw_X_reset_5 : (.fieldLink RX3 35 "MinorStepsModel" "done" "I" : Cond) ∈ wsX3_reset := by decide +kernel
theorem kw_X_reset_6 : (.fieldLink RX3 38 "MinorStepsModel" "pivots" "I" : Cond) ∈ wsX3_reset := by decide +kernel
theorem kw_X_reset_7 : (.fieldLink RX3 41 "MinorStepsModel" "odd" "Z" : Cond) ∈ wsX3_reset := by decide +kernel
theorem ki_X_reset_X3 : ∀ w ∈ u_ws RX3 TX3 12, w ∈ wsX3_reset := by decide +kernel
set_option maxHeartbeats 4000000 in
set_option maxRecDepth 100000 in
theorem w_X_reset_L2 {p : Program} {l : Launch} {e : Env} {s : State} {m : MethodId} {args : Array Value} {below : List Frame} {meth : Method} {c : Code} {Q : State → Prop} {A : Nat → Prop} {H0 : Heap} {dC : Nat → ClassId} {dI : Nat → Nat → Nat} {cA : ClassId} (hx : p.tables.exec = Jvm.exec) (hb : c.code = cX3_reset) (hown : s.vm.findClass RX3 = some m.cls) (hts : ∀ w ∈ wsX3_reset, w.before args s = true) (hml : c.maxLocals = 2) (hA : ∀ q, H0.size ≤ q → A q) (hK : va_K (dC, dI) vwCl [(cA, .int)] s) (k : Nat) (q_t : Nat) (q_t_limbs : Nat) (q_t_signs : Nat) (q_t_rows : Nat) (i0_t : Int32) (i1_t : Int32) (i5_t : Int32) (i6_t : Int32) (i7_t : Int32) (i8_t : Int32) (i9_t : Int32) (i10_t : Int32) (i11_t : Int32) (n_t_limbs : Nat) (n_t_signs : Nat) (a_t_signs : Nat → Int32) (n_t_rows : Nat) (a_t_rows : Nat → Int32) : ∀ (j : Nat) (v1 : Int32) (a_t_limbs : Nat → Int32) (o : Int32 × (Nat → Int32)), f_X_reset_L2 k n_t_limbs j v1 a_t_limbs = some o → ∀ (H : Heap) (locs : List Loc), va_P (dC, dI) vwCl [(q_t, .inr (3, [.int i0_t, .int i1_t, .ref q_t_limbs, .ref q_t_signs, .ref q_t_rows, .int i5_t, .int i6_t, .int i7_t, .int i8_t, .int i9_t, .int i10_t, .int i11_t])), (q_t_limbs, .inl (cA, n_t_limbs, .inl a_t_limbs)), (q_t_signs, .inl (cA, n_t_signs, .inl a_t_signs)), (q_t_rows, .inl (cA, n_t_rows, .inl a_t_rows))] H → va_D A [(q_t, .inr (3, [.int i0_t, .int i1_t, .ref q_t_limbs, .ref q_t_signs, .ref q_t_rows, .int i5_t, .int i6_t, .int i7_t, .int i8_t, .int i9_t, .int i10_t, .int i11_t])), (q_t_limbs, .inl (cA, n_t_limbs, .inl a_t_limbs)), (q_t_signs, .inl (cA, n_t_signs, .inl a_t_signs)), (q_t_rows, .inl (cA, n_t_rows, .inl a_t_rows))] → va_S A H0 H locs → ∀ ls : Array Slot, lv_has ls 2 [(0, .ref q_t), (1, .int v1)] → ∀ (he : ∀ (H : Heap) (locs : List Loc), va_P (dC, dI) vwCl [(q_t, .inr (3, [.int i0_t, .int i1_t, .ref q_t_limbs, .ref q_t_signs, .ref q_t_rows, .int i5_t, .int i6_t, .int i7_t, .int i8_t, .int i9_t, .int i10_t, .int i11_t])), (q_t_limbs, .inl (cA, n_t_limbs, .inl o.2)), (q_t_signs, .inl (cA, n_t_signs, .inl a_t_signs)), (q_t_rows, .inl (cA, n_t_rows, .inl a_t_rows))] H → va_D A [(q_t, .inr (3, [.int i0_t, .int i1_t, .ref q_t_limbs, .ref q_t_signs, .ref q_t_rows, .int i5_t, .int i6_t, .int i7_t, .int i8_t, .int i9_t, .int i10_t, .int i11_t])), (q_t_limbs, .inl (cA, n_t_limbs, .inl o.2)), (q_t_signs, .inl (cA, n_t_signs, .inl a_t_signs)), (q_t_rows, .inl (cA, n_t_rows, .inl a_t_rows))] → va_S A H0 H locs → ∀ ls : Array Slot, lv_has ls 2 [(0, .ref q_t)] → W p l e rm_X_reset s m args below meth c H locs 0 0 Q (F0 m 22 ls [])), W p l e rm_X_reset s m args below meth c H locs 0 0 Q (F0 m 2 ls []) := by
  intro j
  induction j with
  | zero =>
    intro v1 a_t_limbs o hf
    rw [f_X_reset_L2] at hf
    cases hf
  | succ j ih =>
    intro v1 a_t_limbs o hf H locs hP hD hS ls hl he
    rw [f_X_reset_L2] at hf
    refine lv_iload_n hx hb dX3_reset_2 rfl (lv_at hl 1 rfl) ?_
    refine lv_sipush (v := 2160) hx hb dX3_reset_3 (by decide) ?_
    refine lv_icmp_ge (tgt := 22) hx hb dX3_reset_6 (by decide) (fun c5 => ?_) (fun c5 => ?_)
    · have hf := og_t c5 hf
      have e9 := Option.some.inj hf
      subst e9
      exact he _ _ (hP.sub [0, 1, 2, 3] rfl) (hD.sub [0, 1, 2, 3] (by decide) rfl) hS _ (lv_sub hl [0] rfl)
    · have hf := og_f c5 hf
      refine lv_aload_n hx hb dX3_reset_9 rfl (lv_at hl 0 rfl) ?_
      refine va_get (D := (dC, dI)) (ci := 3) (v := .ref q_t_limbs) (C := RX3) (T := TX3) (N := 12) hx hb hts ki_X_reset_X3 hown hK hP 0 rfl rfl 2 (by decide) (hts (.fieldLink RX3 7 "MinorStepsModel" "limbs" "[I") kw_X_reset_0) (fun _ h9 => h9) rfl dX3_reset_10 ?_
      refine lv_iload_n hx hb dX3_reset_13 rfl (lv_at hl 1 rfl) ?_
      refine lv_iconst (v := 0) hx hb dX3_reset_14 (by decide) ?_
      obtain ⟨g6, hf⟩ := og_c hf
      refine va_iast hx hb hK hP hD hS 1 0 rfl rfl (og_in g6) dX3_reset_15 (fun H locs hP hD hS => ?_)
      have hP : va_P (dC, dI) vwCl [(q_t, .inr (3, [.int i0_t, .int i1_t, .ref q_t_limbs, .ref q_t_signs, .ref q_t_rows, .int i5_t, .int i6_t, .int i7_t, .int i8_t, .int i9_t, .int i10_t, .int i11_t])), (q_t_limbs, .inl (cA, n_t_limbs, .inl (upd a_t_limbs v1.toNatClampNeg 0))), (q_t_signs, .inl (cA, n_t_signs, .inl a_t_signs)), (q_t_rows, .inl (cA, n_t_rows, .inl a_t_rows))] H := hP
      have hD : va_D A [(q_t, .inr (3, [.int i0_t, .int i1_t, .ref q_t_limbs, .ref q_t_signs, .ref q_t_rows, .int i5_t, .int i6_t, .int i7_t, .int i8_t, .int i9_t, .int i10_t, .int i11_t])), (q_t_limbs, .inl (cA, n_t_limbs, .inl (upd a_t_limbs v1.toNatClampNeg 0))), (q_t_signs, .inl (cA, n_t_signs, .inl a_t_signs)), (q_t_rows, .inl (cA, n_t_rows, .inl a_t_rows))] := hD
      refine lv_iinc (v := v1 + 1) (lv' := [(1, .int (v1 + 1)), (0, .ref q_t)]) hx hb dX3_reset_16 hl (k := 1) rfl rfl (by decide) rfl (fun ls hl => ?_)
      refine lv_goto (tgt := 2) hx hb dX3_reset_19 (by decide) ?_
      exact ih (v1 + 1) (upd a_t_limbs v1.toNatClampNeg 0) _ hf _ _ (hP.sub [0, 1, 2, 3] rfl) (hD.sub [0, 1, 2, 3] (by decide) rfl) hS _ (lv_sub hl [1, 0] rfl) he
set_option maxHeartbeats 4000000 in
set_option maxRecDepth 100000 in
theorem w_X_reset_L24 {p : Program} {l : Launch} {e : Env} {s : State} {m : MethodId} {args : Array Value} {below : List Frame} {meth : Method} {c : Code} {Q : State → Prop} {A : Nat → Prop} {H0 : Heap} {dC : Nat → ClassId} {dI : Nat → Nat → Nat} {cA : ClassId} (hx : p.tables.exec = Jvm.exec) (hb : c.code = cX3_reset) (hown : s.vm.findClass RX3 = some m.cls) (hts : ∀ w ∈ wsX3_reset, w.before args s = true) (hml : c.maxLocals = 2) (hA : ∀ q, H0.size ≤ q → A q) (hK : va_K (dC, dI) vwCl [(cA, .int)] s) (k : Nat) (q_t : Nat) (q_t_limbs : Nat) (q_t_signs : Nat) (q_t_rows : Nat) (i0_t : Int32) (i1_t : Int32) (i5_t : Int32) (i6_t : Int32) (i7_t : Int32) (i8_t : Int32) (i9_t : Int32) (i10_t : Int32) (i11_t : Int32) (n_t_limbs : Nat) (a_t_limbs : Nat → Int32) (n_t_signs : Nat) (n_t_rows : Nat) (a_t_rows : Nat → Int32) : ∀ (j : Nat) (v1 : Int32) (a_t_signs : Nat → Int32) (o : Int32 × (Nat → Int32)), f_X_reset_L24 k n_t_signs j v1 a_t_signs = some o → ∀ (H : Heap) (locs : List Loc), va_P (dC, dI) vwCl [(q_t, .inr (3, [.int i0_t, .int i1_t, .ref q_t_limbs, .ref q_t_signs, .ref q_t_rows, .int i5_t, .int i6_t, .int i7_t, .int i8_t, .int i9_t, .int i10_t, .int i11_t])), (q_t_limbs, .inl (cA, n_t_limbs, .inl a_t_limbs)), (q_t_signs, .inl (cA, n_t_signs, .inl a_t_signs)), (q_t_rows, .inl (cA, n_t_rows, .inl a_t_rows))] H → va_D A [(q_t, .inr (3, [.int i0_t, .int i1_t, .ref q_t_limbs, .ref q_t_signs, .ref q_t_rows, .int i5_t, .int i6_t, .int i7_t, .int i8_t, .int i9_t, .int i10_t, .int i11_t])), (q_t_limbs, .inl (cA, n_t_limbs, .inl a_t_limbs)), (q_t_signs, .inl (cA, n_t_signs, .inl a_t_signs)), (q_t_rows, .inl (cA, n_t_rows, .inl a_t_rows))] → va_S A H0 H locs → ∀ ls : Array Slot, lv_has ls 2 [(0, .ref q_t), (1, .int v1)] → ∀ (he : ∀ (H : Heap) (locs : List Loc), va_P (dC, dI) vwCl [(q_t, .inr (3, [.int i0_t, .int i1_t, .ref q_t_limbs, .ref q_t_signs, .ref q_t_rows, .int i5_t, .int i6_t, .int i7_t, .int i8_t, .int i9_t, .int i10_t, .int i11_t])), (q_t_limbs, .inl (cA, n_t_limbs, .inl a_t_limbs)), (q_t_signs, .inl (cA, n_t_signs, .inl o.2)), (q_t_rows, .inl (cA, n_t_rows, .inl a_t_rows))] H → va_D A [(q_t, .inr (3, [.int i0_t, .int i1_t, .ref q_t_limbs, .ref q_t_signs, .ref q_t_rows, .int i5_t, .int i6_t, .int i7_t, .int i8_t, .int i9_t, .int i10_t, .int i11_t])), (q_t_limbs, .inl (cA, n_t_limbs, .inl a_t_limbs)), (q_t_signs, .inl (cA, n_t_signs, .inl o.2)), (q_t_rows, .inl (cA, n_t_rows, .inl a_t_rows))] → va_S A H0 H locs → ∀ ls : Array Slot, lv_has ls 2 [(0, .ref q_t)] → W p l e rm_X_reset s m args below meth c H locs 0 0 Q (F0 m 43 ls [])), W p l e rm_X_reset s m args below meth c H locs 0 0 Q (F0 m 24 ls []) := by
  intro j
  induction j with
  | zero =>
    intro v1 a_t_signs o hf
    rw [f_X_reset_L24] at hf
    cases hf
  | succ j ih =>
    intro v1 a_t_signs o hf H locs hP hD hS ls hl he
    rw [f_X_reset_L24] at hf
    refine lv_iload_n hx hb dX3_reset_24 rfl (lv_at hl 1 rfl) ?_
    refine lv_bipush (v := 54) hx hb dX3_reset_25 (by decide) ?_
    refine lv_icmp_ge (tgt := 43) hx hb dX3_reset_27 (by decide) (fun c13 => ?_) (fun c13 => ?_)
    · have hf := og_t c13 hf
      have e9 := Option.some.inj hf
      subst e9
      exact he _ _ (hP.sub [0, 1, 2, 3] rfl) (hD.sub [0, 1, 2, 3] (by decide) rfl) hS _ (lv_sub hl [0] rfl)
    · have hf := og_f c13 hf
      refine lv_aload_n hx hb dX3_reset_30 rfl (lv_at hl 0 rfl) ?_
      refine va_get (D := (dC, dI)) (ci := 3) (v := .ref q_t_signs) (C := RX3) (T := TX3) (N := 12) hx hb hts ki_X_reset_X3 hown hK hP 0 rfl rfl 3 (by decide) (hts (.fieldLink RX3 13 "MinorStepsModel" "signs" "[I") kw_X_reset_1) (fun _ h9 => h9) rfl dX3_reset_31 ?_
      refine lv_iload_n hx hb dX3_reset_34 rfl (lv_at hl 1 rfl) ?_
      refine lv_iconst (v := 0) hx hb dX3_reset_35 (by decide) ?_
      obtain ⟨g14, hf⟩ := og_c hf
      refine va_iast hx hb hK hP hD hS 2 0 rfl rfl (og_in g14) dX3_reset_36 (fun H locs hP hD hS => ?_)
      have hP : va_P (dC, dI) vwCl [(q_t, .inr (3, [.int i0_t, .int i1_t, .ref q_t_limbs, .ref q_t_signs, .ref q_t_rows, .int i5_t, .int i6_t, .int i7_t, .int i8_t, .int i9_t, .int i10_t, .int i11_t])), (q_t_limbs, .inl (cA, n_t_limbs, .inl a_t_limbs)), (q_t_signs, .inl (cA, n_t_signs, .inl (upd a_t_signs v1.toNatClampNeg 0))), (q_t_rows, .inl (cA, n_t_rows, .inl a_t_rows))] H := hP
      have hD : va_D A [(q_t, .inr (3, [.int i0_t, .int i1_t, .ref q_t_limbs, .ref q_t_signs, .ref q_t_rows, .int i5_t, .int i6_t, .int i7_t, .int i8_t, .int i9_t, .int i10_t, .int i11_t])), (q_t_limbs, .inl (cA, n_t_limbs, .inl a_t_limbs)), (q_t_signs, .inl (cA, n_t_signs, .inl (upd a_t_signs v1.toNatClampNeg 0))), (q_t_rows, .inl (cA, n_t_rows, .inl a_t_rows))] := hD
      refine lv_iinc (v := v1 + 1) (lv' := [(1, .int (v1 + 1)), (0, .ref q_t)]) hx hb dX3_reset_37 hl (k := 1) rfl rfl (by decide) rfl (fun ls hl => ?_)
      refine lv_goto (tgt := 24) hx hb dX3_reset_40 (by decide) ?_
      exact ih (v1 + 1) (upd a_t_signs v1.toNatClampNeg 0) _ hf _ _ (hP.sub [0, 1, 2, 3] rfl) (hD.sub [0, 1, 2, 3] (by decide) rfl) hS _ (lv_sub hl [1, 0] rfl) he
set_option maxHeartbeats 4000000 in
set_option maxRecDepth 100000 in
theorem w_X_reset_L45 {p : Program} {l : Launch} {e : Env} {s : State} {m : MethodId} {args : Array Value} {below : List Frame} {meth : Method} {c : Code} {Q : State → Prop} {A : Nat → Prop} {H0 : Heap} {dC : Nat → ClassId} {dI : Nat → Nat → Nat} {cA : ClassId} (hx : p.tables.exec = Jvm.exec) (hb : c.code = cX3_reset) (hown : s.vm.findClass RX3 = some m.cls) (hts : ∀ w ∈ wsX3_reset, w.before args s = true) (hml : c.maxLocals = 2) (hA : ∀ q, H0.size ≤ q → A q) (hK : va_K (dC, dI) vwCl [(cA, .int)] s) (k : Nat) (q_t : Nat) (q_t_limbs : Nat) (q_t_signs : Nat) (q_t_rows : Nat) (i0_t : Int32) (i1_t : Int32) (i5_t : Int32) (i6_t : Int32) (i7_t : Int32) (i8_t : Int32) (i9_t : Int32) (i10_t : Int32) (i11_t : Int32) (n_t_limbs : Nat) (a_t_limbs : Nat → Int32) (n_t_signs : Nat) (a_t_signs : Nat → Int32) (n_t_rows : Nat) : ∀ (j : Nat) (v1 : Int32) (a_t_rows : Nat → Int32) (o : Int32 × (Nat → Int32)), f_X_reset_L45 k n_t_rows j v1 a_t_rows = some o → ∀ (H : Heap) (locs : List Loc), va_P (dC, dI) vwCl [(q_t, .inr (3, [.int i0_t, .int i1_t, .ref q_t_limbs, .ref q_t_signs, .ref q_t_rows, .int i5_t, .int i6_t, .int i7_t, .int i8_t, .int i9_t, .int i10_t, .int i11_t])), (q_t_limbs, .inl (cA, n_t_limbs, .inl a_t_limbs)), (q_t_signs, .inl (cA, n_t_signs, .inl a_t_signs)), (q_t_rows, .inl (cA, n_t_rows, .inl a_t_rows))] H → va_D A [(q_t, .inr (3, [.int i0_t, .int i1_t, .ref q_t_limbs, .ref q_t_signs, .ref q_t_rows, .int i5_t, .int i6_t, .int i7_t, .int i8_t, .int i9_t, .int i10_t, .int i11_t])), (q_t_limbs, .inl (cA, n_t_limbs, .inl a_t_limbs)), (q_t_signs, .inl (cA, n_t_signs, .inl a_t_signs)), (q_t_rows, .inl (cA, n_t_rows, .inl a_t_rows))] → va_S A H0 H locs → ∀ ls : Array Slot, lv_has ls 2 [(0, .ref q_t), (1, .int v1)] → ∀ (he : ∀ (H : Heap) (locs : List Loc), va_P (dC, dI) vwCl [(q_t, .inr (3, [.int i0_t, .int i1_t, .ref q_t_limbs, .ref q_t_signs, .ref q_t_rows, .int i5_t, .int i6_t, .int i7_t, .int i8_t, .int i9_t, .int i10_t, .int i11_t])), (q_t_limbs, .inl (cA, n_t_limbs, .inl a_t_limbs)), (q_t_signs, .inl (cA, n_t_signs, .inl a_t_signs)), (q_t_rows, .inl (cA, n_t_rows, .inl o.2))] H → va_D A [(q_t, .inr (3, [.int i0_t, .int i1_t, .ref q_t_limbs, .ref q_t_signs, .ref q_t_rows, .int i5_t, .int i6_t, .int i7_t, .int i8_t, .int i9_t, .int i10_t, .int i11_t])), (q_t_limbs, .inl (cA, n_t_limbs, .inl a_t_limbs)), (q_t_signs, .inl (cA, n_t_signs, .inl a_t_signs)), (q_t_rows, .inl (cA, n_t_rows, .inl o.2))] → va_S A H0 H locs → ∀ ls : Array Slot, lv_has ls 2 [(0, .ref q_t)] → W p l e rm_X_reset s m args below meth c H locs 0 0 Q (F0 m 64 ls [])), W p l e rm_X_reset s m args below meth c H locs 0 0 Q (F0 m 45 ls []) := by
  intro j
  induction j with
  | zero =>
    intro v1 a_t_rows o hf
    rw [f_X_reset_L45] at hf
    cases hf
  | succ j ih =>
    intro v1 a_t_rows o hf H locs hP hD hS ls hl he
    rw [f_X_reset_L45] at hf
    refine lv_iload_n hx hb dX3_reset_45 rfl (lv_at hl 1 rfl) ?_
    refine lv_bipush (v := 6) hx hb dX3_reset_46 (by decide) ?_
    refine lv_icmp_ge (tgt := 64) hx hb dX3_reset_48 (by decide) (fun c21 => ?_) (fun c21 => ?_)
    · have hf := og_t c21 hf
      have e9 := Option.some.inj hf
      subst e9
      exact he _ _ (hP.sub [0, 1, 2, 3] rfl) (hD.sub [0, 1, 2, 3] (by decide) rfl) hS _ (lv_sub hl [0] rfl)
    · have hf := og_f c21 hf
      refine lv_aload_n hx hb dX3_reset_51 rfl (lv_at hl 0 rfl) ?_
      refine va_get (D := (dC, dI)) (ci := 3) (v := .ref q_t_rows) (C := RX3) (T := TX3) (N := 12) hx hb hts ki_X_reset_X3 hown hK hP 0 rfl rfl 4 (by decide) (hts (.fieldLink RX3 16 "MinorStepsModel" "rows" "[I") kw_X_reset_2) (fun _ h9 => h9) rfl dX3_reset_52 ?_
      refine lv_iload_n hx hb dX3_reset_55 rfl (lv_at hl 1 rfl) ?_
      refine lv_iload_n hx hb dX3_reset_56 rfl (lv_at hl 1 rfl) ?_
      obtain ⟨g22, hf⟩ := og_c hf
      refine va_iast hx hb hK hP hD hS 3 0 rfl rfl (og_in g22) dX3_reset_57 (fun H locs hP hD hS => ?_)
      have hP : va_P (dC, dI) vwCl [(q_t, .inr (3, [.int i0_t, .int i1_t, .ref q_t_limbs, .ref q_t_signs, .ref q_t_rows, .int i5_t, .int i6_t, .int i7_t, .int i8_t, .int i9_t, .int i10_t, .int i11_t])), (q_t_limbs, .inl (cA, n_t_limbs, .inl a_t_limbs)), (q_t_signs, .inl (cA, n_t_signs, .inl a_t_signs)), (q_t_rows, .inl (cA, n_t_rows, .inl (upd a_t_rows v1.toNatClampNeg v1)))] H := hP
      have hD : va_D A [(q_t, .inr (3, [.int i0_t, .int i1_t, .ref q_t_limbs, .ref q_t_signs, .ref q_t_rows, .int i5_t, .int i6_t, .int i7_t, .int i8_t, .int i9_t, .int i10_t, .int i11_t])), (q_t_limbs, .inl (cA, n_t_limbs, .inl a_t_limbs)), (q_t_signs, .inl (cA, n_t_signs, .inl a_t_signs)), (q_t_rows, .inl (cA, n_t_rows, .inl (upd a_t_rows v1.toNatClampNeg v1)))] := hD
      refine lv_iinc (v := v1 + 1) (lv' := [(1, .int (v1 + 1)), (0, .ref q_t)]) hx hb dX3_reset_58 hl (k := 1) rfl rfl (by decide) rfl (fun ls hl => ?_)
      refine lv_goto (tgt := 45) hx hb dX3_reset_61 (by decide) ?_
      exact ih (v1 + 1) (upd a_t_rows v1.toNatClampNeg v1) _ hf _ _ (hP.sub [0, 1, 2, 3] rfl) (hD.sub [0, 1, 2, 3] (by decide) rfl) hS _ (lv_sub hl [1, 0] rfl) he
set_option maxHeartbeats 4000000 in
set_option maxRecDepth 100000 in
theorem c_X_reset (l : Launch) (dC : Nat → ClassId) (dI : Nat → Nat → Nat) (cA : ClassId) (sz : Nat) (q_t : Nat) (q_t_limbs : Nat) (q_t_signs : Nat) (q_t_rows : Nat) (k : Nat) (t_n : Int32) (t_room : Int32) (t_chosen : Int32) (t_chosenSign : Int32) (t_chosenLimbs : Int32) (t_state : Int32) (t_done : Int32) (t_pivots : Int32) (t_odd : Int32) (n_t_limbs : Nat) (a_t_limbs : Nat → Int32) (n_t_signs : Nat) (a_t_signs : Nat → Int32) (n_t_rows : Nat) (a_t_rows : Nat → Int32) (o : Int32 × Int32 × Int32 × Int32 × Int32 × (Nat → Int32) × (Nat → Int32) × (Nat → Int32)) (hf : f_X_reset k n_t_limbs a_t_limbs n_t_signs a_t_signs n_t_rows a_t_rows = some o) : Met l yX3_reset wsX3_reset rm_X_reset (c_Pre (dC, dI) vwCl [(cA, .int)] [(q_t, .inr (3, [.int t_n, .int t_room, .ref q_t_limbs, .ref q_t_signs, .ref q_t_rows, .int t_chosen, .int t_chosenSign, .int t_chosenLimbs, .int t_state, .int t_done, .int t_pivots, .int t_odd])), (q_t_limbs, .inl (cA, n_t_limbs, .inl a_t_limbs)), (q_t_signs, .inl (cA, n_t_signs, .inl a_t_signs)), (q_t_rows, .inl (cA, n_t_rows, .inl a_t_rows))] sz [.ref q_t]) (c_Qv (dC, dI) vwCl [(cA, .int)] [(q_t, .inr (3, [.int t_n, .int t_room, .ref q_t_limbs, .ref q_t_signs, .ref q_t_rows, .int o.1, .int t_chosenSign, .int t_chosenLimbs, .int o.2.1, .int o.2.2.1, .int o.2.2.2.1, .int o.2.2.2.2.1])), (q_t_limbs, .inl (cA, n_t_limbs, .inl o.2.2.2.2.2.1)), (q_t_signs, .inl (cA, n_t_signs, .inl o.2.2.2.2.2.2.1)), (q_t_rows, .inl (cA, n_t_rows, .inl o.2.2.2.2.2.2.2))] (va_A [(q_t, .inr (3, [.int t_n, .int t_room, .ref q_t_limbs, .ref q_t_signs, .ref q_t_rows, .int t_chosen, .int t_chosenSign, .int t_chosenLimbs, .int t_state, .int t_done, .int t_pivots, .int t_odd])), (q_t_limbs, .inl (cA, n_t_limbs, .inl a_t_limbs)), (q_t_signs, .inl (cA, n_t_signs, .inl a_t_signs)), (q_t_rows, .inl (cA, n_t_rows, .inl a_t_rows))] sz)) 0 0 (va_A [(q_t, .inr (3, [.int t_n, .int t_room, .ref q_t_limbs, .ref q_t_signs, .ref q_t_rows, .int t_chosen, .int t_chosenSign, .int t_chosenLimbs, .int t_state, .int t_done, .int t_pivots, .int t_odd])), (q_t_limbs, .inl (cA, n_t_limbs, .inl a_t_limbs)), (q_t_signs, .inl (cA, n_t_signs, .inl a_t_signs)), (q_t_rows, .inl (cA, n_t_rows, .inl a_t_rows))] sz) := by
  unfold f_X_reset at hf
  refine k_ent (Qc := fun A => c_Qv (dC, dI) vwCl [(cA, .int)] [(q_t, .inr (3, [.int t_n, .int t_room, .ref q_t_limbs, .ref q_t_signs, .ref q_t_rows, .int o.1, .int t_chosenSign, .int t_chosenLimbs, .int o.2.1, .int o.2.2.1, .int o.2.2.2.1, .int o.2.2.2.2.1])), (q_t_limbs, .inl (cA, n_t_limbs, .inl o.2.2.2.2.2.1)), (q_t_signs, .inl (cA, n_t_signs, .inl o.2.2.2.2.2.2.1)), (q_t_rows, .inl (cA, n_t_rows, .inl o.2.2.2.2.2.2.2))] A) (by decide) rfl (Nat.le_of_ble_eq_true rfl) ?_
  intro p e s m below meth c A hx hb hr hown hts hml hlocks hin hsz hA hK H locs hP hD hS ls hl
  have hown : s.vm.findClass RX3 = some m.cls := hown
  have hl : lv_has ls 2 [(0, .ref q_t)] := hl
  refine lv_iconst (v := 0) hx hb dX3_reset_0 (by decide) ?_
  refine lv_istore_n (lv' := [(1, .int 0), (0, .ref q_t)]) hx hb dX3_reset_1 rfl hl (by decide) rfl (fun ls hl => ?_)
  obtain ⟨x7, g8, hf⟩ := og_b hf
  refine w_X_reset_L2 hx hb hown hts hml hA hK k q_t q_t_limbs q_t_signs q_t_rows t_n t_room t_chosen t_chosenSign t_chosenLimbs t_state t_done t_pivots t_odd n_t_limbs n_t_signs a_t_signs n_t_rows a_t_rows k (0 : Int32) a_t_limbs _ g8 _ _ (hP.sub [0, 1, 2, 3] rfl) (hD.sub [0, 1, 2, 3] (by decide) rfl) hS _ (lv_sub hl [1, 0] rfl) ?_
  intro H locs hP hD hS ls hl
  refine lv_iconst (v := 0) hx hb dX3_reset_22 (by decide) ?_
  refine lv_istore_n (lv' := [(1, .int 0), (0, .ref q_t)]) hx hb dX3_reset_23 rfl hl (by decide) rfl (fun ls hl => ?_)
  obtain ⟨x15, g16, hf⟩ := og_b hf
  refine w_X_reset_L24 hx hb hown hts hml hA hK k q_t q_t_limbs q_t_signs q_t_rows t_n t_room t_chosen t_chosenSign t_chosenLimbs t_state t_done t_pivots t_odd n_t_limbs x7.2 n_t_signs n_t_rows a_t_rows k (0 : Int32) a_t_signs _ g16 _ _ (hP.sub [0, 1, 2, 3] rfl) (hD.sub [0, 1, 2, 3] (by decide) rfl) hS _ (lv_sub hl [1, 0] rfl) ?_
  intro H locs hP hD hS ls hl
  refine lv_iconst (v := 0) hx hb dX3_reset_43 (by decide) ?_
  refine lv_istore_n (lv' := [(1, .int 0), (0, .ref q_t)]) hx hb dX3_reset_44 rfl hl (by decide) rfl (fun ls hl => ?_)
  obtain ⟨x23, g24, hf⟩ := og_b hf
  refine w_X_reset_L45 hx hb hown hts hml hA hK k q_t q_t_limbs q_t_signs q_t_rows t_n t_room t_chosen t_chosenSign t_chosenLimbs t_state t_done t_pivots t_odd n_t_limbs x7.2 n_t_signs x15.2 n_t_rows k (0 : Int32) a_t_rows _ g24 _ _ (hP.sub [0, 1, 2, 3] rfl) (hD.sub [0, 1, 2, 3] (by decide) rfl) hS _ (lv_sub hl [1, 0] rfl) ?_
  intro H locs hP hD hS ls hl
  refine lv_aload_n hx hb dX3_reset_64 rfl (lv_at hl 0 rfl) ?_
  refine lv_iconst (v := (-1)) hx hb dX3_reset_65 (by decide) ?_
  refine va_put (D := (dC, dI)) (ci := 3) (v := .int (-1)) (ty := .int) (C := RX3) (T := TX3) (N := 12) hx hb hts ki_X_reset_X3 tyX3 tyX3_ok nmX3 hown hK hP hD hS 0 rfl rfl 5 (by decide) (hts (.fieldLink RX3 29 "MinorStepsModel" "chosen" "I") kw_X_reset_3) (fun _ h9 => h9) rfl (by decide +kernel) rfl rfl (Nat.le_of_ble_eq_true rfl) dX3_reset_66 (fun H locs hP hD hS => ?_)
  have hP : va_P (dC, dI) vwCl [(q_t, .inr (3, [.int t_n, .int t_room, .ref q_t_limbs, .ref q_t_signs, .ref q_t_rows, .int (-1), .int t_chosenSign, .int t_chosenLimbs, .int t_state, .int t_done, .int t_pivots, .int t_odd])), (q_t_limbs, .inl (cA, n_t_limbs, .inl x7.2)), (q_t_signs, .inl (cA, n_t_signs, .inl x15.2)), (q_t_rows, .inl (cA, n_t_rows, .inl x23.2))] H := hP
  have hD : va_D A [(q_t, .inr (3, [.int t_n, .int t_room, .ref q_t_limbs, .ref q_t_signs, .ref q_t_rows, .int (-1), .int t_chosenSign, .int t_chosenLimbs, .int t_state, .int t_done, .int t_pivots, .int t_odd])), (q_t_limbs, .inl (cA, n_t_limbs, .inl x7.2)), (q_t_signs, .inl (cA, n_t_signs, .inl x15.2)), (q_t_rows, .inl (cA, n_t_rows, .inl x23.2))] := hD
  refine lv_aload_n hx hb dX3_reset_69 rfl (lv_at hl 0 rfl) ?_
  refine lv_iconst (v := 4) hx hb dX3_reset_70 (by decide) ?_
  refine va_put (D := (dC, dI)) (ci := 3) (v := .int 4) (ty := .int) (C := RX3) (T := TX3) (N := 12) hx hb hts ki_X_reset_X3 tyX3 tyX3_ok nmX3 hown hK hP hD hS 0 rfl rfl 8 (by decide) (hts (.fieldLink RX3 32 "MinorStepsModel" "state" "I") kw_X_reset_4) (fun _ h9 => h9) rfl (by decide +kernel) rfl rfl (Nat.le_of_ble_eq_true rfl) dX3_reset_71 (fun H locs hP hD hS => ?_)
  have hP : va_P (dC, dI) vwCl [(q_t, .inr (3, [.int t_n, .int t_room, .ref q_t_limbs, .ref q_t_signs, .ref q_t_rows, .int (-1), .int t_chosenSign, .int t_chosenLimbs, .int 4, .int t_done, .int t_pivots, .int t_odd])), (q_t_limbs, .inl (cA, n_t_limbs, .inl x7.2)), (q_t_signs, .inl (cA, n_t_signs, .inl x15.2)), (q_t_rows, .inl (cA, n_t_rows, .inl x23.2))] H := hP
  have hD : va_D A [(q_t, .inr (3, [.int t_n, .int t_room, .ref q_t_limbs, .ref q_t_signs, .ref q_t_rows, .int (-1), .int t_chosenSign, .int t_chosenLimbs, .int 4, .int t_done, .int t_pivots, .int t_odd])), (q_t_limbs, .inl (cA, n_t_limbs, .inl x7.2)), (q_t_signs, .inl (cA, n_t_signs, .inl x15.2)), (q_t_rows, .inl (cA, n_t_rows, .inl x23.2))] := hD
  refine lv_aload_n hx hb dX3_reset_74 rfl (lv_at hl 0 rfl) ?_
  refine lv_iconst (v := 0) hx hb dX3_reset_75 (by decide) ?_
  refine va_put (D := (dC, dI)) (ci := 3) (v := .int 0) (ty := .int) (C := RX3) (T := TX3) (N := 12) hx hb hts ki_X_reset_X3 tyX3 tyX3_ok nmX3 hown hK hP hD hS 0 rfl rfl 9 (by decide) (hts (.fieldLink RX3 35 "MinorStepsModel" "done" "I") kw_X_reset_5) (fun _ h9 => h9) rfl (by decide +kernel) rfl rfl (Nat.le_of_ble_eq_true rfl) dX3_reset_76 (fun H locs hP hD hS => ?_)
  have hP : va_P (dC, dI) vwCl [(q_t, .inr (3, [.int t_n, .int t_room, .ref q_t_limbs, .ref q_t_signs, .ref q_t_rows, .int (-1), .int t_chosenSign, .int t_chosenLimbs, .int 4, .int 0, .int t_pivots, .int t_odd])), (q_t_limbs, .inl (cA, n_t_limbs, .inl x7.2)), (q_t_signs, .inl (cA, n_t_signs, .inl x15.2)), (q_t_rows, .inl (cA, n_t_rows, .inl x23.2))] H := hP
  have hD : va_D A [(q_t, .inr (3, [.int t_n, .int t_room, .ref q_t_limbs, .ref q_t_signs, .ref q_t_rows, .int (-1), .int t_chosenSign, .int t_chosenLimbs, .int 4, .int 0, .int t_pivots, .int t_odd])), (q_t_limbs, .inl (cA, n_t_limbs, .inl x7.2)), (q_t_signs, .inl (cA, n_t_signs, .inl x15.2)), (q_t_rows, .inl (cA, n_t_rows, .inl x23.2))] := hD
  refine lv_aload_n hx hb dX3_reset_79 rfl (lv_at hl 0 rfl) ?_
  refine lv_iconst (v := 0) hx hb dX3_reset_80 (by decide) ?_
  refine va_put (D := (dC, dI)) (ci := 3) (v := .int 0) (ty := .int) (C := RX3) (T := TX3) (N := 12) hx hb hts ki_X_reset_X3 tyX3 tyX3_ok nmX3 hown hK hP hD hS 0 rfl rfl 10 (by decide) (hts (.fieldLink RX3 38 "MinorStepsModel" "pivots" "I") kw_X_reset_6) (fun _ h9 => h9) rfl (by decide +kernel) rfl rfl (Nat.le_of_ble_eq_true rfl) dX3_reset_81 (fun H locs hP hD hS => ?_)
  have hP : va_P (dC, dI) vwCl [(q_t, .inr (3, [.int t_n, .int t_room, .ref q_t_limbs, .ref q_t_signs, .ref q_t_rows, .int (-1), .int t_chosenSign, .int t_chosenLimbs, .int 4, .int 0, .int 0, .int t_odd])), (q_t_limbs, .inl (cA, n_t_limbs, .inl x7.2)), (q_t_signs, .inl (cA, n_t_signs, .inl x15.2)), (q_t_rows, .inl (cA, n_t_rows, .inl x23.2))] H := hP
  have hD : va_D A [(q_t, .inr (3, [.int t_n, .int t_room, .ref q_t_limbs, .ref q_t_signs, .ref q_t_rows, .int (-1), .int t_chosenSign, .int t_chosenLimbs, .int 4, .int 0, .int 0, .int t_odd])), (q_t_limbs, .inl (cA, n_t_limbs, .inl x7.2)), (q_t_signs, .inl (cA, n_t_signs, .inl x15.2)), (q_t_rows, .inl (cA, n_t_rows, .inl x23.2))] := hD
  refine lv_aload_n hx hb dX3_reset_84 rfl (lv_at hl 0 rfl) ?_
  refine lv_iconst (v := 0) hx hb dX3_reset_85 (by decide) ?_
  refine va_put (D := (dC, dI)) (ci := 3) (v := .int 0) (ty := .boolean) (C := RX3) (T := TX3) (N := 12) hx hb hts ki_X_reset_X3 tyX3 tyX3_ok nmX3 hown hK hP hD hS 0 rfl rfl 11 (by decide) (hts (.fieldLink RX3 41 "MinorStepsModel" "odd" "Z") kw_X_reset_7) (fun _ h9 => h9) rfl (by decide +kernel) rfl rfl (Nat.le_of_ble_eq_true rfl) dX3_reset_86 (fun H locs hP hD hS => ?_)
  have hP : va_P (dC, dI) vwCl [(q_t, .inr (3, [.int t_n, .int t_room, .ref q_t_limbs, .ref q_t_signs, .ref q_t_rows, .int (-1), .int t_chosenSign, .int t_chosenLimbs, .int 4, .int 0, .int 0, .int 0])), (q_t_limbs, .inl (cA, n_t_limbs, .inl x7.2)), (q_t_signs, .inl (cA, n_t_signs, .inl x15.2)), (q_t_rows, .inl (cA, n_t_rows, .inl x23.2))] H := hP
  have hD : va_D A [(q_t, .inr (3, [.int t_n, .int t_room, .ref q_t_limbs, .ref q_t_signs, .ref q_t_rows, .int (-1), .int t_chosenSign, .int t_chosenLimbs, .int 4, .int 0, .int 0, .int 0])), (q_t_limbs, .inl (cA, n_t_limbs, .inl x7.2)), (q_t_signs, .inl (cA, n_t_signs, .inl x15.2)), (q_t_rows, .inl (cA, n_t_rows, .inl x23.2))] := hD
  have e9 := Option.some.inj hf
  subst e9
  exact kr_v hx hb hr hlocks hK hS (hP.sub [0, 1, 2, 3] rfl) (hD.sub [0, 1, 2, 3] (by decide) rfl) dX3_reset_89
def rm_X_isPlace : Room := { frames := 0, cells := 0, slots := 0, locals := 0 }
theorem kw_X_isPlace_0 : (.fieldLink RX3 19 "MinorStepsModel" "n" "I" : Cond) ∈ wsX3_isPlace := by decide +kernel
theorem ki_X_isPlace_X3 : ∀ w ∈ u_ws RX3 TX3 12, w ∈ wsX3_isPlace := by decide +kernel
set_option maxHeartbeats 4000000 in
set_option maxRecDepth 100000 in
theorem c_X_isPlace (l : Launch) (dC : Nat → ClassId) (dI : Nat → Nat → Nat) (cA : ClassId) (sz : Nat) (q_t : Nat) (q_t_limbs : Nat) (q_t_signs : Nat) (q_t_rows : Nat) (t_n : Int32) (t_room : Int32) (t_chosen : Int32) (t_chosenSign : Int32) (t_chosenLimbs : Int32) (t_state : Int32) (t_done : Int32) (t_pivots : Int32) (t_odd : Int32) (n_t_limbs : Nat) (a_t_limbs : Nat → Int32) (n_t_signs : Nat) (a_t_signs : Nat → Int32) (n_t_rows : Nat) (a_t_rows : Nat → Int32) (row : Int32) (column : Int32) (o : Int32) (hf : f_X_isPlace t_n row column = some o) : Met l yX3_isPlace wsX3_isPlace rm_X_isPlace (c_Pre (dC, dI) vwCl [(cA, .int)] [(q_t, .inr (3, [.int t_n, .int t_room, .ref q_t_limbs, .ref q_t_signs, .ref q_t_rows, .int t_chosen, .int t_chosenSign, .int t_chosenLimbs, .int t_state, .int t_done, .int t_pivots, .int t_odd])), (q_t_limbs, .inl (cA, n_t_limbs, .inl a_t_limbs)), (q_t_signs, .inl (cA, n_t_signs, .inl a_t_signs)), (q_t_rows, .inl (cA, n_t_rows, .inl a_t_rows))] sz [.ref q_t, .int row, .int column]) (c_Qi (dC, dI) vwCl [(cA, .int)] [(q_t, .inr (3, [.int t_n, .int t_room, .ref q_t_limbs, .ref q_t_signs, .ref q_t_rows, .int t_chosen, .int t_chosenSign, .int t_chosenLimbs, .int t_state, .int t_done, .int t_pivots, .int t_odd])), (q_t_limbs, .inl (cA, n_t_limbs, .inl a_t_limbs)), (q_t_signs, .inl (cA, n_t_signs, .inl a_t_signs)), (q_t_rows, .inl (cA, n_t_rows, .inl a_t_rows))] (va_A [(q_t, .inr (3, [.int t_n, .int t_room, .ref q_t_limbs, .ref q_t_signs, .ref q_t_rows, .int t_chosen, .int t_chosenSign, .int t_chosenLimbs, .int t_state, .int t_done, .int t_pivots, .int t_odd])), (q_t_limbs, .inl (cA, n_t_limbs, .inl a_t_limbs)), (q_t_signs, .inl (cA, n_t_signs, .inl a_t_signs)), (q_t_rows, .inl (cA, n_t_rows, .inl a_t_rows))] sz) o) 0 0 (va_A [(q_t, .inr (3, [.int t_n, .int t_room, .ref q_t_limbs, .ref q_t_signs, .ref q_t_rows, .int t_chosen, .int t_chosenSign, .int t_chosenLimbs, .int t_state, .int t_done, .int t_pivots, .int t_odd])), (q_t_limbs, .inl (cA, n_t_limbs, .inl a_t_limbs)), (q_t_signs, .inl (cA, n_t_signs, .inl a_t_signs)), (q_t_rows, .inl (cA, n_t_rows, .inl a_t_rows))] sz) := by
  unfold f_X_isPlace at hf
  refine k_ent (Qc := fun A => c_Qi (dC, dI) vwCl [(cA, .int)] [(q_t, .inr (3, [.int t_n, .int t_room, .ref q_t_limbs, .ref q_t_signs, .ref q_t_rows, .int t_chosen, .int t_chosenSign, .int t_chosenLimbs, .int t_state, .int t_done, .int t_pivots, .int t_odd])), (q_t_limbs, .inl (cA, n_t_limbs, .inl a_t_limbs)), (q_t_signs, .inl (cA, n_t_signs, .inl a_t_signs)), (q_t_rows, .inl (cA, n_t_rows, .inl a_t_rows))] A o) (by decide) rfl (Nat.le_of_ble_eq_true rfl) ?_
  intro p e s m below meth c A hx hb hr hown hts hml hlocks hin hsz hA hK H locs hP hD hS ls hl
  have hown : s.vm.findClass RX3 = some m.cls := hown
  have hl : lv_has ls 3 [(0, .ref q_t), (1, .int row), (2, .int column)] := hl
  refine lv_iload_n hx hb dX3_isPlace_0 rfl (lv_at hl 1 rfl) ?_
  refine lv_if_lt (tgt := 28) hx hb dX3_isPlace_1 (by decide) (fun c1 => ?_) (fun c1 => ?_)
  · have hf := og_t c1 hf
    refine lv_iconst (v := 0) hx hb dX3_isPlace_28 (by decide) ?_
    have e9 := Option.some.inj hf
    subst e9
    exact kr_z (v := 0) hx hb hr hlocks nz_0 hK hS (hP.sub [0, 1, 2, 3] rfl) (hD.sub [0, 1, 2, 3] (by decide) rfl) dX3_isPlace_29
  · have hf := og_f c1 hf
    refine lv_iload_n hx hb dX3_isPlace_4 rfl (lv_at hl 1 rfl) ?_
    refine lv_aload_n hx hb dX3_isPlace_5 rfl (lv_at hl 0 rfl) ?_
    refine va_get (D := (dC, dI)) (ci := 3) (v := .int t_n) (C := RX3) (T := TX3) (N := 12) hx hb hts ki_X_isPlace_X3 hown hK hP 0 rfl rfl 0 (by decide) (hts (.fieldLink RX3 19 "MinorStepsModel" "n" "I") kw_X_isPlace_0) (fun _ h9 => h9) rfl dX3_isPlace_6 ?_
    refine lv_icmp_ge (tgt := 28) hx hb dX3_isPlace_9 (by decide) (fun c2 => ?_) (fun c2 => ?_)
    · have hf := og_t c2 hf
      refine lv_iconst (v := 0) hx hb dX3_isPlace_28 (by decide) ?_
      have e9 := Option.some.inj hf
      subst e9
      exact kr_z (v := 0) hx hb hr hlocks nz_0 hK hS (hP.sub [0, 1, 2, 3] rfl) (hD.sub [0, 1, 2, 3] (by decide) rfl) dX3_isPlace_29
    · have hf := og_f c2 hf
      refine lv_iload_n hx hb dX3_isPlace_12 rfl (lv_at hl 2 rfl) ?_
      refine lv_if_lt (tgt := 28) hx hb dX3_isPlace_13 (by decide) (fun c3 => ?_) (fun c3 => ?_)
      · have hf := og_t c3 hf
        refine lv_iconst (v := 0) hx hb dX3_isPlace_28 (by decide) ?_
        have e9 := Option.some.inj hf
        subst e9
        exact kr_z (v := 0) hx hb hr hlocks nz_0 hK hS (hP.sub [0, 1, 2, 3] rfl) (hD.sub [0, 1, 2, 3] (by decide) rfl) dX3_isPlace_29
      · have hf := og_f c3 hf
        refine lv_iload_n hx hb dX3_isPlace_16 rfl (lv_at hl 2 rfl) ?_
        refine lv_aload_n hx hb dX3_isPlace_17 rfl (lv_at hl 0 rfl) ?_
        refine va_get (D := (dC, dI)) (ci := 3) (v := .int t_n) (C := RX3) (T := TX3) (N := 12) hx hb hts ki_X_isPlace_X3 hown hK hP 0 rfl rfl 0 (by decide) (hts (.fieldLink RX3 19 "MinorStepsModel" "n" "I") kw_X_isPlace_0) (fun _ h9 => h9) rfl dX3_isPlace_18 ?_
        refine lv_icmp_gt (tgt := 28) hx hb dX3_isPlace_21 (by decide) (fun c4 => ?_) (fun c4 => ?_)
        · have hf := og_t c4 hf
          refine lv_iconst (v := 0) hx hb dX3_isPlace_28 (by decide) ?_
          have e9 := Option.some.inj hf
          subst e9
          exact kr_z (v := 0) hx hb hr hlocks nz_0 hK hS (hP.sub [0, 1, 2, 3] rfl) (hD.sub [0, 1, 2, 3] (by decide) rfl) dX3_isPlace_29
        · have hf := og_f c4 hf
          refine lv_iconst (v := 1) hx hb dX3_isPlace_24 (by decide) ?_
          refine lv_goto (tgt := 29) hx hb dX3_isPlace_25 (by decide) ?_
          have e9 := Option.some.inj hf
          subst e9
          exact kr_z (v := 1) hx hb hr hlocks nz_1 hK hS (hP.sub [0, 1, 2, 3] rfl) (hD.sub [0, 1, 2, 3] (by decide) rfl) dX3_isPlace_29
def rm_X_place : Room := { frames := 0, cells := 0, slots := 0, locals := 0 }
theorem kw_X_place_0 : (.fieldLink RX3 19 "MinorStepsModel" "n" "I" : Cond) ∈ wsX3_place := by decide +kernel
theorem ki_X_place_X3 : ∀ w ∈ u_ws RX3 TX3 12, w ∈ wsX3_place := by decide +kernel
set_option maxHeartbeats 4000000 in
set_option maxRecDepth 100000 in
theorem c_X_place (l : Launch) (dC : Nat → ClassId) (dI : Nat → Nat → Nat) (cA : ClassId) (sz : Nat) (q_t : Nat) (q_t_limbs : Nat) (q_t_signs : Nat) (q_t_rows : Nat) (t_n : Int32) (t_room : Int32) (t_chosen : Int32) (t_chosenSign : Int32) (t_chosenLimbs : Int32) (t_state : Int32) (t_done : Int32) (t_pivots : Int32) (t_odd : Int32) (n_t_limbs : Nat) (a_t_limbs : Nat → Int32) (n_t_signs : Nat) (a_t_signs : Nat → Int32) (n_t_rows : Nat) (a_t_rows : Nat → Int32) (row : Int32) (column : Int32) (o : Int32) (hf : f_X_place t_n row column = some o) : Met l yX3_place wsX3_place rm_X_place (c_Pre (dC, dI) vwCl [(cA, .int)] [(q_t, .inr (3, [.int t_n, .int t_room, .ref q_t_limbs, .ref q_t_signs, .ref q_t_rows, .int t_chosen, .int t_chosenSign, .int t_chosenLimbs, .int t_state, .int t_done, .int t_pivots, .int t_odd])), (q_t_limbs, .inl (cA, n_t_limbs, .inl a_t_limbs)), (q_t_signs, .inl (cA, n_t_signs, .inl a_t_signs)), (q_t_rows, .inl (cA, n_t_rows, .inl a_t_rows))] sz [.ref q_t, .int row, .int column]) (c_Qi (dC, dI) vwCl [(cA, .int)] [(q_t, .inr (3, [.int t_n, .int t_room, .ref q_t_limbs, .ref q_t_signs, .ref q_t_rows, .int t_chosen, .int t_chosenSign, .int t_chosenLimbs, .int t_state, .int t_done, .int t_pivots, .int t_odd])), (q_t_limbs, .inl (cA, n_t_limbs, .inl a_t_limbs)), (q_t_signs, .inl (cA, n_t_signs, .inl a_t_signs)), (q_t_rows, .inl (cA, n_t_rows, .inl a_t_rows))] (va_A [(q_t, .inr (3, [.int t_n, .int t_room, .ref q_t_limbs, .ref q_t_signs, .ref q_t_rows, .int t_chosen, .int t_chosenSign, .int t_chosenLimbs, .int t_state, .int t_done, .int t_pivots, .int t_odd])), (q_t_limbs, .inl (cA, n_t_limbs, .inl a_t_limbs)), (q_t_signs, .inl (cA, n_t_signs, .inl a_t_signs)), (q_t_rows, .inl (cA, n_t_rows, .inl a_t_rows))] sz) o) 0 0 (va_A [(q_t, .inr (3, [.int t_n, .int t_room, .ref q_t_limbs, .ref q_t_signs, .ref q_t_rows, .int t_chosen, .int t_chosenSign, .int t_chosenLimbs, .int t_state, .int t_done, .int t_pivots, .int t_odd])), (q_t_limbs, .inl (cA, n_t_limbs, .inl a_t_limbs)), (q_t_signs, .inl (cA, n_t_signs, .inl a_t_signs)), (q_t_rows, .inl (cA, n_t_rows, .inl a_t_rows))] sz) := by
  unfold f_X_place at hf
  refine k_ent (Qc := fun A => c_Qi (dC, dI) vwCl [(cA, .int)] [(q_t, .inr (3, [.int t_n, .int t_room, .ref q_t_limbs, .ref q_t_signs, .ref q_t_rows, .int t_chosen, .int t_chosenSign, .int t_chosenLimbs, .int t_state, .int t_done, .int t_pivots, .int t_odd])), (q_t_limbs, .inl (cA, n_t_limbs, .inl a_t_limbs)), (q_t_signs, .inl (cA, n_t_signs, .inl a_t_signs)), (q_t_rows, .inl (cA, n_t_rows, .inl a_t_rows))] A o) (by decide) rfl (Nat.le_of_ble_eq_true rfl) ?_
  intro p e s m below meth c A hx hb hr hown hts hml hlocks hin hsz hA hK H locs hP hD hS ls hl
  have hown : s.vm.findClass RX3 = some m.cls := hown
  have hl : lv_has ls 3 [(0, .ref q_t), (1, .int row), (2, .int column)] := hl
  refine lv_bipush (v := 7) hx hb dX3_place_0 (by decide) ?_
  refine lv_iload_n hx hb dX3_place_2 rfl (lv_at hl 1 rfl) ?_
  refine lv_imul hx hb dX3_place_3 ?_
  refine lv_iload_n hx hb dX3_place_4 rfl (lv_at hl 2 rfl) ?_
  refine lv_aload_n hx hb dX3_place_5 rfl (lv_at hl 0 rfl) ?_
  refine va_get (D := (dC, dI)) (ci := 3) (v := .int t_n) (C := RX3) (T := TX3) (N := 12) hx hb hts ki_X_place_X3 hown hK hP 0 rfl rfl 0 (by decide) (hts (.fieldLink RX3 19 "MinorStepsModel" "n" "I") kw_X_place_0) (fun _ h9 => h9) rfl dX3_place_6 ?_
  refine lv_icmp_ne (tgt := 17) hx hb dX3_place_9 (by decide) (fun c1 => ?_) (fun c1 => ?_)
  · have hf := og_f c1 hf
    refine lv_iload_n hx hb dX3_place_17 rfl (lv_at hl 2 rfl) ?_
    refine lv_iadd hx hb dX3_place_18 ?_
    have e9 := Option.some.inj hf
    subst e9
    exact kr_i hx hb hr hlocks hK hS (hP.sub [0, 1, 2, 3] rfl) (hD.sub [0, 1, 2, 3] (by decide) rfl) dX3_place_19
  · have hf := og_t c1 hf
    refine lv_bipush (v := 6) hx hb dX3_place_12 (by decide) ?_
    refine lv_goto (tgt := 18) hx hb dX3_place_14 (by decide) ?_
    refine lv_iadd hx hb dX3_place_18 ?_
    have e9 := Option.some.inj hf
    subst e9
    exact kr_i hx hb hr hlocks hK hS (hP.sub [0, 1, 2, 3] rfl) (hD.sub [0, 1, 2, 3] (by decide) rfl) dX3_place_19
def rm_X_clear : Room := { frames := 0, cells := 0, slots := 0, locals := 0 }
theorem kw_X_clear_0 : (.fieldLink RX3 7 "MinorStepsModel" "limbs" "[I" : Cond) ∈ wsX3_clear := by decide +kernel
theorem kw_X_clear_1 : (.fieldLink RX3 13 "MinorStepsModel" "signs" "[I" : Cond) ∈ wsX3_clear := by decide +kernel
theorem ki_X_clear_X3 : ∀ w ∈ u_ws RX3 TX3 12, w ∈ wsX3_clear := by decide +kernel
set_option maxHeartbeats 4000000 in
set_option maxRecDepth 100000 in
theorem w_X_clear_L2 {p : Program} {l : Launch} {e : Env} {s : State} {m : MethodId} {args : Array Value} {below : List Frame} {meth : Method} {c : Code} {Q : State → Prop} {A : Nat → Prop} {H0 : Heap} {dC : Nat → ClassId} {dI : Nat → Nat → Nat} {cA : ClassId} (hx : p.tables.exec = Jvm.exec) (hb : c.code = cX3_clear) (hown : s.vm.findClass RX3 = some m.cls) (hts : ∀ w ∈ wsX3_clear, w.before args s = true) (hml : c.maxLocals = 3) (hA : ∀ q, H0.size ≤ q → A q) (hK : va_K (dC, dI) vwCl [(cA, .int)] s) (k : Nat) (q_t : Nat) (q_t_limbs : Nat) (q_t_signs : Nat) (q_t_rows : Nat) (v1 : Int32) (i0_t : Int32) (i1_t : Int32) (i5_t : Int32) (i6_t : Int32) (i7_t : Int32) (i8_t : Int32) (i9_t : Int32) (i10_t : Int32) (i11_t : Int32) (n_t_limbs : Nat) (n_t_signs : Nat) (a_t_signs : Nat → Int32) (n_t_rows : Nat) (a_t_rows : Nat → Int32) : ∀ (j : Nat) (v2 : Int32) (a_t_limbs : Nat → Int32) (o : Int32 × (Nat → Int32)), f_X_clear_L2 k v1 n_t_limbs j v2 a_t_limbs = some o → ∀ (H : Heap) (locs : List Loc), va_P (dC, dI) vwCl [(q_t, .inr (3, [.int i0_t, .int i1_t, .ref q_t_limbs, .ref q_t_signs, .ref q_t_rows, .int i5_t, .int i6_t, .int i7_t, .int i8_t, .int i9_t, .int i10_t, .int i11_t])), (q_t_limbs, .inl (cA, n_t_limbs, .inl a_t_limbs)), (q_t_signs, .inl (cA, n_t_signs, .inl a_t_signs)), (q_t_rows, .inl (cA, n_t_rows, .inl a_t_rows))] H → va_D A [(q_t, .inr (3, [.int i0_t, .int i1_t, .ref q_t_limbs, .ref q_t_signs, .ref q_t_rows, .int i5_t, .int i6_t, .int i7_t, .int i8_t, .int i9_t, .int i10_t, .int i11_t])), (q_t_limbs, .inl (cA, n_t_limbs, .inl a_t_limbs)), (q_t_signs, .inl (cA, n_t_signs, .inl a_t_signs)), (q_t_rows, .inl (cA, n_t_rows, .inl a_t_rows))] → va_S A H0 H locs → ∀ ls : Array Slot, lv_has ls 3 [(0, .ref q_t), (1, .int v1), (2, .int v2)] → ∀ (he : ∀ (H : Heap) (locs : List Loc), va_P (dC, dI) vwCl [(q_t, .inr (3, [.int i0_t, .int i1_t, .ref q_t_limbs, .ref q_t_signs, .ref q_t_rows, .int i5_t, .int i6_t, .int i7_t, .int i8_t, .int i9_t, .int i10_t, .int i11_t])), (q_t_limbs, .inl (cA, n_t_limbs, .inl o.2)), (q_t_signs, .inl (cA, n_t_signs, .inl a_t_signs)), (q_t_rows, .inl (cA, n_t_rows, .inl a_t_rows))] H → va_D A [(q_t, .inr (3, [.int i0_t, .int i1_t, .ref q_t_limbs, .ref q_t_signs, .ref q_t_rows, .int i5_t, .int i6_t, .int i7_t, .int i8_t, .int i9_t, .int i10_t, .int i11_t])), (q_t_limbs, .inl (cA, n_t_limbs, .inl o.2)), (q_t_signs, .inl (cA, n_t_signs, .inl a_t_signs)), (q_t_rows, .inl (cA, n_t_rows, .inl a_t_rows))] → va_S A H0 H locs → ∀ ls : Array Slot, lv_has ls 3 [(0, .ref q_t), (1, .int v1)] → W p l e rm_X_clear s m args below meth c H locs 0 0 Q (F0 m 26 ls [])), W p l e rm_X_clear s m args below meth c H locs 0 0 Q (F0 m 2 ls []) := by
  intro j
  induction j with
  | zero =>
    intro v2 a_t_limbs o hf
    rw [f_X_clear_L2] at hf
    cases hf
  | succ j ih =>
    intro v2 a_t_limbs o hf H locs hP hD hS ls hl he
    rw [f_X_clear_L2] at hf
    refine lv_iload_n hx hb dX3_clear_2 rfl (lv_at hl 2 rfl) ?_
    refine lv_bipush (v := 40) hx hb dX3_clear_3 (by decide) ?_
    refine lv_icmp_ge (tgt := 26) hx hb dX3_clear_5 (by decide) (fun c5 => ?_) (fun c5 => ?_)
    · have hf := og_t c5 hf
      have e9 := Option.some.inj hf
      subst e9
      exact he _ _ (hP.sub [0, 1, 2, 3] rfl) (hD.sub [0, 1, 2, 3] (by decide) rfl) hS _ (lv_sub hl [0, 1] rfl)
    · have hf := og_f c5 hf
      refine lv_aload_n hx hb dX3_clear_8 rfl (lv_at hl 0 rfl) ?_
      refine va_get (D := (dC, dI)) (ci := 3) (v := .ref q_t_limbs) (C := RX3) (T := TX3) (N := 12) hx hb hts ki_X_clear_X3 hown hK hP 0 rfl rfl 2 (by decide) (hts (.fieldLink RX3 7 "MinorStepsModel" "limbs" "[I") kw_X_clear_0) (fun _ h9 => h9) rfl dX3_clear_9 ?_
      refine lv_bipush (v := 40) hx hb dX3_clear_12 (by decide) ?_
      refine lv_iload_n hx hb dX3_clear_14 rfl (lv_at hl 1 rfl) ?_
      refine lv_imul hx hb dX3_clear_15 ?_
      refine lv_iload_n hx hb dX3_clear_16 rfl (lv_at hl 2 rfl) ?_
      refine lv_iadd hx hb dX3_clear_17 ?_
      refine lv_iconst (v := 0) hx hb dX3_clear_18 (by decide) ?_
      obtain ⟨g6, hf⟩ := og_c hf
      refine va_iast hx hb hK hP hD hS 1 0 rfl rfl (og_in g6) dX3_clear_19 (fun H locs hP hD hS => ?_)
      have hP : va_P (dC, dI) vwCl [(q_t, .inr (3, [.int i0_t, .int i1_t, .ref q_t_limbs, .ref q_t_signs, .ref q_t_rows, .int i5_t, .int i6_t, .int i7_t, .int i8_t, .int i9_t, .int i10_t, .int i11_t])), (q_t_limbs, .inl (cA, n_t_limbs, .inl (upd a_t_limbs ((40 * v1) + v2).toNatClampNeg 0))), (q_t_signs, .inl (cA, n_t_signs, .inl a_t_signs)), (q_t_rows, .inl (cA, n_t_rows, .inl a_t_rows))] H := hP
      have hD : va_D A [(q_t, .inr (3, [.int i0_t, .int i1_t, .ref q_t_limbs, .ref q_t_signs, .ref q_t_rows, .int i5_t, .int i6_t, .int i7_t, .int i8_t, .int i9_t, .int i10_t, .int i11_t])), (q_t_limbs, .inl (cA, n_t_limbs, .inl (upd a_t_limbs ((40 * v1) + v2).toNatClampNeg 0))), (q_t_signs, .inl (cA, n_t_signs, .inl a_t_signs)), (q_t_rows, .inl (cA, n_t_rows, .inl a_t_rows))] := hD
      refine lv_iinc (v := v2 + 1) (lv' := [(2, .int (v2 + 1)), (0, .ref q_t), (1, .int v1)]) hx hb dX3_clear_20 hl (k := 2) rfl rfl (by decide) rfl (fun ls hl => ?_)
      refine lv_goto (tgt := 2) hx hb dX3_clear_23 (by decide) ?_
      exact ih (v2 + 1) (upd a_t_limbs ((40 * v1) + v2).toNatClampNeg 0) _ hf _ _ (hP.sub [0, 1, 2, 3] rfl) (hD.sub [0, 1, 2, 3] (by decide) rfl) hS _ (lv_sub hl [1, 2, 0] rfl) he
set_option maxHeartbeats 4000000 in
set_option maxRecDepth 100000 in
theorem c_X_clear (l : Launch) (dC : Nat → ClassId) (dI : Nat → Nat → Nat) (cA : ClassId) (sz : Nat) (q_t : Nat) (q_t_limbs : Nat) (q_t_signs : Nat) (q_t_rows : Nat) (k : Nat) (t_n : Int32) (t_room : Int32) (t_chosen : Int32) (t_chosenSign : Int32) (t_chosenLimbs : Int32) (t_state : Int32) (t_done : Int32) (t_pivots : Int32) (t_odd : Int32) (n_t_limbs : Nat) (a_t_limbs : Nat → Int32) (n_t_signs : Nat) (a_t_signs : Nat → Int32) (n_t_rows : Nat) (a_t_rows : Nat → Int32) (pp : Int32) (o : (Nat → Int32) × (Nat → Int32)) (hf : f_X_clear k n_t_limbs a_t_limbs n_t_signs a_t_signs pp = some o) : Met l yX3_clear wsX3_clear rm_X_clear (c_Pre (dC, dI) vwCl [(cA, .int)] [(q_t, .inr (3, [.int t_n, .int t_room, .ref q_t_limbs, .ref q_t_signs, .ref q_t_rows, .int t_chosen, .int t_chosenSign, .int t_chosenLimbs, .int t_state, .int t_done, .int t_pivots, .int t_odd])), (q_t_limbs, .inl (cA, n_t_limbs, .inl a_t_limbs)), (q_t_signs, .inl (cA, n_t_signs, .inl a_t_signs)), (q_t_rows, .inl (cA, n_t_rows, .inl a_t_rows))] sz [.ref q_t, .int pp]) (c_Qv (dC, dI) vwCl [(cA, .int)] [(q_t, .inr (3, [.int t_n, .int t_room, .ref q_t_limbs, .ref q_t_signs, .ref q_t_rows, .int t_chosen, .int t_chosenSign, .int t_chosenLimbs, .int t_state, .int t_done, .int t_pivots, .int t_odd])), (q_t_limbs, .inl (cA, n_t_limbs, .inl o.1)), (q_t_signs, .inl (cA, n_t_signs, .inl o.2)), (q_t_rows, .inl (cA, n_t_rows, .inl a_t_rows))] (va_A [(q_t, .inr (3, [.int t_n, .int t_room, .ref q_t_limbs, .ref q_t_signs, .ref q_t_rows, .int t_chosen, .int t_chosenSign, .int t_chosenLimbs, .int t_state, .int t_done, .int t_pivots, .int t_odd])), (q_t_limbs, .inl (cA, n_t_limbs, .inl a_t_limbs)), (q_t_signs, .inl (cA, n_t_signs, .inl a_t_signs)), (q_t_rows, .inl (cA, n_t_rows, .inl a_t_rows))] sz)) 0 0 (va_A [(q_t, .inr (3, [.int t_n, .int t_room, .ref q_t_limbs, .ref q_t_signs, .ref q_t_rows, .int t_chosen, .int t_chosenSign, .int t_chosenLimbs, .int t_state, .int t_done, .int t_pivots, .int t_odd])), (q_t_limbs, .inl (cA, n_t_limbs, .inl a_t_limbs)), (q_t_signs, .inl (cA, n_t_signs, .inl a_t_signs)), (q_t_rows, .inl (cA, n_t_rows, .inl a_t_rows))] sz) := by
  unfold f_X_clear at hf
  refine k_ent (Qc := fun A => c_Qv (dC, dI) vwCl [(cA, .int)] [(q_t, .inr (3, [.int t_n, .int t_room, .ref q_t_limbs, .ref q_t_signs, .ref q_t_rows, .int t_chosen, .int t_chosenSign, .int t_chosenLimbs, .int t_state, .int t_done, .int t_pivots, .int t_odd])), (q_t_limbs, .inl (cA, n_t_limbs, .inl o.1)), (q_t_signs, .inl (cA, n_t_signs, .inl o.2)), (q_t_rows, .inl (cA, n_t_rows, .inl a_t_rows))] A) (by decide) rfl (Nat.le_of_ble_eq_true rfl) ?_
  intro p e s m below meth c A hx hb hr hown hts hml hlocks hin hsz hA hK H locs hP hD hS ls hl
  have hown : s.vm.findClass RX3 = some m.cls := hown
  have hl : lv_has ls 3 [(0, .ref q_t), (1, .int pp)] := hl
  refine lv_iconst (v := 0) hx hb dX3_clear_0 (by decide) ?_
  refine lv_istore_n (lv' := [(2, .int 0), (0, .ref q_t), (1, .int pp)]) hx hb dX3_clear_1 rfl hl (by decide) rfl (fun ls hl => ?_)
  obtain ⟨x7, g8, hf⟩ := og_b hf
  refine w_X_clear_L2 hx hb hown hts hml hA hK k q_t q_t_limbs q_t_signs q_t_rows pp t_n t_room t_chosen t_chosenSign t_chosenLimbs t_state t_done t_pivots t_odd n_t_limbs n_t_signs a_t_signs n_t_rows a_t_rows k (0 : Int32) a_t_limbs _ g8 _ _ (hP.sub [0, 1, 2, 3] rfl) (hD.sub [0, 1, 2, 3] (by decide) rfl) hS _ (lv_sub hl [1, 2, 0] rfl) ?_
  intro H locs hP hD hS ls hl
  refine lv_aload_n hx hb dX3_clear_26 rfl (lv_at hl 0 rfl) ?_
  refine va_get (D := (dC, dI)) (ci := 3) (v := .ref q_t_signs) (C := RX3) (T := TX3) (N := 12) hx hb hts ki_X_clear_X3 hown hK hP 0 rfl rfl 3 (by decide) (hts (.fieldLink RX3 13 "MinorStepsModel" "signs" "[I") kw_X_clear_1) (fun _ h9 => h9) rfl dX3_clear_27 ?_
  refine lv_iload_n hx hb dX3_clear_30 rfl (lv_at hl 1 rfl) ?_
  refine lv_iconst (v := 0) hx hb dX3_clear_31 (by decide) ?_
  obtain ⟨g9, hf⟩ := og_c hf
  refine va_iast hx hb hK hP hD hS 2 0 rfl rfl (og_in g9) dX3_clear_32 (fun H locs hP hD hS => ?_)
  have hP : va_P (dC, dI) vwCl [(q_t, .inr (3, [.int t_n, .int t_room, .ref q_t_limbs, .ref q_t_signs, .ref q_t_rows, .int t_chosen, .int t_chosenSign, .int t_chosenLimbs, .int t_state, .int t_done, .int t_pivots, .int t_odd])), (q_t_limbs, .inl (cA, n_t_limbs, .inl x7.2)), (q_t_signs, .inl (cA, n_t_signs, .inl (upd a_t_signs pp.toNatClampNeg 0))), (q_t_rows, .inl (cA, n_t_rows, .inl a_t_rows))] H := hP
  have hD : va_D A [(q_t, .inr (3, [.int t_n, .int t_room, .ref q_t_limbs, .ref q_t_signs, .ref q_t_rows, .int t_chosen, .int t_chosenSign, .int t_chosenLimbs, .int t_state, .int t_done, .int t_pivots, .int t_odd])), (q_t_limbs, .inl (cA, n_t_limbs, .inl x7.2)), (q_t_signs, .inl (cA, n_t_signs, .inl (upd a_t_signs pp.toNatClampNeg 0))), (q_t_rows, .inl (cA, n_t_rows, .inl a_t_rows))] := hD
  have e9 := Option.some.inj hf
  subst e9
  exact kr_v hx hb hr hlocks hK hS (hP.sub [0, 1, 2, 3] rfl) (hD.sub [0, 1, 2, 3] (by decide) rfl) dX3_clear_33
def rm_X_entry : Room := { frames := 1, cells := 0, slots := 0, locals := 22 }
theorem kw_X_entry_0 : (.fieldLink RX3 32 "MinorStepsModel" "state" "I" : Cond) ∈ wsX3_entry := by decide +kernel
theorem kw_X_entry_1 : (.fieldLink RX3 29 "MinorStepsModel" "chosen" "I" : Cond) ∈ wsX3_entry := by decide +kernel
theorem kw_X_entry_2 : (.fieldLink RX3 53 "MinorStepsModel" "chosenSign" "I" : Cond) ∈ wsX3_entry := by decide +kernel
theorem kw_X_entry_3 : (.fieldLink RX3 56 "MinorStepsModel" "chosenLimbs" "I" : Cond) ∈ wsX3_entry := by decide +kernel
theorem ki_X_entry_X3 : ∀ w ∈ u_ws RX3 TX3 12, w ∈ wsX3_entry := by decide +kernel
set_option maxHeartbeats 4000000 in
set_option maxRecDepth 100000 in
theorem c_X_entry (l : Launch) (dC : Nat → ClassId) (dI : Nat → Nat → Nat) (cA : ClassId) (sz : Nat) (q_t : Nat) (q_t_limbs : Nat) (q_t_signs : Nat) (q_t_rows : Nat) (k : Nat) (t_n : Int32) (t_room : Int32) (t_chosen : Int32) (t_chosenSign : Int32) (t_chosenLimbs : Int32) (t_state : Int32) (t_done : Int32) (t_pivots : Int32) (t_odd : Int32) (n_t_limbs : Nat) (a_t_limbs : Nat → Int32) (n_t_signs : Nat) (a_t_signs : Nat → Int32) (n_t_rows : Nat) (a_t_rows : Nat → Int32) (row : Int32) (column : Int32) (sign : Int32) (o : Int32 × Int32 × Int32 × Int32 × (Nat → Int32) × (Nat → Int32)) (hf : f_X_entry k t_n t_chosen t_chosenSign t_chosenLimbs t_state n_t_limbs a_t_limbs n_t_signs a_t_signs row column sign = some o) : Met l yX3_entry wsX3_entry rm_X_entry (c_Pre (dC, dI) vwCl [(cA, .int)] [(q_t, .inr (3, [.int t_n, .int t_room, .ref q_t_limbs, .ref q_t_signs, .ref q_t_rows, .int t_chosen, .int t_chosenSign, .int t_chosenLimbs, .int t_state, .int t_done, .int t_pivots, .int t_odd])), (q_t_limbs, .inl (cA, n_t_limbs, .inl a_t_limbs)), (q_t_signs, .inl (cA, n_t_signs, .inl a_t_signs)), (q_t_rows, .inl (cA, n_t_rows, .inl a_t_rows))] sz [.ref q_t, .int row, .int column, .int sign]) (c_Qi (dC, dI) vwCl [(cA, .int)] [(q_t, .inr (3, [.int t_n, .int t_room, .ref q_t_limbs, .ref q_t_signs, .ref q_t_rows, .int o.2.1, .int o.2.2.1, .int o.2.2.2.1, .int t_state, .int t_done, .int t_pivots, .int t_odd])), (q_t_limbs, .inl (cA, n_t_limbs, .inl o.2.2.2.2.1)), (q_t_signs, .inl (cA, n_t_signs, .inl o.2.2.2.2.2)), (q_t_rows, .inl (cA, n_t_rows, .inl a_t_rows))] (va_A [(q_t, .inr (3, [.int t_n, .int t_room, .ref q_t_limbs, .ref q_t_signs, .ref q_t_rows, .int t_chosen, .int t_chosenSign, .int t_chosenLimbs, .int t_state, .int t_done, .int t_pivots, .int t_odd])), (q_t_limbs, .inl (cA, n_t_limbs, .inl a_t_limbs)), (q_t_signs, .inl (cA, n_t_signs, .inl a_t_signs)), (q_t_rows, .inl (cA, n_t_rows, .inl a_t_rows))] sz) o.1) 0 0 (va_A [(q_t, .inr (3, [.int t_n, .int t_room, .ref q_t_limbs, .ref q_t_signs, .ref q_t_rows, .int t_chosen, .int t_chosenSign, .int t_chosenLimbs, .int t_state, .int t_done, .int t_pivots, .int t_odd])), (q_t_limbs, .inl (cA, n_t_limbs, .inl a_t_limbs)), (q_t_signs, .inl (cA, n_t_signs, .inl a_t_signs)), (q_t_rows, .inl (cA, n_t_rows, .inl a_t_rows))] sz) := by
  unfold f_X_entry at hf
  refine k_ent (Qc := fun A => c_Qi (dC, dI) vwCl [(cA, .int)] [(q_t, .inr (3, [.int t_n, .int t_room, .ref q_t_limbs, .ref q_t_signs, .ref q_t_rows, .int o.2.1, .int o.2.2.1, .int o.2.2.2.1, .int t_state, .int t_done, .int t_pivots, .int t_odd])), (q_t_limbs, .inl (cA, n_t_limbs, .inl o.2.2.2.2.1)), (q_t_signs, .inl (cA, n_t_signs, .inl o.2.2.2.2.2)), (q_t_rows, .inl (cA, n_t_rows, .inl a_t_rows))] A o.1) (by decide) rfl (Nat.le_of_ble_eq_true rfl) ?_
  intro p e s m below meth c A hx hb hr hown hts hml hlocks hin hsz hA hK H locs hP hD hS ls hl
  have hown : s.vm.findClass RX3 = some m.cls := hown
  have hl : lv_has ls 4 [(0, .ref q_t), (1, .int row), (2, .int column), (3, .int sign)] := hl
  refine lv_aload_n hx hb dX3_entry_0 rfl (lv_at hl 0 rfl) ?_
  refine va_get (D := (dC, dI)) (ci := 3) (v := .int t_state) (C := RX3) (T := TX3) (N := 12) hx hb hts ki_X_entry_X3 hown hK hP 0 rfl rfl 8 (by decide) (hts (.fieldLink RX3 32 "MinorStepsModel" "state" "I") kw_X_entry_0) (fun _ h9 => h9) rfl dX3_entry_1 ?_
  refine lv_iconst (v := 4) hx hb dX3_entry_4 (by decide) ?_
  refine lv_icmp_ne (tgt := 27) hx hb dX3_entry_5 (by decide) (fun c1 => ?_) (fun c1 => ?_)
  · have hf := og_f c1 hf
    refine lv_iconst (v := 0) hx hb dX3_entry_27 (by decide) ?_
    have e9 := Option.some.inj hf
    subst e9
    exact kr_z (v := 0) hx hb hr hlocks nz_0 hK hS (hP.sub [0, 1, 2, 3] rfl) (hD.sub [0, 1, 2, 3] (by decide) rfl) dX3_entry_28
  · have hf := og_t c1 hf
    refine lv_aload_n hx hb dX3_entry_8 rfl (lv_at hl 0 rfl) ?_
    refine lv_iload_n hx hb dX3_entry_9 rfl (lv_at hl 1 rfl) ?_
    refine lv_iload_n hx hb dX3_entry_10 rfl (lv_at hl 2 rfl) ?_
    obtain ⟨x2, g3, hf⟩ := og_b hf
    refine kc_i (wr := []) (w1 := [(q_t, .inr (3, [.int t_n, .int t_room, .ref q_t_limbs, .ref q_t_signs, .ref q_t_rows, .int t_chosen, .int t_chosenSign, .int t_chosenLimbs, .int t_state, .int t_done, .int t_pivots, .int t_odd])), (q_t_limbs, .inl (cA, n_t_limbs, .inl a_t_limbs)), (q_t_signs, .inl (cA, n_t_signs, .inl a_t_signs)), (q_t_rows, .inl (cA, n_t_rows, .inl a_t_rows))]) [0, 1, 2, 3] [] (va_runV (As := [.int row, .int column]) (rest := []) ⟨hx, hb, hml, hown, hts⟩ (c_X_isPlace l dC dI cA H.size q_t q_t_limbs q_t_signs q_t_rows t_n t_room t_chosen t_chosenSign t_chosenLimbs t_state t_done t_pivots t_odd n_t_limbs a_t_limbs n_t_signs a_t_signs n_t_rows a_t_rows row column x2 g3) (cwV 2 hts gX3_entry_X3_isPlace rfl rfl rfl (by decide +kernel) ⟨Nat.le_of_ble_eq_true rfl, Nat.le_of_ble_eq_true rfl⟩) (kc_preV hP hD hK [0, 1, 2, 3] rfl rfl (by decide) (ci := 3) (q0 := 0) rfl rfl) rfl rfl hl.1 rfl (lv_room (Nat.le_of_ble_eq_true rfl)) dX3_entry_11 ⟨Nat.le_of_ble_eq_true rfl, Nat.le_of_ble_eq_true rfl⟩) hP hD hS hA rfl rfl (by decide) (by decide) (fun H locs hP hD hS => ?_)
    have hP : va_P (dC, dI) vwCl [(q_t, .inr (3, [.int t_n, .int t_room, .ref q_t_limbs, .ref q_t_signs, .ref q_t_rows, .int t_chosen, .int t_chosenSign, .int t_chosenLimbs, .int t_state, .int t_done, .int t_pivots, .int t_odd])), (q_t_limbs, .inl (cA, n_t_limbs, .inl a_t_limbs)), (q_t_signs, .inl (cA, n_t_signs, .inl a_t_signs)), (q_t_rows, .inl (cA, n_t_rows, .inl a_t_rows))] H := hP
    have hD : va_D A [(q_t, .inr (3, [.int t_n, .int t_room, .ref q_t_limbs, .ref q_t_signs, .ref q_t_rows, .int t_chosen, .int t_chosenSign, .int t_chosenLimbs, .int t_state, .int t_done, .int t_pivots, .int t_odd])), (q_t_limbs, .inl (cA, n_t_limbs, .inl a_t_limbs)), (q_t_signs, .inl (cA, n_t_signs, .inl a_t_signs)), (q_t_rows, .inl (cA, n_t_rows, .inl a_t_rows))] := hD
    refine lv_if_eq (tgt := 27) hx hb dX3_entry_14 (by decide) (fun c4 => ?_) (fun c4 => ?_)
    · have hf := og_t c4 hf
      refine lv_iconst (v := 0) hx hb dX3_entry_27 (by decide) ?_
      have e9 := Option.some.inj hf
      subst e9
      exact kr_z (v := 0) hx hb hr hlocks nz_0 hK hS (hP.sub [0, 1, 2, 3] rfl) (hD.sub [0, 1, 2, 3] (by decide) rfl) dX3_entry_28
    · have hf := og_f c4 hf
      refine lv_iload_n hx hb dX3_entry_17 rfl (lv_at hl 3 rfl) ?_
      refine lv_iconst (v := (-1)) hx hb dX3_entry_18 (by decide) ?_
      refine lv_icmp_lt (tgt := 27) hx hb dX3_entry_19 (by decide) (fun c5 => ?_) (fun c5 => ?_)
      · have hf := og_t c5 hf
        refine lv_iconst (v := 0) hx hb dX3_entry_27 (by decide) ?_
        have e9 := Option.some.inj hf
        subst e9
        exact kr_z (v := 0) hx hb hr hlocks nz_0 hK hS (hP.sub [0, 1, 2, 3] rfl) (hD.sub [0, 1, 2, 3] (by decide) rfl) dX3_entry_28
      · have hf := og_f c5 hf
        refine lv_iload_n hx hb dX3_entry_22 rfl (lv_at hl 3 rfl) ?_
        refine lv_iconst (v := 1) hx hb dX3_entry_23 (by decide) ?_
        refine lv_icmp_le (tgt := 29) hx hb dX3_entry_24 (by decide) (fun c6 => ?_) (fun c6 => ?_)
        · have hf := og_t c6 hf
          refine lv_aload_n hx hb dX3_entry_29 rfl (lv_at hl 0 rfl) ?_
          refine lv_aload_n hx hb dX3_entry_30 rfl (lv_at hl 0 rfl) ?_
          refine lv_iload_n hx hb dX3_entry_31 rfl (lv_at hl 1 rfl) ?_
          refine lv_iload_n hx hb dX3_entry_32 rfl (lv_at hl 2 rfl) ?_
          obtain ⟨x7, g8, hf⟩ := og_b hf
          refine kc_i (wr := []) (w1 := [(q_t, .inr (3, [.int t_n, .int t_room, .ref q_t_limbs, .ref q_t_signs, .ref q_t_rows, .int t_chosen, .int t_chosenSign, .int t_chosenLimbs, .int t_state, .int t_done, .int t_pivots, .int t_odd])), (q_t_limbs, .inl (cA, n_t_limbs, .inl a_t_limbs)), (q_t_signs, .inl (cA, n_t_signs, .inl a_t_signs)), (q_t_rows, .inl (cA, n_t_rows, .inl a_t_rows))]) [0, 1, 2, 3] [] (va_runV (As := [.int row, .int column]) (rest := [.ref q_t]) ⟨hx, hb, hml, hown, hts⟩ (c_X_place l dC dI cA H.size q_t q_t_limbs q_t_signs q_t_rows t_n t_room t_chosen t_chosenSign t_chosenLimbs t_state t_done t_pivots t_odd n_t_limbs a_t_limbs n_t_signs a_t_signs n_t_rows a_t_rows row column x7 g8) (cwV 2 hts gX3_entry_X3_place rfl rfl rfl (by decide +kernel) ⟨Nat.le_of_ble_eq_true rfl, Nat.le_of_ble_eq_true rfl⟩) (kc_preV hP hD hK [0, 1, 2, 3] rfl rfl (by decide) (ci := 3) (q0 := 0) rfl rfl) rfl rfl hl.1 rfl (lv_room (Nat.le_of_ble_eq_true rfl)) dX3_entry_33 ⟨Nat.le_of_ble_eq_true rfl, Nat.le_of_ble_eq_true rfl⟩) hP hD hS hA rfl rfl (by decide) (by decide) (fun H locs hP hD hS => ?_)
          have hP : va_P (dC, dI) vwCl [(q_t, .inr (3, [.int t_n, .int t_room, .ref q_t_limbs, .ref q_t_signs, .ref q_t_rows, .int t_chosen, .int t_chosenSign, .int t_chosenLimbs, .int t_state, .int t_done, .int t_pivots, .int t_odd])), (q_t_limbs, .inl (cA, n_t_limbs, .inl a_t_limbs)), (q_t_signs, .inl (cA, n_t_signs, .inl a_t_signs)), (q_t_rows, .inl (cA, n_t_rows, .inl a_t_rows))] H := hP
          have hD : va_D A [(q_t, .inr (3, [.int t_n, .int t_room, .ref q_t_limbs, .ref q_t_signs, .ref q_t_rows, .int t_chosen, .int t_chosenSign, .int t_chosenLimbs, .int t_state, .int t_done, .int t_pivots, .int t_odd])), (q_t_limbs, .inl (cA, n_t_limbs, .inl a_t_limbs)), (q_t_signs, .inl (cA, n_t_signs, .inl a_t_signs)), (q_t_rows, .inl (cA, n_t_rows, .inl a_t_rows))] := hD
          refine va_put (D := (dC, dI)) (ci := 3) (v := .int x7) (ty := .int) (C := RX3) (T := TX3) (N := 12) hx hb hts ki_X_entry_X3 tyX3 tyX3_ok nmX3 hown hK hP hD hS 0 rfl rfl 5 (by decide) (hts (.fieldLink RX3 29 "MinorStepsModel" "chosen" "I") kw_X_entry_1) (fun _ h9 => h9) rfl (by decide +kernel) rfl rfl (Nat.le_of_ble_eq_true rfl) dX3_entry_36 (fun H locs hP hD hS => ?_)
          have hP : va_P (dC, dI) vwCl [(q_t, .inr (3, [.int t_n, .int t_room, .ref q_t_limbs, .ref q_t_signs, .ref q_t_rows, .int x7, .int t_chosenSign, .int t_chosenLimbs, .int t_state, .int t_done, .int t_pivots, .int t_odd])), (q_t_limbs, .inl (cA, n_t_limbs, .inl a_t_limbs)), (q_t_signs, .inl (cA, n_t_signs, .inl a_t_signs)), (q_t_rows, .inl (cA, n_t_rows, .inl a_t_rows))] H := hP
          have hD : va_D A [(q_t, .inr (3, [.int t_n, .int t_room, .ref q_t_limbs, .ref q_t_signs, .ref q_t_rows, .int x7, .int t_chosenSign, .int t_chosenLimbs, .int t_state, .int t_done, .int t_pivots, .int t_odd])), (q_t_limbs, .inl (cA, n_t_limbs, .inl a_t_limbs)), (q_t_signs, .inl (cA, n_t_signs, .inl a_t_signs)), (q_t_rows, .inl (cA, n_t_rows, .inl a_t_rows))] := hD
          refine lv_aload_n hx hb dX3_entry_39 rfl (lv_at hl 0 rfl) ?_
          refine lv_iload_n hx hb dX3_entry_40 rfl (lv_at hl 3 rfl) ?_
          refine va_put (D := (dC, dI)) (ci := 3) (v := .int sign) (ty := .int) (C := RX3) (T := TX3) (N := 12) hx hb hts ki_X_entry_X3 tyX3 tyX3_ok nmX3 hown hK hP hD hS 0 rfl rfl 6 (by decide) (hts (.fieldLink RX3 53 "MinorStepsModel" "chosenSign" "I") kw_X_entry_2) (fun _ h9 => h9) rfl (by decide +kernel) rfl rfl (Nat.le_of_ble_eq_true rfl) dX3_entry_41 (fun H locs hP hD hS => ?_)
          have hP : va_P (dC, dI) vwCl [(q_t, .inr (3, [.int t_n, .int t_room, .ref q_t_limbs, .ref q_t_signs, .ref q_t_rows, .int x7, .int sign, .int t_chosenLimbs, .int t_state, .int t_done, .int t_pivots, .int t_odd])), (q_t_limbs, .inl (cA, n_t_limbs, .inl a_t_limbs)), (q_t_signs, .inl (cA, n_t_signs, .inl a_t_signs)), (q_t_rows, .inl (cA, n_t_rows, .inl a_t_rows))] H := hP
          have hD : va_D A [(q_t, .inr (3, [.int t_n, .int t_room, .ref q_t_limbs, .ref q_t_signs, .ref q_t_rows, .int x7, .int sign, .int t_chosenLimbs, .int t_state, .int t_done, .int t_pivots, .int t_odd])), (q_t_limbs, .inl (cA, n_t_limbs, .inl a_t_limbs)), (q_t_signs, .inl (cA, n_t_signs, .inl a_t_signs)), (q_t_rows, .inl (cA, n_t_rows, .inl a_t_rows))] := hD
          refine lv_aload_n hx hb dX3_entry_44 rfl (lv_at hl 0 rfl) ?_
          refine lv_iconst (v := 0) hx hb dX3_entry_45 (by decide) ?_
          refine va_put (D := (dC, dI)) (ci := 3) (v := .int 0) (ty := .int) (C := RX3) (T := TX3) (N := 12) hx hb hts ki_X_entry_X3 tyX3 tyX3_ok nmX3 hown hK hP hD hS 0 rfl rfl 7 (by decide) (hts (.fieldLink RX3 56 "MinorStepsModel" "chosenLimbs" "I") kw_X_entry_3) (fun _ h9 => h9) rfl (by decide +kernel) rfl rfl (Nat.le_of_ble_eq_true rfl) dX3_entry_46 (fun H locs hP hD hS => ?_)
          have hP : va_P (dC, dI) vwCl [(q_t, .inr (3, [.int t_n, .int t_room, .ref q_t_limbs, .ref q_t_signs, .ref q_t_rows, .int x7, .int sign, .int 0, .int t_state, .int t_done, .int t_pivots, .int t_odd])), (q_t_limbs, .inl (cA, n_t_limbs, .inl a_t_limbs)), (q_t_signs, .inl (cA, n_t_signs, .inl a_t_signs)), (q_t_rows, .inl (cA, n_t_rows, .inl a_t_rows))] H := hP
          have hD : va_D A [(q_t, .inr (3, [.int t_n, .int t_room, .ref q_t_limbs, .ref q_t_signs, .ref q_t_rows, .int x7, .int sign, .int 0, .int t_state, .int t_done, .int t_pivots, .int t_odd])), (q_t_limbs, .inl (cA, n_t_limbs, .inl a_t_limbs)), (q_t_signs, .inl (cA, n_t_signs, .inl a_t_signs)), (q_t_rows, .inl (cA, n_t_rows, .inl a_t_rows))] := hD
          refine lv_aload_n hx hb dX3_entry_49 rfl (lv_at hl 0 rfl) ?_
          refine lv_aload_n hx hb dX3_entry_50 rfl (lv_at hl 0 rfl) ?_
          refine va_get (D := (dC, dI)) (ci := 3) (v := .int x7) (C := RX3) (T := TX3) (N := 12) hx hb hts ki_X_entry_X3 hown hK hP 0 rfl rfl 5 (by decide) (hts (.fieldLink RX3 29 "MinorStepsModel" "chosen" "I") kw_X_entry_1) (fun _ h9 => h9) rfl dX3_entry_51 ?_
          obtain ⟨x9, g10, hf⟩ := og_b hf
          refine kc_v (wr := []) (w1 := [(q_t, .inr (3, [.int t_n, .int t_room, .ref q_t_limbs, .ref q_t_signs, .ref q_t_rows, .int x7, .int sign, .int 0, .int t_state, .int t_done, .int t_pivots, .int t_odd])), (q_t_limbs, .inl (cA, n_t_limbs, .inl x9.1)), (q_t_signs, .inl (cA, n_t_signs, .inl x9.2)), (q_t_rows, .inl (cA, n_t_rows, .inl a_t_rows))]) [0, 1, 2, 3] [] (va_runV (As := [.int x7]) (rest := []) ⟨hx, hb, hml, hown, hts⟩ (c_X_clear l dC dI cA H.size q_t q_t_limbs q_t_signs q_t_rows k t_n t_room x7 sign (0 : Int32) t_state t_done t_pivots t_odd n_t_limbs a_t_limbs n_t_signs a_t_signs n_t_rows a_t_rows x7 x9 g10) (cwV 1 hts gX3_entry_X3_clear rfl rfl rfl (by decide +kernel) ⟨Nat.le_of_ble_eq_true rfl, Nat.le_of_ble_eq_true rfl⟩) (kc_preV hP hD hK [0, 1, 2, 3] rfl rfl (by decide) (ci := 3) (q0 := 0) rfl rfl) rfl rfl hl.1 rfl (lv_room (Nat.le_of_ble_eq_true rfl)) dX3_entry_54 ⟨Nat.le_of_ble_eq_true rfl, Nat.le_of_ble_eq_true rfl⟩) hP hD hS hA rfl rfl (by decide) (by decide) (fun H locs hP hD hS => ?_)
          have hP : va_P (dC, dI) vwCl [(q_t, .inr (3, [.int t_n, .int t_room, .ref q_t_limbs, .ref q_t_signs, .ref q_t_rows, .int x7, .int sign, .int 0, .int t_state, .int t_done, .int t_pivots, .int t_odd])), (q_t_limbs, .inl (cA, n_t_limbs, .inl x9.1)), (q_t_signs, .inl (cA, n_t_signs, .inl x9.2)), (q_t_rows, .inl (cA, n_t_rows, .inl a_t_rows))] H := hP
          have hD : va_D A [(q_t, .inr (3, [.int t_n, .int t_room, .ref q_t_limbs, .ref q_t_signs, .ref q_t_rows, .int x7, .int sign, .int 0, .int t_state, .int t_done, .int t_pivots, .int t_odd])), (q_t_limbs, .inl (cA, n_t_limbs, .inl x9.1)), (q_t_signs, .inl (cA, n_t_signs, .inl x9.2)), (q_t_rows, .inl (cA, n_t_rows, .inl a_t_rows))] := hD
          refine lv_iconst (v := 1) hx hb dX3_entry_57 (by decide) ?_
          have e9 := Option.some.inj hf
          subst e9
          exact kr_z (v := 1) hx hb hr hlocks nz_1 hK hS (hP.sub [0, 1, 2, 3] rfl) (hD.sub [0, 1, 2, 3] (by decide) rfl) dX3_entry_58
        · have hf := og_f c6 hf
          refine lv_iconst (v := 0) hx hb dX3_entry_27 (by decide) ?_
          have e9 := Option.some.inj hf
          subst e9
          exact kr_z (v := 0) hx hb hr hlocks nz_0 hK hS (hP.sub [0, 1, 2, 3] rfl) (hD.sub [0, 1, 2, 3] (by decide) rfl) dX3_entry_28
def rm_X_limb : Room := { frames := 0, cells := 0, slots := 0, locals := 0 }
theorem kw_X_limb_0 : (.fieldLink RX3 32 "MinorStepsModel" "state" "I" : Cond) ∈ wsX3_limb := by decide +kernel
theorem kw_X_limb_1 : (.fieldLink RX3 29 "MinorStepsModel" "chosen" "I" : Cond) ∈ wsX3_limb := by decide +kernel
theorem kw_X_limb_2 : (.fieldLink RX3 53 "MinorStepsModel" "chosenSign" "I" : Cond) ∈ wsX3_limb := by decide +kernel
theorem kw_X_limb_3 : (.fieldLink RX3 56 "MinorStepsModel" "chosenLimbs" "I" : Cond) ∈ wsX3_limb := by decide +kernel
theorem kw_X_limb_4 : (.fieldLink RX3 23 "MinorStepsModel" "room" "I" : Cond) ∈ wsX3_limb := by decide +kernel
theorem kw_X_limb_5 : (.fieldLink RX3 7 "MinorStepsModel" "limbs" "[I" : Cond) ∈ wsX3_limb := by decide +kernel
theorem kw_X_limb_6 : (.fieldLink RX3 13 "MinorStepsModel" "signs" "[I" : Cond) ∈ wsX3_limb := by decide +kernel
theorem ki_X_limb_X3 : ∀ w ∈ u_ws RX3 TX3 12, w ∈ wsX3_limb := by decide +kernel
set_option maxHeartbeats 4000000 in
set_option maxRecDepth 100000 in
theorem c_X_limb (l : Launch) (dC : Nat → ClassId) (dI : Nat → Nat → Nat) (cA : ClassId) (sz : Nat) (q_t : Nat) (q_t_limbs : Nat) (q_t_signs : Nat) (q_t_rows : Nat) (t_n : Int32) (t_room : Int32) (t_chosen : Int32) (t_chosenSign : Int32) (t_chosenLimbs : Int32) (t_state : Int32) (t_done : Int32) (t_pivots : Int32) (t_odd : Int32) (n_t_limbs : Nat) (a_t_limbs : Nat → Int32) (n_t_signs : Nat) (a_t_signs : Nat → Int32) (n_t_rows : Nat) (a_t_rows : Nat → Int32) (word : Int32) (o : Int32 × Int32 × (Nat → Int32) × (Nat → Int32)) (hf : f_X_limb t_room t_chosen t_chosenSign t_chosenLimbs t_state n_t_limbs a_t_limbs n_t_signs a_t_signs word = some o) : Met l yX3_limb wsX3_limb rm_X_limb (c_Pre (dC, dI) vwCl [(cA, .int)] [(q_t, .inr (3, [.int t_n, .int t_room, .ref q_t_limbs, .ref q_t_signs, .ref q_t_rows, .int t_chosen, .int t_chosenSign, .int t_chosenLimbs, .int t_state, .int t_done, .int t_pivots, .int t_odd])), (q_t_limbs, .inl (cA, n_t_limbs, .inl a_t_limbs)), (q_t_signs, .inl (cA, n_t_signs, .inl a_t_signs)), (q_t_rows, .inl (cA, n_t_rows, .inl a_t_rows))] sz [.ref q_t, .int word]) (c_Qi (dC, dI) vwCl [(cA, .int)] [(q_t, .inr (3, [.int t_n, .int t_room, .ref q_t_limbs, .ref q_t_signs, .ref q_t_rows, .int t_chosen, .int t_chosenSign, .int o.2.1, .int t_state, .int t_done, .int t_pivots, .int t_odd])), (q_t_limbs, .inl (cA, n_t_limbs, .inl o.2.2.1)), (q_t_signs, .inl (cA, n_t_signs, .inl o.2.2.2)), (q_t_rows, .inl (cA, n_t_rows, .inl a_t_rows))] (va_A [(q_t, .inr (3, [.int t_n, .int t_room, .ref q_t_limbs, .ref q_t_signs, .ref q_t_rows, .int t_chosen, .int t_chosenSign, .int t_chosenLimbs, .int t_state, .int t_done, .int t_pivots, .int t_odd])), (q_t_limbs, .inl (cA, n_t_limbs, .inl a_t_limbs)), (q_t_signs, .inl (cA, n_t_signs, .inl a_t_signs)), (q_t_rows, .inl (cA, n_t_rows, .inl a_t_rows))] sz) o.1) 0 0 (va_A [(q_t, .inr (3, [.int t_n, .int t_room, .ref q_t_limbs, .ref q_t_signs, .ref q_t_rows, .int t_chosen, .int t_chosenSign, .int t_chosenLimbs, .int t_state, .int t_done, .int t_pivots, .int t_odd])), (q_t_limbs, .inl (cA, n_t_limbs, .inl a_t_limbs)), (q_t_signs, .inl (cA, n_t_signs, .inl a_t_signs)), (q_t_rows, .inl (cA, n_t_rows, .inl a_t_rows))] sz) := by
  unfold f_X_limb at hf
  refine k_ent (Qc := fun A => c_Qi (dC, dI) vwCl [(cA, .int)] [(q_t, .inr (3, [.int t_n, .int t_room, .ref q_t_limbs, .ref q_t_signs, .ref q_t_rows, .int t_chosen, .int t_chosenSign, .int o.2.1, .int t_state, .int t_done, .int t_pivots, .int t_odd])), (q_t_limbs, .inl (cA, n_t_limbs, .inl o.2.2.1)), (q_t_signs, .inl (cA, n_t_signs, .inl o.2.2.2)), (q_t_rows, .inl (cA, n_t_rows, .inl a_t_rows))] A o.1) (by decide) rfl (Nat.le_of_ble_eq_true rfl) ?_
  intro p e s m below meth c A hx hb hr hown hts hml hlocks hin hsz hA hK H locs hP hD hS ls hl
  have hown : s.vm.findClass RX3 = some m.cls := hown
  have hl : lv_has ls 2 [(0, .ref q_t), (1, .int word)] := hl
  refine lv_aload_n hx hb dX3_limb_0 rfl (lv_at hl 0 rfl) ?_
  refine va_get (D := (dC, dI)) (ci := 3) (v := .int t_state) (C := RX3) (T := TX3) (N := 12) hx hb hts ki_X_limb_X3 hown hK hP 0 rfl rfl 8 (by decide) (hts (.fieldLink RX3 32 "MinorStepsModel" "state" "I") kw_X_limb_0) (fun _ h9 => h9) rfl dX3_limb_1 ?_
  refine lv_iconst (v := 4) hx hb dX3_limb_4 (by decide) ?_
  refine lv_icmp_ne (tgt := 37) hx hb dX3_limb_5 (by decide) (fun c1 => ?_) (fun c1 => ?_)
  · have hf := og_f c1 hf
    refine lv_iconst (v := 0) hx hb dX3_limb_37 (by decide) ?_
    have e9 := Option.some.inj hf
    subst e9
    exact kr_z (v := 0) hx hb hr hlocks nz_0 hK hS (hP.sub [0, 1, 2, 3] rfl) (hD.sub [0, 1, 2, 3] (by decide) rfl) dX3_limb_38
  · have hf := og_t c1 hf
    refine lv_aload_n hx hb dX3_limb_8 rfl (lv_at hl 0 rfl) ?_
    refine va_get (D := (dC, dI)) (ci := 3) (v := .int t_chosen) (C := RX3) (T := TX3) (N := 12) hx hb hts ki_X_limb_X3 hown hK hP 0 rfl rfl 5 (by decide) (hts (.fieldLink RX3 29 "MinorStepsModel" "chosen" "I") kw_X_limb_1) (fun _ h9 => h9) rfl dX3_limb_9 ?_
    refine lv_if_lt (tgt := 37) hx hb dX3_limb_12 (by decide) (fun c2 => ?_) (fun c2 => ?_)
    · have hf := og_t c2 hf
      refine lv_iconst (v := 0) hx hb dX3_limb_37 (by decide) ?_
      have e9 := Option.some.inj hf
      subst e9
      exact kr_z (v := 0) hx hb hr hlocks nz_0 hK hS (hP.sub [0, 1, 2, 3] rfl) (hD.sub [0, 1, 2, 3] (by decide) rfl) dX3_limb_38
    · have hf := og_f c2 hf
      refine lv_aload_n hx hb dX3_limb_15 rfl (lv_at hl 0 rfl) ?_
      refine va_get (D := (dC, dI)) (ci := 3) (v := .int t_chosenSign) (C := RX3) (T := TX3) (N := 12) hx hb hts ki_X_limb_X3 hown hK hP 0 rfl rfl 6 (by decide) (hts (.fieldLink RX3 53 "MinorStepsModel" "chosenSign" "I") kw_X_limb_2) (fun _ h9 => h9) rfl dX3_limb_16 ?_
      refine lv_if_eq (tgt := 37) hx hb dX3_limb_19 (by decide) (fun c3 => ?_) (fun c3 => ?_)
      · have hf := og_t c3 hf
        refine lv_iconst (v := 0) hx hb dX3_limb_37 (by decide) ?_
        have e9 := Option.some.inj hf
        subst e9
        exact kr_z (v := 0) hx hb hr hlocks nz_0 hK hS (hP.sub [0, 1, 2, 3] rfl) (hD.sub [0, 1, 2, 3] (by decide) rfl) dX3_limb_38
      · have hf := og_f c3 hf
        refine lv_iload_n hx hb dX3_limb_22 rfl (lv_at hl 1 rfl) ?_
        refine lv_if_lt (tgt := 37) hx hb dX3_limb_23 (by decide) (fun c4 => ?_) (fun c4 => ?_)
        · have hf := og_t c4 hf
          refine lv_iconst (v := 0) hx hb dX3_limb_37 (by decide) ?_
          have e9 := Option.some.inj hf
          subst e9
          exact kr_z (v := 0) hx hb hr hlocks nz_0 hK hS (hP.sub [0, 1, 2, 3] rfl) (hD.sub [0, 1, 2, 3] (by decide) rfl) dX3_limb_38
        · have hf := og_f c4 hf
          refine lv_aload_n hx hb dX3_limb_26 rfl (lv_at hl 0 rfl) ?_
          refine va_get (D := (dC, dI)) (ci := 3) (v := .int t_chosenLimbs) (C := RX3) (T := TX3) (N := 12) hx hb hts ki_X_limb_X3 hown hK hP 0 rfl rfl 7 (by decide) (hts (.fieldLink RX3 56 "MinorStepsModel" "chosenLimbs" "I") kw_X_limb_3) (fun _ h9 => h9) rfl dX3_limb_27 ?_
          refine lv_aload_n hx hb dX3_limb_30 rfl (lv_at hl 0 rfl) ?_
          refine va_get (D := (dC, dI)) (ci := 3) (v := .int t_room) (C := RX3) (T := TX3) (N := 12) hx hb hts ki_X_limb_X3 hown hK hP 0 rfl rfl 1 (by decide) (hts (.fieldLink RX3 23 "MinorStepsModel" "room" "I") kw_X_limb_4) (fun _ h9 => h9) rfl dX3_limb_31 ?_
          refine lv_icmp_ne (tgt := 39) hx hb dX3_limb_34 (by decide) (fun c5 => ?_) (fun c5 => ?_)
          · have hf := og_f c5 hf
            refine lv_aload_n hx hb dX3_limb_39 rfl (lv_at hl 0 rfl) ?_
            refine va_get (D := (dC, dI)) (ci := 3) (v := .ref q_t_limbs) (C := RX3) (T := TX3) (N := 12) hx hb hts ki_X_limb_X3 hown hK hP 0 rfl rfl 2 (by decide) (hts (.fieldLink RX3 7 "MinorStepsModel" "limbs" "[I") kw_X_limb_5) (fun _ h9 => h9) rfl dX3_limb_40 ?_
            refine lv_bipush (v := 40) hx hb dX3_limb_43 (by decide) ?_
            refine lv_aload_n hx hb dX3_limb_45 rfl (lv_at hl 0 rfl) ?_
            refine va_get (D := (dC, dI)) (ci := 3) (v := .int t_chosen) (C := RX3) (T := TX3) (N := 12) hx hb hts ki_X_limb_X3 hown hK hP 0 rfl rfl 5 (by decide) (hts (.fieldLink RX3 29 "MinorStepsModel" "chosen" "I") kw_X_limb_1) (fun _ h9 => h9) rfl dX3_limb_46 ?_
            refine lv_imul hx hb dX3_limb_49 ?_
            refine lv_aload_n hx hb dX3_limb_50 rfl (lv_at hl 0 rfl) ?_
            refine va_get (D := (dC, dI)) (ci := 3) (v := .int t_chosenLimbs) (C := RX3) (T := TX3) (N := 12) hx hb hts ki_X_limb_X3 hown hK hP 0 rfl rfl 7 (by decide) (hts (.fieldLink RX3 56 "MinorStepsModel" "chosenLimbs" "I") kw_X_limb_3) (fun _ h9 => h9) rfl dX3_limb_51 ?_
            refine lv_iadd hx hb dX3_limb_54 ?_
            refine lv_iload_n hx hb dX3_limb_55 rfl (lv_at hl 1 rfl) ?_
            obtain ⟨g6, hf⟩ := og_c hf
            refine va_iast hx hb hK hP hD hS 1 0 rfl rfl (og_in g6) dX3_limb_56 (fun H locs hP hD hS => ?_)
            have hP : va_P (dC, dI) vwCl [(q_t, .inr (3, [.int t_n, .int t_room, .ref q_t_limbs, .ref q_t_signs, .ref q_t_rows, .int t_chosen, .int t_chosenSign, .int t_chosenLimbs, .int t_state, .int t_done, .int t_pivots, .int t_odd])), (q_t_limbs, .inl (cA, n_t_limbs, .inl (upd a_t_limbs ((40 * t_chosen) + t_chosenLimbs).toNatClampNeg word))), (q_t_signs, .inl (cA, n_t_signs, .inl a_t_signs)), (q_t_rows, .inl (cA, n_t_rows, .inl a_t_rows))] H := hP
            have hD : va_D A [(q_t, .inr (3, [.int t_n, .int t_room, .ref q_t_limbs, .ref q_t_signs, .ref q_t_rows, .int t_chosen, .int t_chosenSign, .int t_chosenLimbs, .int t_state, .int t_done, .int t_pivots, .int t_odd])), (q_t_limbs, .inl (cA, n_t_limbs, .inl (upd a_t_limbs ((40 * t_chosen) + t_chosenLimbs).toNatClampNeg word))), (q_t_signs, .inl (cA, n_t_signs, .inl a_t_signs)), (q_t_rows, .inl (cA, n_t_rows, .inl a_t_rows))] := hD
            refine lv_aload_n hx hb dX3_limb_57 rfl (lv_at hl 0 rfl) ?_
            refine lv_dup hx hb dX3_limb_58 rfl ?_
            refine va_get (D := (dC, dI)) (ci := 3) (v := .int t_chosenLimbs) (C := RX3) (T := TX3) (N := 12) hx hb hts ki_X_limb_X3 hown hK hP 0 rfl rfl 7 (by decide) (hts (.fieldLink RX3 56 "MinorStepsModel" "chosenLimbs" "I") kw_X_limb_3) (fun _ h9 => h9) rfl dX3_limb_59 ?_
            refine lv_iconst (v := 1) hx hb dX3_limb_62 (by decide) ?_
            refine lv_iadd hx hb dX3_limb_63 ?_
            refine va_put (D := (dC, dI)) (ci := 3) (v := .int (t_chosenLimbs + 1)) (ty := .int) (C := RX3) (T := TX3) (N := 12) hx hb hts ki_X_limb_X3 tyX3 tyX3_ok nmX3 hown hK hP hD hS 0 rfl rfl 7 (by decide) (hts (.fieldLink RX3 56 "MinorStepsModel" "chosenLimbs" "I") kw_X_limb_3) (fun _ h9 => h9) rfl (by decide +kernel) rfl rfl (Nat.le_of_ble_eq_true rfl) dX3_limb_64 (fun H locs hP hD hS => ?_)
            have hP : va_P (dC, dI) vwCl [(q_t, .inr (3, [.int t_n, .int t_room, .ref q_t_limbs, .ref q_t_signs, .ref q_t_rows, .int t_chosen, .int t_chosenSign, .int (t_chosenLimbs + 1), .int t_state, .int t_done, .int t_pivots, .int t_odd])), (q_t_limbs, .inl (cA, n_t_limbs, .inl (upd a_t_limbs ((40 * t_chosen) + t_chosenLimbs).toNatClampNeg word))), (q_t_signs, .inl (cA, n_t_signs, .inl a_t_signs)), (q_t_rows, .inl (cA, n_t_rows, .inl a_t_rows))] H := hP
            have hD : va_D A [(q_t, .inr (3, [.int t_n, .int t_room, .ref q_t_limbs, .ref q_t_signs, .ref q_t_rows, .int t_chosen, .int t_chosenSign, .int (t_chosenLimbs + 1), .int t_state, .int t_done, .int t_pivots, .int t_odd])), (q_t_limbs, .inl (cA, n_t_limbs, .inl (upd a_t_limbs ((40 * t_chosen) + t_chosenLimbs).toNatClampNeg word))), (q_t_signs, .inl (cA, n_t_signs, .inl a_t_signs)), (q_t_rows, .inl (cA, n_t_rows, .inl a_t_rows))] := hD
            refine lv_aload_n hx hb dX3_limb_67 rfl (lv_at hl 0 rfl) ?_
            refine va_get (D := (dC, dI)) (ci := 3) (v := .ref q_t_signs) (C := RX3) (T := TX3) (N := 12) hx hb hts ki_X_limb_X3 hown hK hP 0 rfl rfl 3 (by decide) (hts (.fieldLink RX3 13 "MinorStepsModel" "signs" "[I") kw_X_limb_6) (fun _ h9 => h9) rfl dX3_limb_68 ?_
            refine lv_aload_n hx hb dX3_limb_71 rfl (lv_at hl 0 rfl) ?_
            refine va_get (D := (dC, dI)) (ci := 3) (v := .int t_chosen) (C := RX3) (T := TX3) (N := 12) hx hb hts ki_X_limb_X3 hown hK hP 0 rfl rfl 5 (by decide) (hts (.fieldLink RX3 29 "MinorStepsModel" "chosen" "I") kw_X_limb_1) (fun _ h9 => h9) rfl dX3_limb_72 ?_
            refine lv_iload_n hx hb dX3_limb_75 rfl (lv_at hl 1 rfl) ?_
            refine lv_if_le (tgt := 86) hx hb dX3_limb_76 (by decide) (fun c7 => ?_) (fun c7 => ?_)
            · have hf := og_t c7 hf
              refine lv_aload_n hx hb dX3_limb_86 rfl (lv_at hl 0 rfl) ?_
              refine va_get (D := (dC, dI)) (ci := 3) (v := .ref q_t_signs) (C := RX3) (T := TX3) (N := 12) hx hb hts ki_X_limb_X3 hown hK hP 0 rfl rfl 3 (by decide) (hts (.fieldLink RX3 13 "MinorStepsModel" "signs" "[I") kw_X_limb_6) (fun _ h9 => h9) rfl dX3_limb_87 ?_
              refine lv_aload_n hx hb dX3_limb_90 rfl (lv_at hl 0 rfl) ?_
              refine va_get (D := (dC, dI)) (ci := 3) (v := .int t_chosen) (C := RX3) (T := TX3) (N := 12) hx hb hts ki_X_limb_X3 hown hK hP 0 rfl rfl 5 (by decide) (hts (.fieldLink RX3 29 "MinorStepsModel" "chosen" "I") kw_X_limb_1) (fun _ h9 => h9) rfl dX3_limb_91 ?_
              obtain ⟨g8, hf⟩ := og_c hf
              refine va_iald hx hb hK hP 2 0 rfl rfl (og_in g8) dX3_limb_94 ?_
              obtain ⟨g9, hf⟩ := og_c hf
              refine va_iast hx hb hK hP hD hS 2 0 rfl rfl (og_in g9) dX3_limb_95 (fun H locs hP hD hS => ?_)
              have hP : va_P (dC, dI) vwCl [(q_t, .inr (3, [.int t_n, .int t_room, .ref q_t_limbs, .ref q_t_signs, .ref q_t_rows, .int t_chosen, .int t_chosenSign, .int (t_chosenLimbs + 1), .int t_state, .int t_done, .int t_pivots, .int t_odd])), (q_t_limbs, .inl (cA, n_t_limbs, .inl (upd a_t_limbs ((40 * t_chosen) + t_chosenLimbs).toNatClampNeg word))), (q_t_signs, .inl (cA, n_t_signs, .inl (upd a_t_signs t_chosen.toNatClampNeg (a_t_signs t_chosen.toNatClampNeg)))), (q_t_rows, .inl (cA, n_t_rows, .inl a_t_rows))] H := hP
              have hD : va_D A [(q_t, .inr (3, [.int t_n, .int t_room, .ref q_t_limbs, .ref q_t_signs, .ref q_t_rows, .int t_chosen, .int t_chosenSign, .int (t_chosenLimbs + 1), .int t_state, .int t_done, .int t_pivots, .int t_odd])), (q_t_limbs, .inl (cA, n_t_limbs, .inl (upd a_t_limbs ((40 * t_chosen) + t_chosenLimbs).toNatClampNeg word))), (q_t_signs, .inl (cA, n_t_signs, .inl (upd a_t_signs t_chosen.toNatClampNeg (a_t_signs t_chosen.toNatClampNeg)))), (q_t_rows, .inl (cA, n_t_rows, .inl a_t_rows))] := hD
              refine lv_iconst (v := 1) hx hb dX3_limb_96 (by decide) ?_
              have e9 := Option.some.inj hf
              subst e9
              exact kr_z (v := 1) hx hb hr hlocks nz_1 hK hS (hP.sub [0, 1, 2, 3] rfl) (hD.sub [0, 1, 2, 3] (by decide) rfl) dX3_limb_97
            · have hf := og_f c7 hf
              refine lv_aload_n hx hb dX3_limb_79 rfl (lv_at hl 0 rfl) ?_
              refine va_get (D := (dC, dI)) (ci := 3) (v := .int t_chosenSign) (C := RX3) (T := TX3) (N := 12) hx hb hts ki_X_limb_X3 hown hK hP 0 rfl rfl 6 (by decide) (hts (.fieldLink RX3 53 "MinorStepsModel" "chosenSign" "I") kw_X_limb_2) (fun _ h9 => h9) rfl dX3_limb_80 ?_
              refine lv_goto (tgt := 95) hx hb dX3_limb_83 (by decide) ?_
              obtain ⟨g10, hf⟩ := og_c hf
              refine va_iast hx hb hK hP hD hS 2 0 rfl rfl (og_in g10) dX3_limb_95 (fun H locs hP hD hS => ?_)
              have hP : va_P (dC, dI) vwCl [(q_t, .inr (3, [.int t_n, .int t_room, .ref q_t_limbs, .ref q_t_signs, .ref q_t_rows, .int t_chosen, .int t_chosenSign, .int (t_chosenLimbs + 1), .int t_state, .int t_done, .int t_pivots, .int t_odd])), (q_t_limbs, .inl (cA, n_t_limbs, .inl (upd a_t_limbs ((40 * t_chosen) + t_chosenLimbs).toNatClampNeg word))), (q_t_signs, .inl (cA, n_t_signs, .inl (upd a_t_signs t_chosen.toNatClampNeg t_chosenSign))), (q_t_rows, .inl (cA, n_t_rows, .inl a_t_rows))] H := hP
              have hD : va_D A [(q_t, .inr (3, [.int t_n, .int t_room, .ref q_t_limbs, .ref q_t_signs, .ref q_t_rows, .int t_chosen, .int t_chosenSign, .int (t_chosenLimbs + 1), .int t_state, .int t_done, .int t_pivots, .int t_odd])), (q_t_limbs, .inl (cA, n_t_limbs, .inl (upd a_t_limbs ((40 * t_chosen) + t_chosenLimbs).toNatClampNeg word))), (q_t_signs, .inl (cA, n_t_signs, .inl (upd a_t_signs t_chosen.toNatClampNeg t_chosenSign))), (q_t_rows, .inl (cA, n_t_rows, .inl a_t_rows))] := hD
              refine lv_iconst (v := 1) hx hb dX3_limb_96 (by decide) ?_
              have e9 := Option.some.inj hf
              subst e9
              exact kr_z (v := 1) hx hb hr hlocks nz_1 hK hS (hP.sub [0, 1, 2, 3] rfl) (hD.sub [0, 1, 2, 3] (by decide) rfl) dX3_limb_97
          · have hf := og_t c5 hf
            refine lv_iconst (v := 0) hx hb dX3_limb_37 (by decide) ?_
            have e9 := Option.some.inj hf
            subst e9
            exact kr_z (v := 0) hx hb hr hlocks nz_0 hK hS (hP.sub [0, 1, 2, 3] rfl) (hD.sub [0, 1, 2, 3] (by decide) rfl) dX3_limb_38
def rm_X_copy : Room := { frames := 0, cells := 0, slots := 0, locals := 0 }
theorem kw_X_copy_0 : (.fieldLink RX3 7 "MinorStepsModel" "limbs" "[I" : Cond) ∈ wsX3_copy := by decide +kernel
theorem kw_X_copy_1 : (.fieldLink RX3 13 "MinorStepsModel" "signs" "[I" : Cond) ∈ wsX3_copy := by decide +kernel
theorem ki_X_copy_X3 : ∀ w ∈ u_ws RX3 TX3 12, w ∈ wsX3_copy := by decide +kernel
set_option maxHeartbeats 4000000 in
set_option maxRecDepth 100000 in
theorem w_X_copy_L2 {p : Program} {l : Launch} {e : Env} {s : State} {m : MethodId} {args : Array Value} {below : List Frame} {meth : Method} {c : Code} {Q : State → Prop} {A : Nat → Prop} {H0 : Heap} {dC : Nat → ClassId} {dI : Nat → Nat → Nat} {cA : ClassId} (hx : p.tables.exec = Jvm.exec) (hb : c.code = cX3_copy) (hown : s.vm.findClass RX3 = some m.cls) (hts : ∀ w ∈ wsX3_copy, w.before args s = true) (hml : c.maxLocals = 4) (hA : ∀ q, H0.size ≤ q → A q) (hK : va_K (dC, dI) vwCl [(cA, .int)] s) (k : Nat) (q_t : Nat) (q_t_limbs : Nat) (q_t_signs : Nat) (q_t_rows : Nat) (v1 : Int32) (v2 : Int32) (i0_t : Int32) (i1_t : Int32) (i5_t : Int32) (i6_t : Int32) (i7_t : Int32) (i8_t : Int32) (i9_t : Int32) (i10_t : Int32) (i11_t : Int32) (n_t_limbs : Nat) (n_t_signs : Nat) (a_t_signs : Nat → Int32) (n_t_rows : Nat) (a_t_rows : Nat → Int32) : ∀ (j : Nat) (v3 : Int32) (a_t_limbs : Nat → Int32) (o : Int32 × (Nat → Int32)), f_X_copy_L2 k v1 v2 n_t_limbs j v3 a_t_limbs = some o → ∀ (H : Heap) (locs : List Loc), va_P (dC, dI) vwCl [(q_t, .inr (3, [.int i0_t, .int i1_t, .ref q_t_limbs, .ref q_t_signs, .ref q_t_rows, .int i5_t, .int i6_t, .int i7_t, .int i8_t, .int i9_t, .int i10_t, .int i11_t])), (q_t_limbs, .inl (cA, n_t_limbs, .inl a_t_limbs)), (q_t_signs, .inl (cA, n_t_signs, .inl a_t_signs)), (q_t_rows, .inl (cA, n_t_rows, .inl a_t_rows))] H → va_D A [(q_t, .inr (3, [.int i0_t, .int i1_t, .ref q_t_limbs, .ref q_t_signs, .ref q_t_rows, .int i5_t, .int i6_t, .int i7_t, .int i8_t, .int i9_t, .int i10_t, .int i11_t])), (q_t_limbs, .inl (cA, n_t_limbs, .inl a_t_limbs)), (q_t_signs, .inl (cA, n_t_signs, .inl a_t_signs)), (q_t_rows, .inl (cA, n_t_rows, .inl a_t_rows))] → va_S A H0 H locs → ∀ ls : Array Slot, lv_has ls 4 [(0, .ref q_t), (1, .int v1), (2, .int v2), (3, .int v3)] → ∀ (he : ∀ (H : Heap) (locs : List Loc), va_P (dC, dI) vwCl [(q_t, .inr (3, [.int i0_t, .int i1_t, .ref q_t_limbs, .ref q_t_signs, .ref q_t_rows, .int i5_t, .int i6_t, .int i7_t, .int i8_t, .int i9_t, .int i10_t, .int i11_t])), (q_t_limbs, .inl (cA, n_t_limbs, .inl o.2)), (q_t_signs, .inl (cA, n_t_signs, .inl a_t_signs)), (q_t_rows, .inl (cA, n_t_rows, .inl a_t_rows))] H → va_D A [(q_t, .inr (3, [.int i0_t, .int i1_t, .ref q_t_limbs, .ref q_t_signs, .ref q_t_rows, .int i5_t, .int i6_t, .int i7_t, .int i8_t, .int i9_t, .int i10_t, .int i11_t])), (q_t_limbs, .inl (cA, n_t_limbs, .inl o.2)), (q_t_signs, .inl (cA, n_t_signs, .inl a_t_signs)), (q_t_rows, .inl (cA, n_t_rows, .inl a_t_rows))] → va_S A H0 H locs → ∀ ls : Array Slot, lv_has ls 4 [(0, .ref q_t), (1, .int v1), (2, .int v2)] → W p l e rm_X_copy s m args below meth c H locs 0 0 Q (F0 m 36 ls [])), W p l e rm_X_copy s m args below meth c H locs 0 0 Q (F0 m 2 ls []) := by
  intro j
  induction j with
  | zero =>
    intro v3 a_t_limbs o hf
    rw [f_X_copy_L2] at hf
    cases hf
  | succ j ih =>
    intro v3 a_t_limbs o hf H locs hP hD hS ls hl he
    rw [f_X_copy_L2] at hf
    refine lv_iload_n hx hb dX3_copy_2 rfl (lv_at hl 3 rfl) ?_
    refine lv_bipush (v := 40) hx hb dX3_copy_3 (by decide) ?_
    refine lv_icmp_ge (tgt := 36) hx hb dX3_copy_5 (by decide) (fun c7 => ?_) (fun c7 => ?_)
    · have hf := og_t c7 hf
      have e9 := Option.some.inj hf
      subst e9
      exact he _ _ (hP.sub [0, 1, 2, 3] rfl) (hD.sub [0, 1, 2, 3] (by decide) rfl) hS _ (lv_sub hl [0, 1, 2] rfl)
    · have hf := og_f c7 hf
      refine lv_aload_n hx hb dX3_copy_8 rfl (lv_at hl 0 rfl) ?_
      refine va_get (D := (dC, dI)) (ci := 3) (v := .ref q_t_limbs) (C := RX3) (T := TX3) (N := 12) hx hb hts ki_X_copy_X3 hown hK hP 0 rfl rfl 2 (by decide) (hts (.fieldLink RX3 7 "MinorStepsModel" "limbs" "[I") kw_X_copy_0) (fun _ h9 => h9) rfl dX3_copy_9 ?_
      refine lv_bipush (v := 40) hx hb dX3_copy_12 (by decide) ?_
      refine lv_iload_n hx hb dX3_copy_14 rfl (lv_at hl 2 rfl) ?_
      refine lv_imul hx hb dX3_copy_15 ?_
      refine lv_iload_n hx hb dX3_copy_16 rfl (lv_at hl 3 rfl) ?_
      refine lv_iadd hx hb dX3_copy_17 ?_
      refine lv_aload_n hx hb dX3_copy_18 rfl (lv_at hl 0 rfl) ?_
      refine va_get (D := (dC, dI)) (ci := 3) (v := .ref q_t_limbs) (C := RX3) (T := TX3) (N := 12) hx hb hts ki_X_copy_X3 hown hK hP 0 rfl rfl 2 (by decide) (hts (.fieldLink RX3 7 "MinorStepsModel" "limbs" "[I") kw_X_copy_0) (fun _ h9 => h9) rfl dX3_copy_19 ?_
      refine lv_bipush (v := 40) hx hb dX3_copy_22 (by decide) ?_
      refine lv_iload_n hx hb dX3_copy_24 rfl (lv_at hl 1 rfl) ?_
      refine lv_imul hx hb dX3_copy_25 ?_
      refine lv_iload_n hx hb dX3_copy_26 rfl (lv_at hl 3 rfl) ?_
      refine lv_iadd hx hb dX3_copy_27 ?_
      obtain ⟨g8, hf⟩ := og_c hf
      refine va_iald hx hb hK hP 1 0 rfl rfl (og_in g8) dX3_copy_28 ?_
      obtain ⟨g9, hf⟩ := og_c hf
      refine va_iast hx hb hK hP hD hS 1 0 rfl rfl (og_in g9) dX3_copy_29 (fun H locs hP hD hS => ?_)
      have hP : va_P (dC, dI) vwCl [(q_t, .inr (3, [.int i0_t, .int i1_t, .ref q_t_limbs, .ref q_t_signs, .ref q_t_rows, .int i5_t, .int i6_t, .int i7_t, .int i8_t, .int i9_t, .int i10_t, .int i11_t])), (q_t_limbs, .inl (cA, n_t_limbs, .inl (upd a_t_limbs ((40 * v2) + v3).toNatClampNeg (a_t_limbs ((40 * v1) + v3).toNatClampNeg)))), (q_t_signs, .inl (cA, n_t_signs, .inl a_t_signs)), (q_t_rows, .inl (cA, n_t_rows, .inl a_t_rows))] H := hP
      have hD : va_D A [(q_t, .inr (3, [.int i0_t, .int i1_t, .ref q_t_limbs, .ref q_t_signs, .ref q_t_rows, .int i5_t, .int i6_t, .int i7_t, .int i8_t, .int i9_t, .int i10_t, .int i11_t])), (q_t_limbs, .inl (cA, n_t_limbs, .inl (upd a_t_limbs ((40 * v2) + v3).toNatClampNeg (a_t_limbs ((40 * v1) + v3).toNatClampNeg)))), (q_t_signs, .inl (cA, n_t_signs, .inl a_t_signs)), (q_t_rows, .inl (cA, n_t_rows, .inl a_t_rows))] := hD
      refine lv_iinc (v := v3 + 1) (lv' := [(3, .int (v3 + 1)), (0, .ref q_t), (1, .int v1), (2, .int v2)]) hx hb dX3_copy_30 hl (k := 3) rfl rfl (by decide) rfl (fun ls hl => ?_)
      refine lv_goto (tgt := 2) hx hb dX3_copy_33 (by decide) ?_
      exact ih (v3 + 1) (upd a_t_limbs ((40 * v2) + v3).toNatClampNeg (a_t_limbs ((40 * v1) + v3).toNatClampNeg)) _ hf _ _ (hP.sub [0, 1, 2, 3] rfl) (hD.sub [0, 1, 2, 3] (by decide) rfl) hS _ (lv_sub hl [1, 2, 3, 0] rfl) he
set_option maxHeartbeats 4000000 in
set_option maxRecDepth 100000 in
theorem c_X_copy (l : Launch) (dC : Nat → ClassId) (dI : Nat → Nat → Nat) (cA : ClassId) (sz : Nat) (q_t : Nat) (q_t_limbs : Nat) (q_t_signs : Nat) (q_t_rows : Nat) (k : Nat) (t_n : Int32) (t_room : Int32) (t_chosen : Int32) (t_chosenSign : Int32) (t_chosenLimbs : Int32) (t_state : Int32) (t_done : Int32) (t_pivots : Int32) (t_odd : Int32) (n_t_limbs : Nat) (a_t_limbs : Nat → Int32) (n_t_signs : Nat) (a_t_signs : Nat → Int32) (n_t_rows : Nat) (a_t_rows : Nat → Int32) (fro : Int32) (tt : Int32) (o : (Nat → Int32) × (Nat → Int32)) (hf : f_X_copy k n_t_limbs a_t_limbs n_t_signs a_t_signs fro tt = some o) : Met l yX3_copy wsX3_copy rm_X_copy (c_Pre (dC, dI) vwCl [(cA, .int)] [(q_t, .inr (3, [.int t_n, .int t_room, .ref q_t_limbs, .ref q_t_signs, .ref q_t_rows, .int t_chosen, .int t_chosenSign, .int t_chosenLimbs, .int t_state, .int t_done, .int t_pivots, .int t_odd])), (q_t_limbs, .inl (cA, n_t_limbs, .inl a_t_limbs)), (q_t_signs, .inl (cA, n_t_signs, .inl a_t_signs)), (q_t_rows, .inl (cA, n_t_rows, .inl a_t_rows))] sz [.ref q_t, .int fro, .int tt]) (c_Qv (dC, dI) vwCl [(cA, .int)] [(q_t, .inr (3, [.int t_n, .int t_room, .ref q_t_limbs, .ref q_t_signs, .ref q_t_rows, .int t_chosen, .int t_chosenSign, .int t_chosenLimbs, .int t_state, .int t_done, .int t_pivots, .int t_odd])), (q_t_limbs, .inl (cA, n_t_limbs, .inl o.1)), (q_t_signs, .inl (cA, n_t_signs, .inl o.2)), (q_t_rows, .inl (cA, n_t_rows, .inl a_t_rows))] (va_A [(q_t, .inr (3, [.int t_n, .int t_room, .ref q_t_limbs, .ref q_t_signs, .ref q_t_rows, .int t_chosen, .int t_chosenSign, .int t_chosenLimbs, .int t_state, .int t_done, .int t_pivots, .int t_odd])), (q_t_limbs, .inl (cA, n_t_limbs, .inl a_t_limbs)), (q_t_signs, .inl (cA, n_t_signs, .inl a_t_signs)), (q_t_rows, .inl (cA, n_t_rows, .inl a_t_rows))] sz)) 0 0 (va_A [(q_t, .inr (3, [.int t_n, .int t_room, .ref q_t_limbs, .ref q_t_signs, .ref q_t_rows, .int t_chosen, .int t_chosenSign, .int t_chosenLimbs, .int t_state, .int t_done, .int t_pivots, .int t_odd])), (q_t_limbs, .inl (cA, n_t_limbs, .inl a_t_limbs)), (q_t_signs, .inl (cA, n_t_signs, .inl a_t_signs)), (q_t_rows, .inl (cA, n_t_rows, .inl a_t_rows))] sz) := by
  unfold f_X_copy at hf
  refine k_ent (Qc := fun A => c_Qv (dC, dI) vwCl [(cA, .int)] [(q_t, .inr (3, [.int t_n, .int t_room, .ref q_t_limbs, .ref q_t_signs, .ref q_t_rows, .int t_chosen, .int t_chosenSign, .int t_chosenLimbs, .int t_state, .int t_done, .int t_pivots, .int t_odd])), (q_t_limbs, .inl (cA, n_t_limbs, .inl o.1)), (q_t_signs, .inl (cA, n_t_signs, .inl o.2)), (q_t_rows, .inl (cA, n_t_rows, .inl a_t_rows))] A) (by decide) rfl (Nat.le_of_ble_eq_true rfl) ?_
  intro p e s m below meth c A hx hb hr hown hts hml hlocks hin hsz hA hK H locs hP hD hS ls hl
  have hown : s.vm.findClass RX3 = some m.cls := hown
  have hl : lv_has ls 4 [(0, .ref q_t), (1, .int fro), (2, .int tt)] := hl
  refine lv_iconst (v := 0) hx hb dX3_copy_0 (by decide) ?_
  refine lv_istore_n (lv' := [(3, .int 0), (0, .ref q_t), (1, .int fro), (2, .int tt)]) hx hb dX3_copy_1 rfl hl (by decide) rfl (fun ls hl => ?_)
  obtain ⟨x10, g11, hf⟩ := og_b hf
  refine w_X_copy_L2 hx hb hown hts hml hA hK k q_t q_t_limbs q_t_signs q_t_rows fro tt t_n t_room t_chosen t_chosenSign t_chosenLimbs t_state t_done t_pivots t_odd n_t_limbs n_t_signs a_t_signs n_t_rows a_t_rows k (0 : Int32) a_t_limbs _ g11 _ _ (hP.sub [0, 1, 2, 3] rfl) (hD.sub [0, 1, 2, 3] (by decide) rfl) hS _ (lv_sub hl [1, 2, 3, 0] rfl) ?_
  intro H locs hP hD hS ls hl
  refine lv_aload_n hx hb dX3_copy_36 rfl (lv_at hl 0 rfl) ?_
  refine va_get (D := (dC, dI)) (ci := 3) (v := .ref q_t_signs) (C := RX3) (T := TX3) (N := 12) hx hb hts ki_X_copy_X3 hown hK hP 0 rfl rfl 3 (by decide) (hts (.fieldLink RX3 13 "MinorStepsModel" "signs" "[I") kw_X_copy_1) (fun _ h9 => h9) rfl dX3_copy_37 ?_
  refine lv_iload_n hx hb dX3_copy_40 rfl (lv_at hl 2 rfl) ?_
  refine lv_aload_n hx hb dX3_copy_41 rfl (lv_at hl 0 rfl) ?_
  refine va_get (D := (dC, dI)) (ci := 3) (v := .ref q_t_signs) (C := RX3) (T := TX3) (N := 12) hx hb hts ki_X_copy_X3 hown hK hP 0 rfl rfl 3 (by decide) (hts (.fieldLink RX3 13 "MinorStepsModel" "signs" "[I") kw_X_copy_1) (fun _ h9 => h9) rfl dX3_copy_42 ?_
  refine lv_iload_n hx hb dX3_copy_45 rfl (lv_at hl 1 rfl) ?_
  obtain ⟨g12, hf⟩ := og_c hf
  refine va_iald hx hb hK hP 2 0 rfl rfl (og_in g12) dX3_copy_46 ?_
  obtain ⟨g13, hf⟩ := og_c hf
  refine va_iast hx hb hK hP hD hS 2 0 rfl rfl (og_in g13) dX3_copy_47 (fun H locs hP hD hS => ?_)
  have hP : va_P (dC, dI) vwCl [(q_t, .inr (3, [.int t_n, .int t_room, .ref q_t_limbs, .ref q_t_signs, .ref q_t_rows, .int t_chosen, .int t_chosenSign, .int t_chosenLimbs, .int t_state, .int t_done, .int t_pivots, .int t_odd])), (q_t_limbs, .inl (cA, n_t_limbs, .inl x10.2)), (q_t_signs, .inl (cA, n_t_signs, .inl (upd a_t_signs tt.toNatClampNeg (a_t_signs fro.toNatClampNeg)))), (q_t_rows, .inl (cA, n_t_rows, .inl a_t_rows))] H := hP
  have hD : va_D A [(q_t, .inr (3, [.int t_n, .int t_room, .ref q_t_limbs, .ref q_t_signs, .ref q_t_rows, .int t_chosen, .int t_chosenSign, .int t_chosenLimbs, .int t_state, .int t_done, .int t_pivots, .int t_odd])), (q_t_limbs, .inl (cA, n_t_limbs, .inl x10.2)), (q_t_signs, .inl (cA, n_t_signs, .inl (upd a_t_signs tt.toNatClampNeg (a_t_signs fro.toNatClampNeg)))), (q_t_rows, .inl (cA, n_t_rows, .inl a_t_rows))] := hD
  have e9 := Option.some.inj hf
  subst e9
  exact kr_v hx hb hr hlocks hK hS (hP.sub [0, 1, 2, 3] rfl) (hD.sub [0, 1, 2, 3] (by decide) rfl) dX3_copy_48
def rm_X_count : Room := { frames := 0, cells := 0, slots := 0, locals := 0 }
theorem kw_X_count_0 : (.fieldLink RX3 7 "MinorStepsModel" "limbs" "[I" : Cond) ∈ wsX3_count := by decide +kernel
theorem ki_X_count_X3 : ∀ w ∈ u_ws RX3 TX3 12, w ∈ wsX3_count := by decide +kernel
set_option maxHeartbeats 4000000 in
set_option maxRecDepth 100000 in
theorem w_X_count_L3 {p : Program} {l : Launch} {e : Env} {s : State} {m : MethodId} {args : Array Value} {below : List Frame} {meth : Method} {c : Code} {Q : State → Prop} {A : Nat → Prop} {H0 : Heap} {dC : Nat → ClassId} {dI : Nat → Nat → Nat} {cA : ClassId} (hx : p.tables.exec = Jvm.exec) (hb : c.code = cX3_count) (hown : s.vm.findClass RX3 = some m.cls) (hts : ∀ w ∈ wsX3_count, w.before args s = true) (hml : c.maxLocals = 3) (hA : ∀ q, H0.size ≤ q → A q) (hK : va_K (dC, dI) vwCl [(cA, .int)] s) (k : Nat) (q_t : Nat) (q_t_limbs : Nat) (q_t_signs : Nat) (q_t_rows : Nat) (v1 : Int32) (i0_t : Int32) (i1_t : Int32) (i5_t : Int32) (i6_t : Int32) (i7_t : Int32) (i8_t : Int32) (i9_t : Int32) (i10_t : Int32) (i11_t : Int32) (n_t_limbs : Nat) (a_t_limbs : Nat → Int32) (n_t_signs : Nat) (a_t_signs : Nat → Int32) (n_t_rows : Nat) (a_t_rows : Nat → Int32) : ∀ (j : Nat) (v2 : Int32) (o : Int32), f_X_count_L3 k v1 n_t_limbs a_t_limbs j v2 = some o → ∀ (H : Heap) (locs : List Loc), va_P (dC, dI) vwCl [(q_t, .inr (3, [.int i0_t, .int i1_t, .ref q_t_limbs, .ref q_t_signs, .ref q_t_rows, .int i5_t, .int i6_t, .int i7_t, .int i8_t, .int i9_t, .int i10_t, .int i11_t])), (q_t_limbs, .inl (cA, n_t_limbs, .inl a_t_limbs)), (q_t_signs, .inl (cA, n_t_signs, .inl a_t_signs)), (q_t_rows, .inl (cA, n_t_rows, .inl a_t_rows))] H → va_D A [(q_t, .inr (3, [.int i0_t, .int i1_t, .ref q_t_limbs, .ref q_t_signs, .ref q_t_rows, .int i5_t, .int i6_t, .int i7_t, .int i8_t, .int i9_t, .int i10_t, .int i11_t])), (q_t_limbs, .inl (cA, n_t_limbs, .inl a_t_limbs)), (q_t_signs, .inl (cA, n_t_signs, .inl a_t_signs)), (q_t_rows, .inl (cA, n_t_rows, .inl a_t_rows))] → va_S A H0 H locs → ∀ ls : Array Slot, lv_has ls 3 [(0, .ref q_t), (1, .int v1), (2, .int v2)] → ∀ (he : ∀ (H : Heap) (locs : List Loc), va_P (dC, dI) vwCl [(q_t, .inr (3, [.int i0_t, .int i1_t, .ref q_t_limbs, .ref q_t_signs, .ref q_t_rows, .int i5_t, .int i6_t, .int i7_t, .int i8_t, .int i9_t, .int i10_t, .int i11_t])), (q_t_limbs, .inl (cA, n_t_limbs, .inl a_t_limbs)), (q_t_signs, .inl (cA, n_t_signs, .inl a_t_signs)), (q_t_rows, .inl (cA, n_t_rows, .inl a_t_rows))] H → va_D A [(q_t, .inr (3, [.int i0_t, .int i1_t, .ref q_t_limbs, .ref q_t_signs, .ref q_t_rows, .int i5_t, .int i6_t, .int i7_t, .int i8_t, .int i9_t, .int i10_t, .int i11_t])), (q_t_limbs, .inl (cA, n_t_limbs, .inl a_t_limbs)), (q_t_signs, .inl (cA, n_t_signs, .inl a_t_signs)), (q_t_rows, .inl (cA, n_t_rows, .inl a_t_rows))] → va_S A H0 H locs → ∀ ls : Array Slot, lv_has ls 3 [(2, .int o)] → W p l e rm_X_count s m args below meth c H locs 0 0 Q (F0 m 29 ls [])), W p l e rm_X_count s m args below meth c H locs 0 0 Q (F0 m 3 ls []) := by
  intro j
  induction j with
  | zero =>
    intro v2 o hf
    rw [f_X_count_L3] at hf
    cases hf
  | succ j ih =>
    intro v2 o hf H locs hP hD hS ls hl he
    rw [f_X_count_L3] at hf
    refine lv_iload_n hx hb dX3_count_3 rfl (lv_at hl 2 rfl) ?_
    refine lv_if_le (tgt := 29) hx hb dX3_count_4 (by decide) (fun c7 => ?_) (fun c7 => ?_)
    · have hf := og_t c7 hf
      have e9 := Option.some.inj hf
      subst e9
      exact he _ _ (hP.sub [0, 1, 2, 3] rfl) (hD.sub [0, 1, 2, 3] (by decide) rfl) hS _ (lv_sub hl [2] rfl)
    · have hf := og_f c7 hf
      refine lv_aload_n hx hb dX3_count_7 rfl (lv_at hl 0 rfl) ?_
      refine va_get (D := (dC, dI)) (ci := 3) (v := .ref q_t_limbs) (C := RX3) (T := TX3) (N := 12) hx hb hts ki_X_count_X3 hown hK hP 0 rfl rfl 2 (by decide) (hts (.fieldLink RX3 7 "MinorStepsModel" "limbs" "[I") kw_X_count_0) (fun _ h9 => h9) rfl dX3_count_8 ?_
      refine lv_bipush (v := 40) hx hb dX3_count_11 (by decide) ?_
      refine lv_iload_n hx hb dX3_count_13 rfl (lv_at hl 1 rfl) ?_
      refine lv_imul hx hb dX3_count_14 ?_
      refine lv_iload_n hx hb dX3_count_15 rfl (lv_at hl 2 rfl) ?_
      refine lv_iadd hx hb dX3_count_16 ?_
      refine lv_iconst (v := 1) hx hb dX3_count_17 (by decide) ?_
      refine lv_isub hx hb dX3_count_18 ?_
      obtain ⟨g8, hf⟩ := og_c hf
      refine va_iald hx hb hK hP 1 0 rfl rfl (og_in g8) dX3_count_19 ?_
      refine lv_if_ne (tgt := 29) hx hb dX3_count_20 (by decide) (fun c9 => ?_) (fun c9 => ?_)
      · have hf := og_f c9 hf
        have e9 := Option.some.inj hf
        subst e9
        exact he _ _ (hP.sub [0, 1, 2, 3] rfl) (hD.sub [0, 1, 2, 3] (by decide) rfl) hS _ (lv_sub hl [2] rfl)
      · have hf := og_t c9 hf
        refine lv_iinc (v := v2 + (-1)) (lv' := [(2, .int (v2 + (-1))), (0, .ref q_t), (1, .int v1)]) hx hb dX3_count_23 hl (k := 2) rfl rfl (by decide) rfl (fun ls hl => ?_)
        refine lv_goto (tgt := 3) hx hb dX3_count_26 (by decide) ?_
        exact ih (v2 + (-1)) _ hf _ _ (hP.sub [0, 1, 2, 3] rfl) (hD.sub [0, 1, 2, 3] (by decide) rfl) hS _ (lv_sub hl [1, 2, 0] rfl) he
set_option maxHeartbeats 4000000 in
set_option maxRecDepth 100000 in
theorem c_X_count (l : Launch) (dC : Nat → ClassId) (dI : Nat → Nat → Nat) (cA : ClassId) (sz : Nat) (q_t : Nat) (q_t_limbs : Nat) (q_t_signs : Nat) (q_t_rows : Nat) (k : Nat) (t_n : Int32) (t_room : Int32) (t_chosen : Int32) (t_chosenSign : Int32) (t_chosenLimbs : Int32) (t_state : Int32) (t_done : Int32) (t_pivots : Int32) (t_odd : Int32) (n_t_limbs : Nat) (a_t_limbs : Nat → Int32) (n_t_signs : Nat) (a_t_signs : Nat → Int32) (n_t_rows : Nat) (a_t_rows : Nat → Int32) (pp : Int32) (o : Int32) (hf : f_X_count k n_t_limbs a_t_limbs pp = some o) : Met l yX3_count wsX3_count rm_X_count (c_Pre (dC, dI) vwCl [(cA, .int)] [(q_t, .inr (3, [.int t_n, .int t_room, .ref q_t_limbs, .ref q_t_signs, .ref q_t_rows, .int t_chosen, .int t_chosenSign, .int t_chosenLimbs, .int t_state, .int t_done, .int t_pivots, .int t_odd])), (q_t_limbs, .inl (cA, n_t_limbs, .inl a_t_limbs)), (q_t_signs, .inl (cA, n_t_signs, .inl a_t_signs)), (q_t_rows, .inl (cA, n_t_rows, .inl a_t_rows))] sz [.ref q_t, .int pp]) (c_Qi (dC, dI) vwCl [(cA, .int)] [(q_t, .inr (3, [.int t_n, .int t_room, .ref q_t_limbs, .ref q_t_signs, .ref q_t_rows, .int t_chosen, .int t_chosenSign, .int t_chosenLimbs, .int t_state, .int t_done, .int t_pivots, .int t_odd])), (q_t_limbs, .inl (cA, n_t_limbs, .inl a_t_limbs)), (q_t_signs, .inl (cA, n_t_signs, .inl a_t_signs)), (q_t_rows, .inl (cA, n_t_rows, .inl a_t_rows))] (va_A [(q_t, .inr (3, [.int t_n, .int t_room, .ref q_t_limbs, .ref q_t_signs, .ref q_t_rows, .int t_chosen, .int t_chosenSign, .int t_chosenLimbs, .int t_state, .int t_done, .int t_pivots, .int t_odd])), (q_t_limbs, .inl (cA, n_t_limbs, .inl a_t_limbs)), (q_t_signs, .inl (cA, n_t_signs, .inl a_t_signs)), (q_t_rows, .inl (cA, n_t_rows, .inl a_t_rows))] sz) o) 0 0 (va_A [(q_t, .inr (3, [.int t_n, .int t_room, .ref q_t_limbs, .ref q_t_signs, .ref q_t_rows, .int t_chosen, .int t_chosenSign, .int t_chosenLimbs, .int t_state, .int t_done, .int t_pivots, .int t_odd])), (q_t_limbs, .inl (cA, n_t_limbs, .inl a_t_limbs)), (q_t_signs, .inl (cA, n_t_signs, .inl a_t_signs)), (q_t_rows, .inl (cA, n_t_rows, .inl a_t_rows))] sz) := by
  unfold f_X_count at hf
  refine k_ent (Qc := fun A => c_Qi (dC, dI) vwCl [(cA, .int)] [(q_t, .inr (3, [.int t_n, .int t_room, .ref q_t_limbs, .ref q_t_signs, .ref q_t_rows, .int t_chosen, .int t_chosenSign, .int t_chosenLimbs, .int t_state, .int t_done, .int t_pivots, .int t_odd])), (q_t_limbs, .inl (cA, n_t_limbs, .inl a_t_limbs)), (q_t_signs, .inl (cA, n_t_signs, .inl a_t_signs)), (q_t_rows, .inl (cA, n_t_rows, .inl a_t_rows))] A o) (by decide) rfl (Nat.le_of_ble_eq_true rfl) ?_
  intro p e s m below meth c A hx hb hr hown hts hml hlocks hin hsz hA hK H locs hP hD hS ls hl
  have hown : s.vm.findClass RX3 = some m.cls := hown
  have hl : lv_has ls 3 [(0, .ref q_t), (1, .int pp)] := hl
  refine lv_bipush (v := 40) hx hb dX3_count_0 (by decide) ?_
  refine lv_istore_n (lv' := [(2, .int 40), (0, .ref q_t), (1, .int pp)]) hx hb dX3_count_2 rfl hl (by decide) rfl (fun ls hl => ?_)
  obtain ⟨x10, g11, hf⟩ := og_b hf
  refine w_X_count_L3 hx hb hown hts hml hA hK k q_t q_t_limbs q_t_signs q_t_rows pp t_n t_room t_chosen t_chosenSign t_chosenLimbs t_state t_done t_pivots t_odd n_t_limbs a_t_limbs n_t_signs a_t_signs n_t_rows a_t_rows k (40 : Int32) _ g11 _ _ (hP.sub [0, 1, 2, 3] rfl) (hD.sub [0, 1, 2, 3] (by decide) rfl) hS _ (lv_sub hl [1, 2, 0] rfl) ?_
  intro H locs hP hD hS ls hl
  refine lv_iload_n hx hb dX3_count_29 rfl (lv_at hl 0 rfl) ?_
  have e9 := Option.some.inj hf
  subst e9
  exact kr_i hx hb hr hlocks hK hS (hP.sub [0, 1, 2, 3] rfl) (hD.sub [0, 1, 2, 3] (by decide) rfl) dX3_count_30
def rm_X_multiply : Room := { frames := 1, cells := 0, slots := 0, locals := 22 }
theorem kw_X_multiply_0 : (.fieldLink RX3 7 "MinorStepsModel" "limbs" "[I" : Cond) ∈ wsX3_multiply := by decide +kernel
theorem kw_X_multiply_1 : (.constantLong RX3 67 2147483647 : Cond) ∈ wsX3_multiply := by decide +kernel
theorem kw_X_multiply_2 : (.fieldLink RX3 13 "MinorStepsModel" "signs" "[I" : Cond) ∈ wsX3_multiply := by decide +kernel
theorem ki_X_multiply_X3 : ∀ w ∈ u_ws RX3 TX3 12, w ∈ wsX3_multiply := by decide +kernel
set_option maxHeartbeats 4000000 in
set_option maxRecDepth 100000 in
theorem w_X_multiply_L31 {p : Program} {l : Launch} {e : Env} {s : State} {m : MethodId} {args : Array Value} {below : List Frame} {meth : Method} {c : Code} {Q : State → Prop} {A : Nat → Prop} {H0 : Heap} {dC : Nat → ClassId} {dI : Nat → Nat → Nat} {cA : ClassId} (hx : p.tables.exec = Jvm.exec) (hb : c.code = cX3_multiply) (hown : s.vm.findClass RX3 = some m.cls) (hts : ∀ w ∈ wsX3_multiply, w.before args s = true) (hml : c.maxLocals = 10) (hA : ∀ q, H0.size ≤ q → A q) (hK : va_K (dC, dI) vwCl [(cA, .int)] s) (k : Nat) (q_t : Nat) (q_t_limbs : Nat) (q_t_signs : Nat) (q_t_rows : Nat) (v1 : Int32) (v2 : Int32) (v3 : Int32) (v4 : Int32) (i0_t : Int32) (i1_t : Int32) (i5_t : Int32) (i6_t : Int32) (i7_t : Int32) (i8_t : Int32) (i9_t : Int32) (i10_t : Int32) (i11_t : Int32) (n_t_limbs : Nat) (n_t_signs : Nat) (a_t_signs : Nat → Int32) (n_t_rows : Nat) (a_t_rows : Nat → Int32) : ∀ (j : Nat) (v5 : Int64) (v7 : Int32) (a_t_limbs : Nat → Int32) (o : Int64 × Int32 × (Nat → Int32)), f_X_multiply_L31 k v1 v2 v3 v4 n_t_limbs j v5 v7 a_t_limbs = some o → ∀ (H : Heap) (locs : List Loc), va_P (dC, dI) vwCl [(q_t, .inr (3, [.int i0_t, .int i1_t, .ref q_t_limbs, .ref q_t_signs, .ref q_t_rows, .int i5_t, .int i6_t, .int i7_t, .int i8_t, .int i9_t, .int i10_t, .int i11_t])), (q_t_limbs, .inl (cA, n_t_limbs, .inl a_t_limbs)), (q_t_signs, .inl (cA, n_t_signs, .inl a_t_signs)), (q_t_rows, .inl (cA, n_t_rows, .inl a_t_rows))] H → va_D A [(q_t, .inr (3, [.int i0_t, .int i1_t, .ref q_t_limbs, .ref q_t_signs, .ref q_t_rows, .int i5_t, .int i6_t, .int i7_t, .int i8_t, .int i9_t, .int i10_t, .int i11_t])), (q_t_limbs, .inl (cA, n_t_limbs, .inl a_t_limbs)), (q_t_signs, .inl (cA, n_t_signs, .inl a_t_signs)), (q_t_rows, .inl (cA, n_t_rows, .inl a_t_rows))] → va_S A H0 H locs → ∀ ls : Array Slot, lv_has ls 10 [(0, .ref q_t), (1, .int v1), (2, .int v2), (3, .int v3), (4, .int v4), (5, .long v5), (7, .int v7)] → ∀ (he : ∀ (H : Heap) (locs : List Loc), va_P (dC, dI) vwCl [(q_t, .inr (3, [.int i0_t, .int i1_t, .ref q_t_limbs, .ref q_t_signs, .ref q_t_rows, .int i5_t, .int i6_t, .int i7_t, .int i8_t, .int i9_t, .int i10_t, .int i11_t])), (q_t_limbs, .inl (cA, n_t_limbs, .inl o.2.2)), (q_t_signs, .inl (cA, n_t_signs, .inl a_t_signs)), (q_t_rows, .inl (cA, n_t_rows, .inl a_t_rows))] H → va_D A [(q_t, .inr (3, [.int i0_t, .int i1_t, .ref q_t_limbs, .ref q_t_signs, .ref q_t_rows, .int i5_t, .int i6_t, .int i7_t, .int i8_t, .int i9_t, .int i10_t, .int i11_t])), (q_t_limbs, .inl (cA, n_t_limbs, .inl o.2.2)), (q_t_signs, .inl (cA, n_t_signs, .inl a_t_signs)), (q_t_rows, .inl (cA, n_t_rows, .inl a_t_rows))] → va_S A H0 H locs → ∀ ls : Array Slot, lv_has ls 10 [(0, .ref q_t), (1, .int v1), (2, .int v2), (3, .int v3), (4, .int v4)] → W p l e rm_X_multiply s m args below meth c H locs 0 0 Q (F0 m 136 ls [])), W p l e rm_X_multiply s m args below meth c H locs 0 0 Q (F0 m 31 ls []) := by
  intro j
  induction j with
  | zero =>
    intro v5 v7 a_t_limbs o hf
    rw [f_X_multiply_L31] at hf
    cases hf
  | succ j ih =>
    intro v5 v7 a_t_limbs o hf H locs hP hD hS ls hl he
    rw [f_X_multiply_L31] at hf
    refine lv_iload hx hb dX3_multiply_31 (lv_at hl 6 rfl) ?_
    refine lv_iload_n hx hb dX3_multiply_33 rfl (lv_at hl 3 rfl) ?_
    refine lv_icmp_lt (tgt := 44) hx hb dX3_multiply_34 (by decide) (fun c93 => ?_) (fun c93 => ?_)
    · have hf := og_t c93 hf
      refine lv_aload_n hx hb dX3_multiply_44 rfl (lv_at hl 0 rfl) ?_
      refine va_get (D := (dC, dI)) (ci := 3) (v := .ref q_t_limbs) (C := RX3) (T := TX3) (N := 12) hx hb hts ki_X_multiply_X3 hown hK hP 0 rfl rfl 2 (by decide) (hts (.fieldLink RX3 7 "MinorStepsModel" "limbs" "[I") kw_X_multiply_0) (fun _ h9 => h9) rfl dX3_multiply_45 ?_
      refine lv_bipush (v := 40) hx hb dX3_multiply_48 (by decide) ?_
      refine lv_iload_n hx hb dX3_multiply_50 rfl (lv_at hl 1 rfl) ?_
      refine lv_imul hx hb dX3_multiply_51 ?_
      refine lv_iload hx hb dX3_multiply_52 (lv_at hl 4 rfl) ?_
      refine lv_iadd hx hb dX3_multiply_54 ?_
      obtain ⟨g94, hf⟩ := og_c hf
      refine va_iald hx hb hK hP 1 0 rfl rfl (og_in g94) dX3_multiply_55 ?_
      refine lv_i2l (v := (a_t_limbs ((40 * v1) + v4).toNatClampNeg).toInt64) hx hb dX3_multiply_56 rfl ?_
      refine lv_iload hx hb dX3_multiply_57 (lv_at hl 6 rfl) ?_
      refine lv_iload_n hx hb dX3_multiply_59 rfl (lv_at hl 3 rfl) ?_
      refine lv_icmp_ge (tgt := 78) hx hb dX3_multiply_60 (by decide) (fun c95 => ?_) (fun c95 => ?_)
      · have hf := og_t c95 hf
        refine lv_iconst (v := 0) hx hb dX3_multiply_78 (by decide) ?_
        refine lv_i2l (v := (0 : Int32).toInt64) hx hb dX3_multiply_79 rfl ?_
        refine lv_lmul hx hb dX3_multiply_80 ?_
        refine lv_aload_n hx hb dX3_multiply_81 rfl (lv_at hl 0 rfl) ?_
        refine va_get (D := (dC, dI)) (ci := 3) (v := .ref q_t_limbs) (C := RX3) (T := TX3) (N := 12) hx hb hts ki_X_multiply_X3 hown hK hP 0 rfl rfl 2 (by decide) (hts (.fieldLink RX3 7 "MinorStepsModel" "limbs" "[I") kw_X_multiply_0) (fun _ h9 => h9) rfl dX3_multiply_82 ?_
        refine lv_sipush (v := 1920) hx hb dX3_multiply_85 (by decide) ?_
        refine lv_iload hx hb dX3_multiply_88 (lv_at hl 4 rfl) ?_
        refine lv_iadd hx hb dX3_multiply_90 ?_
        refine lv_iload hx hb dX3_multiply_91 (lv_at hl 6 rfl) ?_
        refine lv_iadd hx hb dX3_multiply_93 ?_
        obtain ⟨g96, hf⟩ := og_c hf
        refine va_iald hx hb hK hP 1 0 rfl rfl (og_in g96) dX3_multiply_94 ?_
        refine lv_i2l (v := (a_t_limbs ((1920 + v4) + v7).toNatClampNeg).toInt64) hx hb dX3_multiply_95 rfl ?_
        refine lv_ladd hx hb dX3_multiply_96 ?_
        refine lv_lload hx hb dX3_multiply_97 (lv_at hl 5 rfl) ?_
        refine lv_ladd hx hb dX3_multiply_99 ?_
        refine lv_lstore (lv' := [(8, .long (((((a_t_limbs ((40 * v1) + v4).toNatClampNeg).toInt64) * ((0 : Int32).toInt64)) + ((a_t_limbs ((1920 + v4) + v7).toNatClampNeg).toInt64)) + v5)), (0, .ref q_t), (1, .int v1), (2, .int v2), (3, .int v3), (4, .int v4), (5, .long v5), (7, .int v7)]) hx hb dX3_multiply_100 hl (by decide) rfl (fun ls hl => ?_)
        refine lv_aload_n hx hb dX3_multiply_102 rfl (lv_at hl 1 rfl) ?_
        refine va_get (D := (dC, dI)) (ci := 3) (v := .ref q_t_limbs) (C := RX3) (T := TX3) (N := 12) hx hb hts ki_X_multiply_X3 hown hK hP 0 rfl rfl 2 (by decide) (hts (.fieldLink RX3 7 "MinorStepsModel" "limbs" "[I") kw_X_multiply_0) (fun _ h9 => h9) rfl dX3_multiply_103 ?_
        refine lv_sipush (v := 1920) hx hb dX3_multiply_106 (by decide) ?_
        refine lv_iload hx hb dX3_multiply_109 (lv_at hl 5 rfl) ?_
        refine lv_iadd hx hb dX3_multiply_111 ?_
        refine lv_iload hx hb dX3_multiply_112 (lv_at hl 7 rfl) ?_
        refine lv_iadd hx hb dX3_multiply_114 ?_
        refine lv_lload hx hb dX3_multiply_115 (lv_at hl 0 rfl) ?_
        refine lv_ldc2 (v := 2147483647) hx hb hown (hts (.constantLong RX3 67 2147483647) kw_X_multiply_1) dX3_multiply_117 ?_
        refine lv_land hx hb dX3_multiply_120 ?_
        refine lv_l2i (v := ((((((a_t_limbs ((40 * v1) + v4).toNatClampNeg).toInt64) * ((0 : Int32).toInt64)) + ((a_t_limbs ((1920 + v4) + v7).toNatClampNeg).toInt64)) + v5) &&& 2147483647).toInt32) hx hb dX3_multiply_121 rfl ?_
        obtain ⟨g97, hf⟩ := og_c hf
        refine va_iast hx hb hK hP hD hS 1 0 rfl rfl (og_in g97) dX3_multiply_122 (fun H locs hP hD hS => ?_)
        have hP : va_P (dC, dI) vwCl [(q_t, .inr (3, [.int i0_t, .int i1_t, .ref q_t_limbs, .ref q_t_signs, .ref q_t_rows, .int i5_t, .int i6_t, .int i7_t, .int i8_t, .int i9_t, .int i10_t, .int i11_t])), (q_t_limbs, .inl (cA, n_t_limbs, .inl (upd a_t_limbs ((1920 + v4) + v7).toNatClampNeg (((((((a_t_limbs ((40 * v1) + v4).toNatClampNeg).toInt64) * ((0 : Int32).toInt64)) + ((a_t_limbs ((1920 + v4) + v7).toNatClampNeg).toInt64)) + v5) &&& 2147483647).toInt32)))), (q_t_signs, .inl (cA, n_t_signs, .inl a_t_signs)), (q_t_rows, .inl (cA, n_t_rows, .inl a_t_rows))] H := hP
        have hD : va_D A [(q_t, .inr (3, [.int i0_t, .int i1_t, .ref q_t_limbs, .ref q_t_signs, .ref q_t_rows, .int i5_t, .int i6_t, .int i7_t, .int i8_t, .int i9_t, .int i10_t, .int i11_t])), (q_t_limbs, .inl (cA, n_t_limbs, .inl (upd a_t_limbs ((1920 + v4) + v7).toNatClampNeg (((((((a_t_limbs ((40 * v1) + v4).toNatClampNeg).toInt64) * ((0 : Int32).toInt64)) + ((a_t_limbs ((1920 + v4) + v7).toNatClampNeg).toInt64)) + v5) &&& 2147483647).toInt32)))), (q_t_signs, .inl (cA, n_t_signs, .inl a_t_signs)), (q_t_rows, .inl (cA, n_t_rows, .inl a_t_rows))] := hD
        refine lv_lload hx hb dX3_multiply_123 (lv_at hl 0 rfl) ?_
        refine lv_bipush (v := 31) hx hb dX3_multiply_125 (by decide) ?_
        refine lv_lshr (v := (((((a_t_limbs ((40 * v1) + v4).toNatClampNeg).toInt64) * ((0 : Int32).toInt64)) + ((a_t_limbs ((1920 + v4) + v7).toNatClampNeg).toInt64)) + v5) >>> ((31 : Int32).toInt64 &&& 63)) hx hb dX3_multiply_127 rfl ?_
        refine lv_lstore (lv' := [(5, .long ((((((a_t_limbs ((40 * v1) + v4).toNatClampNeg).toInt64) * ((0 : Int32).toInt64)) + ((a_t_limbs ((1920 + v4) + v7).toNatClampNeg).toInt64)) + v5) >>> ((31 : Int32).toInt64 &&& 63))), (8, .long (((((a_t_limbs ((40 * v1) + v4).toNatClampNeg).toInt64) * ((0 : Int32).toInt64)) + ((a_t_limbs ((1920 + v4) + v7).toNatClampNeg).toInt64)) + v5)), (0, .ref q_t), (1, .int v1), (2, .int v2), (3, .int v3), (4, .int v4), (7, .int v7)]) hx hb dX3_multiply_128 hl (by decide) rfl (fun ls hl => ?_)
        refine lv_iinc (v := v7 + 1) (lv' := [(7, .int (v7 + 1)), (5, .long ((((((a_t_limbs ((40 * v1) + v4).toNatClampNeg).toInt64) * ((0 : Int32).toInt64)) + ((a_t_limbs ((1920 + v4) + v7).toNatClampNeg).toInt64)) + v5) >>> ((31 : Int32).toInt64 &&& 63))), (8, .long (((((a_t_limbs ((40 * v1) + v4).toNatClampNeg).toInt64) * ((0 : Int32).toInt64)) + ((a_t_limbs ((1920 + v4) + v7).toNatClampNeg).toInt64)) + v5)), (0, .ref q_t), (1, .int v1), (2, .int v2), (3, .int v3), (4, .int v4)]) hx hb dX3_multiply_130 hl (k := 7) rfl rfl (by decide) rfl (fun ls hl => ?_)
        refine lv_goto (tgt := 31) hx hb dX3_multiply_133 (by decide) ?_
        exact ih ((((((a_t_limbs ((40 * v1) + v4).toNatClampNeg).toInt64) * ((0 : Int32).toInt64)) + ((a_t_limbs ((1920 + v4) + v7).toNatClampNeg).toInt64)) + v5) >>> ((31 : Int32).toInt64 &&& 63)) (v7 + 1) (upd a_t_limbs ((1920 + v4) + v7).toNatClampNeg (((((((a_t_limbs ((40 * v1) + v4).toNatClampNeg).toInt64) * ((0 : Int32).toInt64)) + ((a_t_limbs ((1920 + v4) + v7).toNatClampNeg).toInt64)) + v5) &&& 2147483647).toInt32)) _ hf _ _ (hP.sub [0, 1, 2, 3] rfl) (hD.sub [0, 1, 2, 3] (by decide) rfl) hS _ (lv_sub hl [3, 4, 5, 6, 7, 1, 0] rfl) he
      · have hf := og_f c95 hf
        refine lv_aload_n hx hb dX3_multiply_63 rfl (lv_at hl 0 rfl) ?_
        refine va_get (D := (dC, dI)) (ci := 3) (v := .ref q_t_limbs) (C := RX3) (T := TX3) (N := 12) hx hb hts ki_X_multiply_X3 hown hK hP 0 rfl rfl 2 (by decide) (hts (.fieldLink RX3 7 "MinorStepsModel" "limbs" "[I") kw_X_multiply_0) (fun _ h9 => h9) rfl dX3_multiply_64 ?_
        refine lv_bipush (v := 40) hx hb dX3_multiply_67 (by decide) ?_
        refine lv_iload_n hx hb dX3_multiply_69 rfl (lv_at hl 2 rfl) ?_
        refine lv_imul hx hb dX3_multiply_70 ?_
        refine lv_iload hx hb dX3_multiply_71 (lv_at hl 6 rfl) ?_
        refine lv_iadd hx hb dX3_multiply_73 ?_
        obtain ⟨g98, hf⟩ := og_c hf
        refine va_iald hx hb hK hP 1 0 rfl rfl (og_in g98) dX3_multiply_74 ?_
        refine lv_goto (tgt := 79) hx hb dX3_multiply_75 (by decide) ?_
        refine lv_i2l (v := (a_t_limbs ((40 * v2) + v7).toNatClampNeg).toInt64) hx hb dX3_multiply_79 rfl ?_
        refine lv_lmul hx hb dX3_multiply_80 ?_
        refine lv_aload_n hx hb dX3_multiply_81 rfl (lv_at hl 0 rfl) ?_
        refine va_get (D := (dC, dI)) (ci := 3) (v := .ref q_t_limbs) (C := RX3) (T := TX3) (N := 12) hx hb hts ki_X_multiply_X3 hown hK hP 0 rfl rfl 2 (by decide) (hts (.fieldLink RX3 7 "MinorStepsModel" "limbs" "[I") kw_X_multiply_0) (fun _ h9 => h9) rfl dX3_multiply_82 ?_
        refine lv_sipush (v := 1920) hx hb dX3_multiply_85 (by decide) ?_
        refine lv_iload hx hb dX3_multiply_88 (lv_at hl 4 rfl) ?_
        refine lv_iadd hx hb dX3_multiply_90 ?_
        refine lv_iload hx hb dX3_multiply_91 (lv_at hl 6 rfl) ?_
        refine lv_iadd hx hb dX3_multiply_93 ?_
        obtain ⟨g99, hf⟩ := og_c hf
        refine va_iald hx hb hK hP 1 0 rfl rfl (og_in g99) dX3_multiply_94 ?_
        refine lv_i2l (v := (a_t_limbs ((1920 + v4) + v7).toNatClampNeg).toInt64) hx hb dX3_multiply_95 rfl ?_
        refine lv_ladd hx hb dX3_multiply_96 ?_
        refine lv_lload hx hb dX3_multiply_97 (lv_at hl 5 rfl) ?_
        refine lv_ladd hx hb dX3_multiply_99 ?_
        refine lv_lstore (lv' := [(8, .long (((((a_t_limbs ((40 * v1) + v4).toNatClampNeg).toInt64) * ((a_t_limbs ((40 * v2) + v7).toNatClampNeg).toInt64)) + ((a_t_limbs ((1920 + v4) + v7).toNatClampNeg).toInt64)) + v5)), (0, .ref q_t), (1, .int v1), (2, .int v2), (3, .int v3), (4, .int v4), (5, .long v5), (7, .int v7)]) hx hb dX3_multiply_100 hl (by decide) rfl (fun ls hl => ?_)
        refine lv_aload_n hx hb dX3_multiply_102 rfl (lv_at hl 1 rfl) ?_
        refine va_get (D := (dC, dI)) (ci := 3) (v := .ref q_t_limbs) (C := RX3) (T := TX3) (N := 12) hx hb hts ki_X_multiply_X3 hown hK hP 0 rfl rfl 2 (by decide) (hts (.fieldLink RX3 7 "MinorStepsModel" "limbs" "[I") kw_X_multiply_0) (fun _ h9 => h9) rfl dX3_multiply_103 ?_
        refine lv_sipush (v := 1920) hx hb dX3_multiply_106 (by decide) ?_
        refine lv_iload hx hb dX3_multiply_109 (lv_at hl 5 rfl) ?_
        refine lv_iadd hx hb dX3_multiply_111 ?_
        refine lv_iload hx hb dX3_multiply_112 (lv_at hl 7 rfl) ?_
        refine lv_iadd hx hb dX3_multiply_114 ?_
        refine lv_lload hx hb dX3_multiply_115 (lv_at hl 0 rfl) ?_
        refine lv_ldc2 (v := 2147483647) hx hb hown (hts (.constantLong RX3 67 2147483647) kw_X_multiply_1) dX3_multiply_117 ?_
        refine lv_land hx hb dX3_multiply_120 ?_
        refine lv_l2i (v := ((((((a_t_limbs ((40 * v1) + v4).toNatClampNeg).toInt64) * ((a_t_limbs ((40 * v2) + v7).toNatClampNeg).toInt64)) + ((a_t_limbs ((1920 + v4) + v7).toNatClampNeg).toInt64)) + v5) &&& 2147483647).toInt32) hx hb dX3_multiply_121 rfl ?_
        obtain ⟨g100, hf⟩ := og_c hf
        refine va_iast hx hb hK hP hD hS 1 0 rfl rfl (og_in g100) dX3_multiply_122 (fun H locs hP hD hS => ?_)
        have hP : va_P (dC, dI) vwCl [(q_t, .inr (3, [.int i0_t, .int i1_t, .ref q_t_limbs, .ref q_t_signs, .ref q_t_rows, .int i5_t, .int i6_t, .int i7_t, .int i8_t, .int i9_t, .int i10_t, .int i11_t])), (q_t_limbs, .inl (cA, n_t_limbs, .inl (upd a_t_limbs ((1920 + v4) + v7).toNatClampNeg (((((((a_t_limbs ((40 * v1) + v4).toNatClampNeg).toInt64) * ((a_t_limbs ((40 * v2) + v7).toNatClampNeg).toInt64)) + ((a_t_limbs ((1920 + v4) + v7).toNatClampNeg).toInt64)) + v5) &&& 2147483647).toInt32)))), (q_t_signs, .inl (cA, n_t_signs, .inl a_t_signs)), (q_t_rows, .inl (cA, n_t_rows, .inl a_t_rows))] H := hP
        have hD : va_D A [(q_t, .inr (3, [.int i0_t, .int i1_t, .ref q_t_limbs, .ref q_t_signs, .ref q_t_rows, .int i5_t, .int i6_t, .int i7_t, .int i8_t, .int i9_t, .int i10_t, .int i11_t])), (q_t_limbs, .inl (cA, n_t_limbs, .inl (upd a_t_limbs ((1920 + v4) + v7).toNatClampNeg (((((((a_t_limbs ((40 * v1) + v4).toNatClampNeg).toInt64) * ((a_t_limbs ((40 * v2) + v7).toNatClampNeg).toInt64)) + ((a_t_limbs ((1920 + v4) + v7).toNatClampNeg).toInt64)) + v5) &&& 2147483647).toInt32)))), (q_t_signs, .inl (cA, n_t_signs, .inl a_t_signs)), (q_t_rows, .inl (cA, n_t_rows, .inl a_t_rows))] := hD
        refine lv_lload hx hb dX3_multiply_123 (lv_at hl 0 rfl) ?_
        refine lv_bipush (v := 31) hx hb dX3_multiply_125 (by decide) ?_
        refine lv_lshr (v := (((((a_t_limbs ((40 * v1) + v4).toNatClampNeg).toInt64) * ((a_t_limbs ((40 * v2) + v7).toNatClampNeg).toInt64)) + ((a_t_limbs ((1920 + v4) + v7).toNatClampNeg).toInt64)) + v5) >>> ((31 : Int32).toInt64 &&& 63)) hx hb dX3_multiply_127 rfl ?_
        refine lv_lstore (lv' := [(5, .long ((((((a_t_limbs ((40 * v1) + v4).toNatClampNeg).toInt64) * ((a_t_limbs ((40 * v2) + v7).toNatClampNeg).toInt64)) + ((a_t_limbs ((1920 + v4) + v7).toNatClampNeg).toInt64)) + v5) >>> ((31 : Int32).toInt64 &&& 63))), (8, .long (((((a_t_limbs ((40 * v1) + v4).toNatClampNeg).toInt64) * ((a_t_limbs ((40 * v2) + v7).toNatClampNeg).toInt64)) + ((a_t_limbs ((1920 + v4) + v7).toNatClampNeg).toInt64)) + v5)), (0, .ref q_t), (1, .int v1), (2, .int v2), (3, .int v3), (4, .int v4), (7, .int v7)]) hx hb dX3_multiply_128 hl (by decide) rfl (fun ls hl => ?_)
        refine lv_iinc (v := v7 + 1) (lv' := [(7, .int (v7 + 1)), (5, .long ((((((a_t_limbs ((40 * v1) + v4).toNatClampNeg).toInt64) * ((a_t_limbs ((40 * v2) + v7).toNatClampNeg).toInt64)) + ((a_t_limbs ((1920 + v4) + v7).toNatClampNeg).toInt64)) + v5) >>> ((31 : Int32).toInt64 &&& 63))), (8, .long (((((a_t_limbs ((40 * v1) + v4).toNatClampNeg).toInt64) * ((a_t_limbs ((40 * v2) + v7).toNatClampNeg).toInt64)) + ((a_t_limbs ((1920 + v4) + v7).toNatClampNeg).toInt64)) + v5)), (0, .ref q_t), (1, .int v1), (2, .int v2), (3, .int v3), (4, .int v4)]) hx hb dX3_multiply_130 hl (k := 7) rfl rfl (by decide) rfl (fun ls hl => ?_)
        refine lv_goto (tgt := 31) hx hb dX3_multiply_133 (by decide) ?_
        exact ih ((((((a_t_limbs ((40 * v1) + v4).toNatClampNeg).toInt64) * ((a_t_limbs ((40 * v2) + v7).toNatClampNeg).toInt64)) + ((a_t_limbs ((1920 + v4) + v7).toNatClampNeg).toInt64)) + v5) >>> ((31 : Int32).toInt64 &&& 63)) (v7 + 1) (upd a_t_limbs ((1920 + v4) + v7).toNatClampNeg (((((((a_t_limbs ((40 * v1) + v4).toNatClampNeg).toInt64) * ((a_t_limbs ((40 * v2) + v7).toNatClampNeg).toInt64)) + ((a_t_limbs ((1920 + v4) + v7).toNatClampNeg).toInt64)) + v5) &&& 2147483647).toInt32)) _ hf _ _ (hP.sub [0, 1, 2, 3] rfl) (hD.sub [0, 1, 2, 3] (by decide) rfl) hS _ (lv_sub hl [3, 4, 5, 6, 7, 1, 0] rfl) he
    · have hf := og_f c93 hf
      refine lv_lload hx hb dX3_multiply_37 (lv_at hl 5 rfl) ?_
      refine lv_lconst (v := 0) hx hb dX3_multiply_39 (by decide) ?_
      refine W.lcmp hx hb dX3_multiply_40 ?_
      refine lv_if_le (tgt := 136) hx hb dX3_multiply_41 (by decide) (fun c101 => ?_) (fun c101 => ?_)
      · have hf := og_t c101 hf
        have e9 := Option.some.inj hf
        subst e9
        exact he _ _ (hP.sub [0, 1, 2, 3] rfl) (hD.sub [0, 1, 2, 3] (by decide) rfl) hS _ (lv_sub hl [0, 1, 2, 3, 4] rfl)
      · have hf := og_f c101 hf
        refine lv_aload_n hx hb dX3_multiply_44 rfl (lv_at hl 0 rfl) ?_
        refine va_get (D := (dC, dI)) (ci := 3) (v := .ref q_t_limbs) (C := RX3) (T := TX3) (N := 12) hx hb hts ki_X_multiply_X3 hown hK hP 0 rfl rfl 2 (by decide) (hts (.fieldLink RX3 7 "MinorStepsModel" "limbs" "[I") kw_X_multiply_0) (fun _ h9 => h9) rfl dX3_multiply_45 ?_
        refine lv_bipush (v := 40) hx hb dX3_multiply_48 (by decide) ?_
        refine lv_iload_n hx hb dX3_multiply_50 rfl (lv_at hl 1 rfl) ?_
        refine lv_imul hx hb dX3_multiply_51 ?_
        refine lv_iload hx hb dX3_multiply_52 (lv_at hl 4 rfl) ?_
        refine lv_iadd hx hb dX3_multiply_54 ?_
        obtain ⟨g102, hf⟩ := og_c hf
        refine va_iald hx hb hK hP 1 0 rfl rfl (og_in g102) dX3_multiply_55 ?_
        refine lv_i2l (v := (a_t_limbs ((40 * v1) + v4).toNatClampNeg).toInt64) hx hb dX3_multiply_56 rfl ?_
        refine lv_iload hx hb dX3_multiply_57 (lv_at hl 6 rfl) ?_
        refine lv_iload_n hx hb dX3_multiply_59 rfl (lv_at hl 3 rfl) ?_
        refine lv_icmp_ge (tgt := 78) hx hb dX3_multiply_60 (by decide) (fun c103 => ?_) (fun c103 => ?_)
        · have hf := og_t c103 hf
          refine lv_iconst (v := 0) hx hb dX3_multiply_78 (by decide) ?_
          refine lv_i2l (v := (0 : Int32).toInt64) hx hb dX3_multiply_79 rfl ?_
          refine lv_lmul hx hb dX3_multiply_80 ?_
          refine lv_aload_n hx hb dX3_multiply_81 rfl (lv_at hl 0 rfl) ?_
          refine va_get (D := (dC, dI)) (ci := 3) (v := .ref q_t_limbs) (C := RX3) (T := TX3) (N := 12) hx hb hts ki_X_multiply_X3 hown hK hP 0 rfl rfl 2 (by decide) (hts (.fieldLink RX3 7 "MinorStepsModel" "limbs" "[I") kw_X_multiply_0) (fun _ h9 => h9) rfl dX3_multiply_82 ?_
          refine lv_sipush (v := 1920) hx hb dX3_multiply_85 (by decide) ?_
          refine lv_iload hx hb dX3_multiply_88 (lv_at hl 4 rfl) ?_
          refine lv_iadd hx hb dX3_multiply_90 ?_
          refine lv_iload hx hb dX3_multiply_91 (lv_at hl 6 rfl) ?_
          refine lv_iadd hx hb dX3_multiply_93 ?_
          obtain ⟨g104, hf⟩ := og_c hf
          refine va_iald hx hb hK hP 1 0 rfl rfl (og_in g104) dX3_multiply_94 ?_
          refine lv_i2l (v := (a_t_limbs ((1920 + v4) + v7).toNatClampNeg).toInt64) hx hb dX3_multiply_95 rfl ?_
          refine lv_ladd hx hb dX3_multiply_96 ?_
          refine lv_lload hx hb dX3_multiply_97 (lv_at hl 5 rfl) ?_
          refine lv_ladd hx hb dX3_multiply_99 ?_
          refine lv_lstore (lv' := [(8, .long (((((a_t_limbs ((40 * v1) + v4).toNatClampNeg).toInt64) * ((0 : Int32).toInt64)) + ((a_t_limbs ((1920 + v4) + v7).toNatClampNeg).toInt64)) + v5)), (0, .ref q_t), (1, .int v1), (2, .int v2), (3, .int v3), (4, .int v4), (5, .long v5), (7, .int v7)]) hx hb dX3_multiply_100 hl (by decide) rfl (fun ls hl => ?_)
          refine lv_aload_n hx hb dX3_multiply_102 rfl (lv_at hl 1 rfl) ?_
          refine va_get (D := (dC, dI)) (ci := 3) (v := .ref q_t_limbs) (C := RX3) (T := TX3) (N := 12) hx hb hts ki_X_multiply_X3 hown hK hP 0 rfl rfl 2 (by decide) (hts (.fieldLink RX3 7 "MinorStepsModel" "limbs" "[I") kw_X_multiply_0) (fun _ h9 => h9) rfl dX3_multiply_103 ?_
          refine lv_sipush (v := 1920) hx hb dX3_multiply_106 (by decide) ?_
          refine lv_iload hx hb dX3_multiply_109 (lv_at hl 5 rfl) ?_
          refine lv_iadd hx hb dX3_multiply_111 ?_
          refine lv_iload hx hb dX3_multiply_112 (lv_at hl 7 rfl) ?_
          refine lv_iadd hx hb dX3_multiply_114 ?_
          refine lv_lload hx hb dX3_multiply_115 (lv_at hl 0 rfl) ?_
          refine lv_ldc2 (v := 2147483647) hx hb hown (hts (.constantLong RX3 67 2147483647) kw_X_multiply_1) dX3_multiply_117 ?_
          refine lv_land hx hb dX3_multiply_120 ?_
          refine lv_l2i (v := ((((((a_t_limbs ((40 * v1) + v4).toNatClampNeg).toInt64) * ((0 : Int32).toInt64)) + ((a_t_limbs ((1920 + v4) + v7).toNatClampNeg).toInt64)) + v5) &&& 2147483647).toInt32) hx hb dX3_multiply_121 rfl ?_
          obtain ⟨g105, hf⟩ := og_c hf
          refine va_iast hx hb hK hP hD hS 1 0 rfl rfl (og_in g105) dX3_multiply_122 (fun H locs hP hD hS => ?_)
          have hP : va_P (dC, dI) vwCl [(q_t, .inr (3, [.int i0_t, .int i1_t, .ref q_t_limbs, .ref q_t_signs, .ref q_t_rows, .int i5_t, .int i6_t, .int i7_t, .int i8_t, .int i9_t, .int i10_t, .int i11_t])), (q_t_limbs, .inl (cA, n_t_limbs, .inl (upd a_t_limbs ((1920 + v4) + v7).toNatClampNeg (((((((a_t_limbs ((40 * v1) + v4).toNatClampNeg).toInt64) * ((0 : Int32).toInt64)) + ((a_t_limbs ((1920 + v4) + v7).toNatClampNeg).toInt64)) + v5) &&& 2147483647).toInt32)))), (q_t_signs, .inl (cA, n_t_signs, .inl a_t_signs)), (q_t_rows, .inl (cA, n_t_rows, .inl a_t_rows))] H := hP
          have hD : va_D A [(q_t, .inr (3, [.int i0_t, .int i1_t, .ref q_t_limbs, .ref q_t_signs, .ref q_t_rows, .int i5_t, .int i6_t, .int i7_t, .int i8_t, .int i9_t, .int i10_t, .int i11_t])), (q_t_limbs, .inl (cA, n_t_limbs, .inl (upd a_t_limbs ((1920 + v4) + v7).toNatClampNeg (((((((a_t_limbs ((40 * v1) + v4).toNatClampNeg).toInt64) * ((0 : Int32).toInt64)) + ((a_t_limbs ((1920 + v4) + v7).toNatClampNeg).toInt64)) + v5) &&& 2147483647).toInt32)))), (q_t_signs, .inl (cA, n_t_signs, .inl a_t_signs)), (q_t_rows, .inl (cA, n_t_rows, .inl a_t_rows))] := hD
          refine lv_lload hx hb dX3_multiply_123 (lv_at hl 0 rfl) ?_
          refine lv_bipush (v := 31) hx hb dX3_multiply_125 (by decide) ?_
          refine lv_lshr (v := (((((a_t_limbs ((40 * v1) + v4).toNatClampNeg).toInt64) * ((0 : Int32).toInt64)) + ((a_t_limbs ((1920 + v4) + v7).toNatClampNeg).toInt64)) + v5) >>> ((31 : Int32).toInt64 &&& 63)) hx hb dX3_multiply_127 rfl ?_
          refine lv_lstore (lv' := [(5, .long ((((((a_t_limbs ((40 * v1) + v4).toNatClampNeg).toInt64) * ((0 : Int32).toInt64)) + ((a_t_limbs ((1920 + v4) + v7).toNatClampNeg).toInt64)) + v5) >>> ((31 : Int32).toInt64 &&& 63))), (8, .long (((((a_t_limbs ((40 * v1) + v4).toNatClampNeg).toInt64) * ((0 : Int32).toInt64)) + ((a_t_limbs ((1920 + v4) + v7).toNatClampNeg).toInt64)) + v5)), (0, .ref q_t), (1, .int v1), (2, .int v2), (3, .int v3), (4, .int v4), (7, .int v7)]) hx hb dX3_multiply_128 hl (by decide) rfl (fun ls hl => ?_)
          refine lv_iinc (v := v7 + 1) (lv' := [(7, .int (v7 + 1)), (5, .long ((((((a_t_limbs ((40 * v1) + v4).toNatClampNeg).toInt64) * ((0 : Int32).toInt64)) + ((a_t_limbs ((1920 + v4) + v7).toNatClampNeg).toInt64)) + v5) >>> ((31 : Int32).toInt64 &&& 63))), (8, .long (((((a_t_limbs ((40 * v1) + v4).toNatClampNeg).toInt64) * ((0 : Int32).toInt64)) + ((a_t_limbs ((1920 + v4) + v7).toNatClampNeg).toInt64)) + v5)), (0, .ref q_t), (1, .int v1), (2, .int v2), (3, .int v3), (4, .int v4)]) hx hb dX3_multiply_130 hl (k := 7) rfl rfl (by decide) rfl (fun ls hl => ?_)
          refine lv_goto (tgt := 31) hx hb dX3_multiply_133 (by decide) ?_
          exact ih ((((((a_t_limbs ((40 * v1) + v4).toNatClampNeg).toInt64) * ((0 : Int32).toInt64)) + ((a_t_limbs ((1920 + v4) + v7).toNatClampNeg).toInt64)) + v5) >>> ((31 : Int32).toInt64 &&& 63)) (v7 + 1) (upd a_t_limbs ((1920 + v4) + v7).toNatClampNeg (((((((a_t_limbs ((40 * v1) + v4).toNatClampNeg).toInt64) * ((0 : Int32).toInt64)) + ((a_t_limbs ((1920 + v4) + v7).toNatClampNeg).toInt64)) + v5) &&& 2147483647).toInt32)) _ hf _ _ (hP.sub [0, 1, 2, 3] rfl) (hD.sub [0, 1, 2, 3] (by decide) rfl) hS _ (lv_sub hl [3, 4, 5, 6, 7, 1, 0] rfl) he
        · have hf := og_f c103 hf
          refine lv_aload_n hx hb dX3_multiply_63 rfl (lv_at hl 0 rfl) ?_
          refine va_get (D := (dC, dI)) (ci := 3) (v := .ref q_t_limbs) (C := RX3) (T := TX3) (N := 12) hx hb hts ki_X_multiply_X3 hown hK hP 0 rfl rfl 2 (by decide) (hts (.fieldLink RX3 7 "MinorStepsModel" "limbs" "[I") kw_X_multiply_0) (fun _ h9 => h9) rfl dX3_multiply_64 ?_
          refine lv_bipush (v := 40) hx hb dX3_multiply_67 (by decide) ?_
          refine lv_iload_n hx hb dX3_multiply_69 rfl (lv_at hl 2 rfl) ?_
          refine lv_imul hx hb dX3_multiply_70 ?_
          refine lv_iload hx hb dX3_multiply_71 (lv_at hl 6 rfl) ?_
          refine lv_iadd hx hb dX3_multiply_73 ?_
          obtain ⟨g106, hf⟩ := og_c hf
          refine va_iald hx hb hK hP 1 0 rfl rfl (og_in g106) dX3_multiply_74 ?_
          refine lv_goto (tgt := 79) hx hb dX3_multiply_75 (by decide) ?_
          refine lv_i2l (v := (a_t_limbs ((40 * v2) + v7).toNatClampNeg).toInt64) hx hb dX3_multiply_79 rfl ?_
          refine lv_lmul hx hb dX3_multiply_80 ?_
          refine lv_aload_n hx hb dX3_multiply_81 rfl (lv_at hl 0 rfl) ?_
          refine va_get (D := (dC, dI)) (ci := 3) (v := .ref q_t_limbs) (C := RX3) (T := TX3) (N := 12) hx hb hts ki_X_multiply_X3 hown hK hP 0 rfl rfl 2 (by decide) (hts (.fieldLink RX3 7 "MinorStepsModel" "limbs" "[I") kw_X_multiply_0) (fun _ h9 => h9) rfl dX3_multiply_82 ?_
          refine lv_sipush (v := 1920) hx hb dX3_multiply_85 (by decide) ?_
          refine lv_iload hx hb dX3_multiply_88 (lv_at hl 4 rfl) ?_
          refine lv_iadd hx hb dX3_multiply_90 ?_
          refine lv_iload hx hb dX3_multiply_91 (lv_at hl 6 rfl) ?_
          refine lv_iadd hx hb dX3_multiply_93 ?_
          obtain ⟨g107, hf⟩ := og_c hf
          refine va_iald hx hb hK hP 1 0 rfl rfl (og_in g107) dX3_multiply_94 ?_
          refine lv_i2l (v := (a_t_limbs ((1920 + v4) + v7).toNatClampNeg).toInt64) hx hb dX3_multiply_95 rfl ?_
          refine lv_ladd hx hb dX3_multiply_96 ?_
          refine lv_lload hx hb dX3_multiply_97 (lv_at hl 5 rfl) ?_
          refine lv_ladd hx hb dX3_multiply_99 ?_
          refine lv_lstore (lv' := [(8, .long (((((a_t_limbs ((40 * v1) + v4).toNatClampNeg).toInt64) * ((a_t_limbs ((40 * v2) + v7).toNatClampNeg).toInt64)) + ((a_t_limbs ((1920 + v4) + v7).toNatClampNeg).toInt64)) + v5)), (0, .ref q_t), (1, .int v1), (2, .int v2), (3, .int v3), (4, .int v4), (5, .long v5), (7, .int v7)]) hx hb dX3_multiply_100 hl (by decide) rfl (fun ls hl => ?_)
          refine lv_aload_n hx hb dX3_multiply_102 rfl (lv_at hl 1 rfl) ?_
          refine va_get (D := (dC, dI)) (ci := 3) (v := .ref q_t_limbs) (C := RX3) (T := TX3) (N := 12) hx hb hts ki_X_multiply_X3 hown hK hP 0 rfl rfl 2 (by decide) (hts (.fieldLink RX3 7 "MinorStepsModel" "limbs" "[I") kw_X_multiply_0) (fun _ h9 => h9) rfl dX3_multiply_103 ?_
          refine lv_sipush (v := 1920) hx hb dX3_multiply_106 (by decide) ?_
          refine lv_iload hx hb dX3_multiply_109 (lv_at hl 5 rfl) ?_
          refine lv_iadd hx hb dX3_multiply_111 ?_
          refine lv_iload hx hb dX3_multiply_112 (lv_at hl 7 rfl) ?_
          refine lv_iadd hx hb dX3_multiply_114 ?_
          refine lv_lload hx hb dX3_multiply_115 (lv_at hl 0 rfl) ?_
          refine lv_ldc2 (v := 2147483647) hx hb hown (hts (.constantLong RX3 67 2147483647) kw_X_multiply_1) dX3_multiply_117 ?_
          refine lv_land hx hb dX3_multiply_120 ?_
          refine lv_l2i (v := ((((((a_t_limbs ((40 * v1) + v4).toNatClampNeg).toInt64) * ((a_t_limbs ((40 * v2) + v7).toNatClampNeg).toInt64)) + ((a_t_limbs ((1920 + v4) + v7).toNatClampNeg).toInt64)) + v5) &&& 2147483647).toInt32) hx hb dX3_multiply_121 rfl ?_
          obtain ⟨g108, hf⟩ := og_c hf
          refine va_iast hx hb hK hP hD hS 1 0 rfl rfl (og_in g108) dX3_multiply_122 (fun H locs hP hD hS => ?_)
          have hP : va_P (dC, dI) vwCl [(q_t, .inr (3, [.int i0_t, .int i1_t, .ref q_t_limbs, .ref q_t_signs, .ref q_t_rows, .int i5_t, .int i6_t, .int i7_t, .int i8_t, .int i9_t, .int i10_t, .int i11_t])), (q_t_limbs, .inl (cA, n_t_limbs, .inl (upd a_t_limbs ((1920 + v4) + v7).toNatClampNeg (((((((a_t_limbs ((40 * v1) + v4).toNatClampNeg).toInt64) * ((a_t_limbs ((40 * v2) + v7).toNatClampNeg).toInt64)) + ((a_t_limbs ((1920 + v4) + v7).toNatClampNeg).toInt64)) + v5) &&& 2147483647).toInt32)))), (q_t_signs, .inl (cA, n_t_signs, .inl a_t_signs)), (q_t_rows, .inl (cA, n_t_rows, .inl a_t_rows))] H := hP
          have hD : va_D A [(q_t, .inr (3, [.int i0_t, .int i1_t, .ref q_t_limbs, .ref q_t_signs, .ref q_t_rows, .int i5_t, .int i6_t, .int i7_t, .int i8_t, .int i9_t, .int i10_t, .int i11_t])), (q_t_limbs, .inl (cA, n_t_limbs, .inl (upd a_t_limbs ((1920 + v4) + v7).toNatClampNeg (((((((a_t_limbs ((40 * v1) + v4).toNatClampNeg).toInt64) * ((a_t_limbs ((40 * v2) + v7).toNatClampNeg).toInt64)) + ((a_t_limbs ((1920 + v4) + v7).toNatClampNeg).toInt64)) + v5) &&& 2147483647).toInt32)))), (q_t_signs, .inl (cA, n_t_signs, .inl a_t_signs)), (q_t_rows, .inl (cA, n_t_rows, .inl a_t_rows))] := hD
          refine lv_lload hx hb dX3_multiply_123 (lv_at hl 0 rfl) ?_
          refine lv_bipush (v := 31) hx hb dX3_multiply_125 (by decide) ?_
          refine lv_lshr (v := (((((a_t_limbs ((40 * v1) + v4).toNatClampNeg).toInt64) * ((a_t_limbs ((40 * v2) + v7).toNatClampNeg).toInt64)) + ((a_t_limbs ((1920 + v4) + v7).toNatClampNeg).toInt64)) + v5) >>> ((31 : Int32).toInt64 &&& 63)) hx hb dX3_multiply_127 rfl ?_
          refine lv_lstore (lv' := [(5, .long ((((((a_t_limbs ((40 * v1) + v4).toNatClampNeg).toInt64) * ((a_t_limbs ((40 * v2) + v7).toNatClampNeg).toInt64)) + ((a_t_limbs ((1920 + v4) + v7).toNatClampNeg).toInt64)) + v5) >>> ((31 : Int32).toInt64 &&& 63))), (8, .long (((((a_t_limbs ((40 * v1) + v4).toNatClampNeg).toInt64) * ((a_t_limbs ((40 * v2) + v7).toNatClampNeg).toInt64)) + ((a_t_limbs ((1920 + v4) + v7).toNatClampNeg).toInt64)) + v5)), (0, .ref q_t), (1, .int v1), (2, .int v2), (3, .int v3), (4, .int v4), (7, .int v7)]) hx hb dX3_multiply_128 hl (by decide) rfl (fun ls hl => ?_)
          refine lv_iinc (v := v7 + 1) (lv' := [(7, .int (v7 + 1)), (5, .long ((((((a_t_limbs ((40 * v1) + v4).toNatClampNeg).toInt64) * ((a_t_limbs ((40 * v2) + v7).toNatClampNeg).toInt64)) + ((a_t_limbs ((1920 + v4) + v7).toNatClampNeg).toInt64)) + v5) >>> ((31 : Int32).toInt64 &&& 63))), (8, .long (((((a_t_limbs ((40 * v1) + v4).toNatClampNeg).toInt64) * ((a_t_limbs ((40 * v2) + v7).toNatClampNeg).toInt64)) + ((a_t_limbs ((1920 + v4) + v7).toNatClampNeg).toInt64)) + v5)), (0, .ref q_t), (1, .int v1), (2, .int v2), (3, .int v3), (4, .int v4)]) hx hb dX3_multiply_130 hl (k := 7) rfl rfl (by decide) rfl (fun ls hl => ?_)
          refine lv_goto (tgt := 31) hx hb dX3_multiply_133 (by decide) ?_
          exact ih ((((((a_t_limbs ((40 * v1) + v4).toNatClampNeg).toInt64) * ((a_t_limbs ((40 * v2) + v7).toNatClampNeg).toInt64)) + ((a_t_limbs ((1920 + v4) + v7).toNatClampNeg).toInt64)) + v5) >>> ((31 : Int32).toInt64 &&& 63)) (v7 + 1) (upd a_t_limbs ((1920 + v4) + v7).toNatClampNeg (((((((a_t_limbs ((40 * v1) + v4).toNatClampNeg).toInt64) * ((a_t_limbs ((40 * v2) + v7).toNatClampNeg).toInt64)) + ((a_t_limbs ((1920 + v4) + v7).toNatClampNeg).toInt64)) + v5) &&& 2147483647).toInt32)) _ hf _ _ (hP.sub [0, 1, 2, 3] rfl) (hD.sub [0, 1, 2, 3] (by decide) rfl) hS _ (lv_sub hl [3, 4, 5, 6, 7, 1, 0] rfl) he
set_option maxHeartbeats 4000000 in
set_option maxRecDepth 100000 in
theorem w_X_multiply_L15 {p : Program} {l : Launch} {e : Env} {s : State} {m : MethodId} {args : Array Value} {below : List Frame} {meth : Method} {c : Code} {Q : State → Prop} {A : Nat → Prop} {H0 : Heap} {dC : Nat → ClassId} {dI : Nat → Nat → Nat} {cA : ClassId} (hx : p.tables.exec = Jvm.exec) (hb : c.code = cX3_multiply) (hown : s.vm.findClass RX3 = some m.cls) (hts : ∀ w ∈ wsX3_multiply, w.before args s = true) (hml : c.maxLocals = 10) (hA : ∀ q, H0.size ≤ q → A q) (hK : va_K (dC, dI) vwCl [(cA, .int)] s) (k : Nat) (q_t : Nat) (q_t_limbs : Nat) (q_t_signs : Nat) (q_t_rows : Nat) (v1 : Int32) (v2 : Int32) (v3 : Int32) (i0_t : Int32) (i1_t : Int32) (i5_t : Int32) (i6_t : Int32) (i7_t : Int32) (i8_t : Int32) (i9_t : Int32) (i10_t : Int32) (i11_t : Int32) (n_t_limbs : Nat) (n_t_signs : Nat) (a_t_signs : Nat → Int32) (n_t_rows : Nat) (a_t_rows : Nat → Int32) : ∀ (j : Nat) (v4 : Int32) (a_t_limbs : Nat → Int32) (o : Int32 × (Nat → Int32)), f_X_multiply_L15 k v1 v2 v3 n_t_limbs j v4 a_t_limbs = some o → ∀ (H : Heap) (locs : List Loc), va_P (dC, dI) vwCl [(q_t, .inr (3, [.int i0_t, .int i1_t, .ref q_t_limbs, .ref q_t_signs, .ref q_t_rows, .int i5_t, .int i6_t, .int i7_t, .int i8_t, .int i9_t, .int i10_t, .int i11_t])), (q_t_limbs, .inl (cA, n_t_limbs, .inl a_t_limbs)), (q_t_signs, .inl (cA, n_t_signs, .inl a_t_signs)), (q_t_rows, .inl (cA, n_t_rows, .inl a_t_rows))] H → va_D A [(q_t, .inr (3, [.int i0_t, .int i1_t, .ref q_t_limbs, .ref q_t_signs, .ref q_t_rows, .int i5_t, .int i6_t, .int i7_t, .int i8_t, .int i9_t, .int i10_t, .int i11_t])), (q_t_limbs, .inl (cA, n_t_limbs, .inl a_t_limbs)), (q_t_signs, .inl (cA, n_t_signs, .inl a_t_signs)), (q_t_rows, .inl (cA, n_t_rows, .inl a_t_rows))] → va_S A H0 H locs → ∀ ls : Array Slot, lv_has ls 10 [(0, .ref q_t), (1, .int v1), (2, .int v2), (3, .int v3), (4, .int v4)] → ∀ (he : ∀ (H : Heap) (locs : List Loc), va_P (dC, dI) vwCl [(q_t, .inr (3, [.int i0_t, .int i1_t, .ref q_t_limbs, .ref q_t_signs, .ref q_t_rows, .int i5_t, .int i6_t, .int i7_t, .int i8_t, .int i9_t, .int i10_t, .int i11_t])), (q_t_limbs, .inl (cA, n_t_limbs, .inl o.2)), (q_t_signs, .inl (cA, n_t_signs, .inl a_t_signs)), (q_t_rows, .inl (cA, n_t_rows, .inl a_t_rows))] H → va_D A [(q_t, .inr (3, [.int i0_t, .int i1_t, .ref q_t_limbs, .ref q_t_signs, .ref q_t_rows, .int i5_t, .int i6_t, .int i7_t, .int i8_t, .int i9_t, .int i10_t, .int i11_t])), (q_t_limbs, .inl (cA, n_t_limbs, .inl o.2)), (q_t_signs, .inl (cA, n_t_signs, .inl a_t_signs)), (q_t_rows, .inl (cA, n_t_rows, .inl a_t_rows))] → va_S A H0 H locs → ∀ ls : Array Slot, lv_has ls 10 [(0, .ref q_t), (1, .int v1), (2, .int v2)] → W p l e rm_X_multiply s m args below meth c H locs 0 0 Q (F0 m 142 ls [])), W p l e rm_X_multiply s m args below meth c H locs 0 0 Q (F0 m 15 ls []) := by
  intro j
  induction j with
  | zero =>
    intro v4 a_t_limbs o hf
    rw [f_X_multiply_L15] at hf
    cases hf
  | succ j ih =>
    intro v4 a_t_limbs o hf H locs hP hD hS ls hl he
    rw [f_X_multiply_L15] at hf
    refine lv_iload hx hb dX3_multiply_15 (lv_at hl 4 rfl) ?_
    refine lv_aload_n hx hb dX3_multiply_17 rfl (lv_at hl 0 rfl) ?_
    refine lv_iload_n hx hb dX3_multiply_18 rfl (lv_at hl 1 rfl) ?_
    obtain ⟨x111, g112, hf⟩ := og_b hf
    refine kc_i (wr := []) (w1 := [(q_t, .inr (3, [.int i0_t, .int i1_t, .ref q_t_limbs, .ref q_t_signs, .ref q_t_rows, .int i5_t, .int i6_t, .int i7_t, .int i8_t, .int i9_t, .int i10_t, .int i11_t])), (q_t_limbs, .inl (cA, n_t_limbs, .inl a_t_limbs)), (q_t_signs, .inl (cA, n_t_signs, .inl a_t_signs)), (q_t_rows, .inl (cA, n_t_rows, .inl a_t_rows))]) [0, 1, 2, 3] [] (va_runV (As := [.int v1]) (rest := [.int v4]) ⟨hx, hb, hml, hown, hts⟩ (c_X_count l dC dI cA H.size q_t q_t_limbs q_t_signs q_t_rows k i0_t i1_t i5_t i6_t i7_t i8_t i9_t i10_t i11_t n_t_limbs a_t_limbs n_t_signs a_t_signs n_t_rows a_t_rows v1 x111 g112) (cwV 1 hts gX3_multiply_X3_count rfl rfl rfl (by decide +kernel) ⟨Nat.le_of_ble_eq_true rfl, Nat.le_of_ble_eq_true rfl⟩) (kc_preV hP hD hK [0, 1, 2, 3] rfl rfl (by decide) (ci := 3) (q0 := 0) rfl rfl) rfl rfl hl.1 rfl (lv_room (Nat.le_of_ble_eq_true rfl)) dX3_multiply_19 ⟨Nat.le_of_ble_eq_true rfl, Nat.le_of_ble_eq_true rfl⟩) hP hD hS hA rfl rfl (by decide) (by decide) (fun H locs hP hD hS => ?_)
    have hP : va_P (dC, dI) vwCl [(q_t, .inr (3, [.int i0_t, .int i1_t, .ref q_t_limbs, .ref q_t_signs, .ref q_t_rows, .int i5_t, .int i6_t, .int i7_t, .int i8_t, .int i9_t, .int i10_t, .int i11_t])), (q_t_limbs, .inl (cA, n_t_limbs, .inl a_t_limbs)), (q_t_signs, .inl (cA, n_t_signs, .inl a_t_signs)), (q_t_rows, .inl (cA, n_t_rows, .inl a_t_rows))] H := hP
    have hD : va_D A [(q_t, .inr (3, [.int i0_t, .int i1_t, .ref q_t_limbs, .ref q_t_signs, .ref q_t_rows, .int i5_t, .int i6_t, .int i7_t, .int i8_t, .int i9_t, .int i10_t, .int i11_t])), (q_t_limbs, .inl (cA, n_t_limbs, .inl a_t_limbs)), (q_t_signs, .inl (cA, n_t_signs, .inl a_t_signs)), (q_t_rows, .inl (cA, n_t_rows, .inl a_t_rows))] := hD
    refine lv_icmp_ge (tgt := 142) hx hb dX3_multiply_22 (by decide) (fun c113 => ?_) (fun c113 => ?_)
    · have hf := og_t c113 hf
      have e9 := Option.some.inj hf
      subst e9
      exact he _ _ (hP.sub [0, 1, 2, 3] rfl) (hD.sub [0, 1, 2, 3] (by decide) rfl) hS _ (lv_sub hl [0, 1, 2] rfl)
    · have hf := og_f c113 hf
      refine lv_lconst (v := 0) hx hb dX3_multiply_25 (by decide) ?_
      refine lv_lstore (lv' := [(5, .long 0), (0, .ref q_t), (1, .int v1), (2, .int v2), (3, .int v3), (4, .int v4)]) hx hb dX3_multiply_26 hl (by decide) rfl (fun ls hl => ?_)
      refine lv_iconst (v := 0) hx hb dX3_multiply_28 (by decide) ?_
      refine lv_istore (lv' := [(7, .int 0), (5, .long 0), (0, .ref q_t), (1, .int v1), (2, .int v2), (3, .int v3), (4, .int v4)]) hx hb dX3_multiply_29 hl (by decide) rfl (fun ls hl => ?_)
      obtain ⟨x114, g115, hf⟩ := og_b hf
      refine w_X_multiply_L31 hx hb hown hts hml hA hK k q_t q_t_limbs q_t_signs q_t_rows v1 v2 v3 v4 i0_t i1_t i5_t i6_t i7_t i8_t i9_t i10_t i11_t n_t_limbs n_t_signs a_t_signs n_t_rows a_t_rows k (0 : Int64) (0 : Int32) a_t_limbs _ g115 _ _ (hP.sub [0, 1, 2, 3] rfl) (hD.sub [0, 1, 2, 3] (by decide) rfl) hS _ (lv_sub hl [2, 3, 4, 5, 6, 1, 0] rfl) ?_
      intro H locs hP hD hS ls hl
      refine lv_iinc (v := v4 + 1) (lv' := [(4, .int (v4 + 1)), (0, .ref q_t), (1, .int v1), (2, .int v2), (3, .int v3)]) hx hb dX3_multiply_136 hl (k := 4) rfl rfl (by decide) rfl (fun ls hl => ?_)
      refine lv_goto (tgt := 15) hx hb dX3_multiply_139 (by decide) ?_
      exact ih (v4 + 1) x114.2.2 _ hf _ _ (hP.sub [0, 1, 2, 3] rfl) (hD.sub [0, 1, 2, 3] (by decide) rfl) hS _ (lv_sub hl [1, 2, 3, 4, 0] rfl) he
set_option maxHeartbeats 4000000 in
set_option maxRecDepth 100000 in
theorem c_X_multiply (l : Launch) (dC : Nat → ClassId) (dI : Nat → Nat → Nat) (cA : ClassId) (sz : Nat) (q_t : Nat) (q_t_limbs : Nat) (q_t_signs : Nat) (q_t_rows : Nat) (k : Nat) (t_n : Int32) (t_room : Int32) (t_chosen : Int32) (t_chosenSign : Int32) (t_chosenLimbs : Int32) (t_state : Int32) (t_done : Int32) (t_pivots : Int32) (t_odd : Int32) (n_t_limbs : Nat) (a_t_limbs : Nat → Int32) (n_t_signs : Nat) (a_t_signs : Nat → Int32) (n_t_rows : Nat) (a_t_rows : Nat → Int32) (aa : Int32) (bb : Int32) (o : (Nat → Int32) × (Nat → Int32)) (hf : f_X_multiply k n_t_limbs a_t_limbs n_t_signs a_t_signs aa bb = some o) : Met l yX3_multiply wsX3_multiply rm_X_multiply (c_Pre (dC, dI) vwCl [(cA, .int)] [(q_t, .inr (3, [.int t_n, .int t_room, .ref q_t_limbs, .ref q_t_signs, .ref q_t_rows, .int t_chosen, .int t_chosenSign, .int t_chosenLimbs, .int t_state, .int t_done, .int t_pivots, .int t_odd])), (q_t_limbs, .inl (cA, n_t_limbs, .inl a_t_limbs)), (q_t_signs, .inl (cA, n_t_signs, .inl a_t_signs)), (q_t_rows, .inl (cA, n_t_rows, .inl a_t_rows))] sz [.ref q_t, .int aa, .int bb]) (c_Qv (dC, dI) vwCl [(cA, .int)] [(q_t, .inr (3, [.int t_n, .int t_room, .ref q_t_limbs, .ref q_t_signs, .ref q_t_rows, .int t_chosen, .int t_chosenSign, .int t_chosenLimbs, .int t_state, .int t_done, .int t_pivots, .int t_odd])), (q_t_limbs, .inl (cA, n_t_limbs, .inl o.1)), (q_t_signs, .inl (cA, n_t_signs, .inl o.2)), (q_t_rows, .inl (cA, n_t_rows, .inl a_t_rows))] (va_A [(q_t, .inr (3, [.int t_n, .int t_room, .ref q_t_limbs, .ref q_t_signs, .ref q_t_rows, .int t_chosen, .int t_chosenSign, .int t_chosenLimbs, .int t_state, .int t_done, .int t_pivots, .int t_odd])), (q_t_limbs, .inl (cA, n_t_limbs, .inl a_t_limbs)), (q_t_signs, .inl (cA, n_t_signs, .inl a_t_signs)), (q_t_rows, .inl (cA, n_t_rows, .inl a_t_rows))] sz)) 0 0 (va_A [(q_t, .inr (3, [.int t_n, .int t_room, .ref q_t_limbs, .ref q_t_signs, .ref q_t_rows, .int t_chosen, .int t_chosenSign, .int t_chosenLimbs, .int t_state, .int t_done, .int t_pivots, .int t_odd])), (q_t_limbs, .inl (cA, n_t_limbs, .inl a_t_limbs)), (q_t_signs, .inl (cA, n_t_signs, .inl a_t_signs)), (q_t_rows, .inl (cA, n_t_rows, .inl a_t_rows))] sz) := by
  unfold f_X_multiply at hf
  refine k_ent (Qc := fun A => c_Qv (dC, dI) vwCl [(cA, .int)] [(q_t, .inr (3, [.int t_n, .int t_room, .ref q_t_limbs, .ref q_t_signs, .ref q_t_rows, .int t_chosen, .int t_chosenSign, .int t_chosenLimbs, .int t_state, .int t_done, .int t_pivots, .int t_odd])), (q_t_limbs, .inl (cA, n_t_limbs, .inl o.1)), (q_t_signs, .inl (cA, n_t_signs, .inl o.2)), (q_t_rows, .inl (cA, n_t_rows, .inl a_t_rows))] A) (by decide) rfl (Nat.le_of_ble_eq_true rfl) ?_
  intro p e s m below meth c A hx hb hr hown hts hml hlocks hin hsz hA hK H locs hP hD hS ls hl
  have hown : s.vm.findClass RX3 = some m.cls := hown
  have hl : lv_has ls 10 [(0, .ref q_t), (1, .int aa), (2, .int bb)] := hl
  refine lv_aload_n hx hb dX3_multiply_0 rfl (lv_at hl 0 rfl) ?_
  refine lv_bipush (v := 48) hx hb dX3_multiply_1 (by decide) ?_
  obtain ⟨x1, g2, hf⟩ := og_b hf
  refine kc_v (wr := []) (w1 := [(q_t, .inr (3, [.int t_n, .int t_room, .ref q_t_limbs, .ref q_t_signs, .ref q_t_rows, .int t_chosen, .int t_chosenSign, .int t_chosenLimbs, .int t_state, .int t_done, .int t_pivots, .int t_odd])), (q_t_limbs, .inl (cA, n_t_limbs, .inl x1.1)), (q_t_signs, .inl (cA, n_t_signs, .inl x1.2)), (q_t_rows, .inl (cA, n_t_rows, .inl a_t_rows))]) [0, 1, 2, 3] [] (va_runV (As := [.int 48]) (rest := []) ⟨hx, hb, hml, hown, hts⟩ (c_X_clear l dC dI cA H.size q_t q_t_limbs q_t_signs q_t_rows k t_n t_room t_chosen t_chosenSign t_chosenLimbs t_state t_done t_pivots t_odd n_t_limbs a_t_limbs n_t_signs a_t_signs n_t_rows a_t_rows (48 : Int32) x1 g2) (cwV 1 hts gX3_multiply_X3_clear rfl rfl rfl (by decide +kernel) ⟨Nat.le_of_ble_eq_true rfl, Nat.le_of_ble_eq_true rfl⟩) (kc_preV hP hD hK [0, 1, 2, 3] rfl rfl (by decide) (ci := 3) (q0 := 0) rfl rfl) rfl rfl hl.1 rfl (lv_room (Nat.le_of_ble_eq_true rfl)) dX3_multiply_3 ⟨Nat.le_of_ble_eq_true rfl, Nat.le_of_ble_eq_true rfl⟩) hP hD hS hA rfl rfl (by decide) (by decide) (fun H locs hP hD hS => ?_)
  have hP : va_P (dC, dI) vwCl [(q_t, .inr (3, [.int t_n, .int t_room, .ref q_t_limbs, .ref q_t_signs, .ref q_t_rows, .int t_chosen, .int t_chosenSign, .int t_chosenLimbs, .int t_state, .int t_done, .int t_pivots, .int t_odd])), (q_t_limbs, .inl (cA, n_t_limbs, .inl x1.1)), (q_t_signs, .inl (cA, n_t_signs, .inl x1.2)), (q_t_rows, .inl (cA, n_t_rows, .inl a_t_rows))] H := hP
  have hD : va_D A [(q_t, .inr (3, [.int t_n, .int t_room, .ref q_t_limbs, .ref q_t_signs, .ref q_t_rows, .int t_chosen, .int t_chosenSign, .int t_chosenLimbs, .int t_state, .int t_done, .int t_pivots, .int t_odd])), (q_t_limbs, .inl (cA, n_t_limbs, .inl x1.1)), (q_t_signs, .inl (cA, n_t_signs, .inl x1.2)), (q_t_rows, .inl (cA, n_t_rows, .inl a_t_rows))] := hD
  refine lv_aload_n hx hb dX3_multiply_6 rfl (lv_at hl 0 rfl) ?_
  refine lv_iload_n hx hb dX3_multiply_7 rfl (lv_at hl 2 rfl) ?_
  obtain ⟨x3, g4, hf⟩ := og_b hf
  refine kc_i (wr := []) (w1 := [(q_t, .inr (3, [.int t_n, .int t_room, .ref q_t_limbs, .ref q_t_signs, .ref q_t_rows, .int t_chosen, .int t_chosenSign, .int t_chosenLimbs, .int t_state, .int t_done, .int t_pivots, .int t_odd])), (q_t_limbs, .inl (cA, n_t_limbs, .inl x1.1)), (q_t_signs, .inl (cA, n_t_signs, .inl x1.2)), (q_t_rows, .inl (cA, n_t_rows, .inl a_t_rows))]) [0, 1, 2, 3] [] (va_runV (As := [.int bb]) (rest := []) ⟨hx, hb, hml, hown, hts⟩ (c_X_count l dC dI cA H.size q_t q_t_limbs q_t_signs q_t_rows k t_n t_room t_chosen t_chosenSign t_chosenLimbs t_state t_done t_pivots t_odd n_t_limbs x1.1 n_t_signs x1.2 n_t_rows a_t_rows bb x3 g4) (cwV 1 hts gX3_multiply_X3_count rfl rfl rfl (by decide +kernel) ⟨Nat.le_of_ble_eq_true rfl, Nat.le_of_ble_eq_true rfl⟩) (kc_preV hP hD hK [0, 1, 2, 3] rfl rfl (by decide) (ci := 3) (q0 := 0) rfl rfl) rfl rfl hl.1 rfl (lv_room (Nat.le_of_ble_eq_true rfl)) dX3_multiply_8 ⟨Nat.le_of_ble_eq_true rfl, Nat.le_of_ble_eq_true rfl⟩) hP hD hS hA rfl rfl (by decide) (by decide) (fun H locs hP hD hS => ?_)
  have hP : va_P (dC, dI) vwCl [(q_t, .inr (3, [.int t_n, .int t_room, .ref q_t_limbs, .ref q_t_signs, .ref q_t_rows, .int t_chosen, .int t_chosenSign, .int t_chosenLimbs, .int t_state, .int t_done, .int t_pivots, .int t_odd])), (q_t_limbs, .inl (cA, n_t_limbs, .inl x1.1)), (q_t_signs, .inl (cA, n_t_signs, .inl x1.2)), (q_t_rows, .inl (cA, n_t_rows, .inl a_t_rows))] H := hP
  have hD : va_D A [(q_t, .inr (3, [.int t_n, .int t_room, .ref q_t_limbs, .ref q_t_signs, .ref q_t_rows, .int t_chosen, .int t_chosenSign, .int t_chosenLimbs, .int t_state, .int t_done, .int t_pivots, .int t_odd])), (q_t_limbs, .inl (cA, n_t_limbs, .inl x1.1)), (q_t_signs, .inl (cA, n_t_signs, .inl x1.2)), (q_t_rows, .inl (cA, n_t_rows, .inl a_t_rows))] := hD
  refine lv_istore_n (lv' := [(3, .int x3), (0, .ref q_t), (1, .int aa), (2, .int bb)]) hx hb dX3_multiply_11 rfl hl (by decide) rfl (fun ls hl => ?_)
  refine lv_iconst (v := 0) hx hb dX3_multiply_12 (by decide) ?_
  refine lv_istore (lv' := [(4, .int 0), (3, .int x3), (0, .ref q_t), (1, .int aa), (2, .int bb)]) hx hb dX3_multiply_13 hl (by decide) rfl (fun ls hl => ?_)
  obtain ⟨x116, g117, hf⟩ := og_b hf
  refine w_X_multiply_L15 hx hb hown hts hml hA hK k q_t q_t_limbs q_t_signs q_t_rows aa bb x3 t_n t_room t_chosen t_chosenSign t_chosenLimbs t_state t_done t_pivots t_odd n_t_limbs n_t_signs x1.2 n_t_rows a_t_rows k (0 : Int32) x1.1 _ g117 _ _ (hP.sub [0, 1, 2, 3] rfl) (hD.sub [0, 1, 2, 3] (by decide) rfl) hS _ (lv_sub hl [2, 3, 4, 1, 0] rfl) ?_
  intro H locs hP hD hS ls hl
  refine lv_aload_n hx hb dX3_multiply_142 rfl (lv_at hl 0 rfl) ?_
  refine va_get (D := (dC, dI)) (ci := 3) (v := .ref q_t_signs) (C := RX3) (T := TX3) (N := 12) hx hb hts ki_X_multiply_X3 hown hK hP 0 rfl rfl 3 (by decide) (hts (.fieldLink RX3 13 "MinorStepsModel" "signs" "[I") kw_X_multiply_2) (fun _ h9 => h9) rfl dX3_multiply_143 ?_
  refine lv_bipush (v := 48) hx hb dX3_multiply_146 (by decide) ?_
  refine lv_aload_n hx hb dX3_multiply_148 rfl (lv_at hl 0 rfl) ?_
  refine va_get (D := (dC, dI)) (ci := 3) (v := .ref q_t_signs) (C := RX3) (T := TX3) (N := 12) hx hb hts ki_X_multiply_X3 hown hK hP 0 rfl rfl 3 (by decide) (hts (.fieldLink RX3 13 "MinorStepsModel" "signs" "[I") kw_X_multiply_2) (fun _ h9 => h9) rfl dX3_multiply_149 ?_
  refine lv_iload_n hx hb dX3_multiply_152 rfl (lv_at hl 1 rfl) ?_
  obtain ⟨g118, hf⟩ := og_c hf
  refine va_iald hx hb hK hP 2 0 rfl rfl (og_in g118) dX3_multiply_153 ?_
  refine lv_aload_n hx hb dX3_multiply_154 rfl (lv_at hl 0 rfl) ?_
  refine va_get (D := (dC, dI)) (ci := 3) (v := .ref q_t_signs) (C := RX3) (T := TX3) (N := 12) hx hb hts ki_X_multiply_X3 hown hK hP 0 rfl rfl 3 (by decide) (hts (.fieldLink RX3 13 "MinorStepsModel" "signs" "[I") kw_X_multiply_2) (fun _ h9 => h9) rfl dX3_multiply_155 ?_
  refine lv_iload_n hx hb dX3_multiply_158 rfl (lv_at hl 2 rfl) ?_
  obtain ⟨g119, hf⟩ := og_c hf
  refine va_iald hx hb hK hP 2 0 rfl rfl (og_in g119) dX3_multiply_159 ?_
  refine lv_imul hx hb dX3_multiply_160 ?_
  obtain ⟨g120, hf⟩ := og_c hf
  refine va_iast hx hb hK hP hD hS 2 0 rfl rfl (og_in g120) dX3_multiply_161 (fun H locs hP hD hS => ?_)
  have hP : va_P (dC, dI) vwCl [(q_t, .inr (3, [.int t_n, .int t_room, .ref q_t_limbs, .ref q_t_signs, .ref q_t_rows, .int t_chosen, .int t_chosenSign, .int t_chosenLimbs, .int t_state, .int t_done, .int t_pivots, .int t_odd])), (q_t_limbs, .inl (cA, n_t_limbs, .inl x116.2)), (q_t_signs, .inl (cA, n_t_signs, .inl (upd x1.2 (48 : Int32).toNatClampNeg ((x1.2 aa.toNatClampNeg) * (x1.2 bb.toNatClampNeg))))), (q_t_rows, .inl (cA, n_t_rows, .inl a_t_rows))] H := hP
  have hD : va_D A [(q_t, .inr (3, [.int t_n, .int t_room, .ref q_t_limbs, .ref q_t_signs, .ref q_t_rows, .int t_chosen, .int t_chosenSign, .int t_chosenLimbs, .int t_state, .int t_done, .int t_pivots, .int t_odd])), (q_t_limbs, .inl (cA, n_t_limbs, .inl x116.2)), (q_t_signs, .inl (cA, n_t_signs, .inl (upd x1.2 (48 : Int32).toNatClampNeg ((x1.2 aa.toNatClampNeg) * (x1.2 bb.toNatClampNeg))))), (q_t_rows, .inl (cA, n_t_rows, .inl a_t_rows))] := hD
  have e9 := Option.some.inj hf
  subst e9
  exact kr_v hx hb hr hlocks hK hS (hP.sub [0, 1, 2, 3] rfl) (hD.sub [0, 1, 2, 3] (by decide) rfl) dX3_multiply_162
def rm_X_compare : Room := { frames := 0, cells := 0, slots := 0, locals := 0 }
theorem kw_X_compare_0 : (.fieldLink RX3 7 "MinorStepsModel" "limbs" "[I" : Cond) ∈ wsX3_compare := by decide +kernel
theorem ki_X_compare_X3 : ∀ w ∈ u_ws RX3 TX3 12, w ∈ wsX3_compare := by decide +kernel
set_option maxHeartbeats 4000000 in
set_option maxRecDepth 100000 in
theorem w_X_compare_L3 {p : Program} {l : Launch} {e : Env} {s : State} {m : MethodId} {args : Array Value} {below : List Frame} {meth : Method} {c : Code} {Q : State → Prop} {A : Nat → Prop} {H0 : Heap} {dC : Nat → ClassId} {dI : Nat → Nat → Nat} {cA : ClassId} (hx : p.tables.exec = Jvm.exec) (hb : c.code = cX3_compare) (hown : s.vm.findClass RX3 = some m.cls) (hts : ∀ w ∈ wsX3_compare, w.before args s = true) (hml : c.maxLocals = 6) (hA : ∀ q, H0.size ≤ q → A q) (hK : va_K (dC, dI) vwCl [(cA, .int)] s) (k : Nat) (q_t : Nat) (q_t_limbs : Nat) (q_t_signs : Nat) (q_t_rows : Nat) (v1 : Int32) (v2 : Int32) (i0_t : Int32) (i1_t : Int32) (i5_t : Int32) (i6_t : Int32) (i7_t : Int32) (i8_t : Int32) (i9_t : Int32) (i10_t : Int32) (i11_t : Int32) (n_t_limbs : Nat) (a_t_limbs : Nat → Int32) (n_t_signs : Nat) (a_t_signs : Nat → Int32) (n_t_rows : Nat) (a_t_rows : Nat → Int32) : ∀ (j : Nat) (v3 : Int32) (o : Bool × Int32 × Int32), f_X_compare_L3 k v1 v2 n_t_limbs a_t_limbs j v3 = some o → ∀ (H : Heap) (locs : List Loc), va_P (dC, dI) vwCl [(q_t, .inr (3, [.int i0_t, .int i1_t, .ref q_t_limbs, .ref q_t_signs, .ref q_t_rows, .int i5_t, .int i6_t, .int i7_t, .int i8_t, .int i9_t, .int i10_t, .int i11_t])), (q_t_limbs, .inl (cA, n_t_limbs, .inl a_t_limbs)), (q_t_signs, .inl (cA, n_t_signs, .inl a_t_signs)), (q_t_rows, .inl (cA, n_t_rows, .inl a_t_rows))] H → va_D A [(q_t, .inr (3, [.int i0_t, .int i1_t, .ref q_t_limbs, .ref q_t_signs, .ref q_t_rows, .int i5_t, .int i6_t, .int i7_t, .int i8_t, .int i9_t, .int i10_t, .int i11_t])), (q_t_limbs, .inl (cA, n_t_limbs, .inl a_t_limbs)), (q_t_signs, .inl (cA, n_t_signs, .inl a_t_signs)), (q_t_rows, .inl (cA, n_t_rows, .inl a_t_rows))] → va_S A H0 H locs → ∀ ls : Array Slot, lv_has ls 6 [(0, .ref q_t), (1, .int v1), (2, .int v2), (3, .int v3)] → ∀ (he : ¬ o.1 = true → ∀ (H : Heap) (locs : List Loc), va_P (dC, dI) vwCl [(q_t, .inr (3, [.int i0_t, .int i1_t, .ref q_t_limbs, .ref q_t_signs, .ref q_t_rows, .int i5_t, .int i6_t, .int i7_t, .int i8_t, .int i9_t, .int i10_t, .int i11_t])), (q_t_limbs, .inl (cA, n_t_limbs, .inl a_t_limbs)), (q_t_signs, .inl (cA, n_t_signs, .inl a_t_signs)), (q_t_rows, .inl (cA, n_t_rows, .inl a_t_rows))] H → va_D A [(q_t, .inr (3, [.int i0_t, .int i1_t, .ref q_t_limbs, .ref q_t_signs, .ref q_t_rows, .int i5_t, .int i6_t, .int i7_t, .int i8_t, .int i9_t, .int i10_t, .int i11_t])), (q_t_limbs, .inl (cA, n_t_limbs, .inl a_t_limbs)), (q_t_signs, .inl (cA, n_t_signs, .inl a_t_signs)), (q_t_rows, .inl (cA, n_t_rows, .inl a_t_rows))] → va_S A H0 H locs → ∀ ls : Array Slot, lv_has ls 6 [] → W p l e rm_X_compare s m args below meth c H locs 0 0 Q (F0 m 59 ls [])) (hrt : o.1 = true → ∀ (H : Heap) (locs : List Loc), va_P (dC, dI) vwCl [(q_t, .inr (3, [.int i0_t, .int i1_t, .ref q_t_limbs, .ref q_t_signs, .ref q_t_rows, .int i5_t, .int i6_t, .int i7_t, .int i8_t, .int i9_t, .int i10_t, .int i11_t])), (q_t_limbs, .inl (cA, n_t_limbs, .inl a_t_limbs)), (q_t_signs, .inl (cA, n_t_signs, .inl a_t_signs)), (q_t_rows, .inl (cA, n_t_rows, .inl a_t_rows))] H → va_D A [(q_t, .inr (3, [.int i0_t, .int i1_t, .ref q_t_limbs, .ref q_t_signs, .ref q_t_rows, .int i5_t, .int i6_t, .int i7_t, .int i8_t, .int i9_t, .int i10_t, .int i11_t])), (q_t_limbs, .inl (cA, n_t_limbs, .inl a_t_limbs)), (q_t_signs, .inl (cA, n_t_signs, .inl a_t_signs)), (q_t_rows, .inl (cA, n_t_rows, .inl a_t_rows))] → va_S A H0 H locs → ∀ ls : Array Slot, W p l e rm_X_compare s m args below meth c H locs 0 0 Q (F0 m 52 ls [.int o.2.1])), W p l e rm_X_compare s m args below meth c H locs 0 0 Q (F0 m 3 ls []) := by
  intro j
  induction j with
  | zero =>
    intro v3 o hf
    rw [f_X_compare_L3] at hf
    cases hf
  | succ j ih =>
    intro v3 o hf H locs hP hD hS ls hl he hrt
    rw [f_X_compare_L3] at hf
    refine lv_iload_n hx hb dX3_compare_3 rfl (lv_at hl 3 rfl) ?_
    refine lv_if_lt (tgt := 59) hx hb dX3_compare_4 (by decide) (fun c11 => ?_) (fun c11 => ?_)
    · have hf := og_t c11 hf
      have e9 := Option.some.inj hf
      subst e9
      exact he (fun h9 => Bool.false_ne_true h9) _ _ (hP.sub [0, 1, 2, 3] rfl) (hD.sub [0, 1, 2, 3] (by decide) rfl) hS _ (lv_sub hl [] rfl)
    · have hf := og_f c11 hf
      refine lv_aload_n hx hb dX3_compare_7 rfl (lv_at hl 0 rfl) ?_
      refine va_get (D := (dC, dI)) (ci := 3) (v := .ref q_t_limbs) (C := RX3) (T := TX3) (N := 12) hx hb hts ki_X_compare_X3 hown hK hP 0 rfl rfl 2 (by decide) (hts (.fieldLink RX3 7 "MinorStepsModel" "limbs" "[I") kw_X_compare_0) (fun _ h9 => h9) rfl dX3_compare_8 ?_
      refine lv_bipush (v := 40) hx hb dX3_compare_11 (by decide) ?_
      refine lv_iload_n hx hb dX3_compare_13 rfl (lv_at hl 1 rfl) ?_
      refine lv_imul hx hb dX3_compare_14 ?_
      refine lv_iload_n hx hb dX3_compare_15 rfl (lv_at hl 3 rfl) ?_
      refine lv_iadd hx hb dX3_compare_16 ?_
      obtain ⟨g12, hf⟩ := og_c hf
      refine va_iald hx hb hK hP 1 0 rfl rfl (og_in g12) dX3_compare_17 ?_
      refine lv_istore (lv' := [(4, .int (a_t_limbs ((40 * v1) + v3).toNatClampNeg)), (0, .ref q_t), (1, .int v1), (2, .int v2), (3, .int v3)]) hx hb dX3_compare_18 hl (by decide) rfl (fun ls hl => ?_)
      refine lv_aload_n hx hb dX3_compare_20 rfl (lv_at hl 1 rfl) ?_
      refine va_get (D := (dC, dI)) (ci := 3) (v := .ref q_t_limbs) (C := RX3) (T := TX3) (N := 12) hx hb hts ki_X_compare_X3 hown hK hP 0 rfl rfl 2 (by decide) (hts (.fieldLink RX3 7 "MinorStepsModel" "limbs" "[I") kw_X_compare_0) (fun _ h9 => h9) rfl dX3_compare_21 ?_
      refine lv_bipush (v := 40) hx hb dX3_compare_24 (by decide) ?_
      refine lv_iload_n hx hb dX3_compare_26 rfl (lv_at hl 3 rfl) ?_
      refine lv_imul hx hb dX3_compare_27 ?_
      refine lv_iload_n hx hb dX3_compare_28 rfl (lv_at hl 4 rfl) ?_
      refine lv_iadd hx hb dX3_compare_29 ?_
      obtain ⟨g13, hf⟩ := og_c hf
      refine va_iald hx hb hK hP 1 0 rfl rfl (og_in g13) dX3_compare_30 ?_
      refine lv_istore (lv' := [(5, .int (a_t_limbs ((40 * v2) + v3).toNatClampNeg)), (4, .int (a_t_limbs ((40 * v1) + v3).toNatClampNeg)), (0, .ref q_t), (1, .int v1), (2, .int v2), (3, .int v3)]) hx hb dX3_compare_31 hl (by decide) rfl (fun ls hl => ?_)
      refine lv_iload hx hb dX3_compare_33 (lv_at hl 1 rfl) ?_
      refine lv_iload hx hb dX3_compare_35 (lv_at hl 0 rfl) ?_
      refine lv_icmp_eq (tgt := 53) hx hb dX3_compare_37 (by decide) (fun c14 => ?_) (fun c14 => ?_)
      · have hf := og_t c14 hf
        refine lv_iinc (v := v3 + (-1)) (lv' := [(3, .int (v3 + (-1))), (5, .int (a_t_limbs ((40 * v2) + v3).toNatClampNeg)), (4, .int (a_t_limbs ((40 * v1) + v3).toNatClampNeg)), (0, .ref q_t), (1, .int v1), (2, .int v2)]) hx hb dX3_compare_53 hl (k := 5) rfl rfl (by decide) rfl (fun ls hl => ?_)
        refine lv_goto (tgt := 3) hx hb dX3_compare_56 (by decide) ?_
        exact ih (v3 + (-1)) _ hf _ _ (hP.sub [0, 1, 2, 3] rfl) (hD.sub [0, 1, 2, 3] (by decide) rfl) hS _ (lv_sub hl [3, 4, 5, 0] rfl) he hrt
      · have hf := og_f c14 hf
        refine lv_iload hx hb dX3_compare_40 (lv_at hl 1 rfl) ?_
        refine lv_iload hx hb dX3_compare_42 (lv_at hl 0 rfl) ?_
        refine lv_icmp_ge (tgt := 51) hx hb dX3_compare_44 (by decide) (fun c15 => ?_) (fun c15 => ?_)
        · have hf := og_t c15 hf
          refine lv_iconst (v := 1) hx hb dX3_compare_51 (by decide) ?_
          have e9 := Option.some.inj hf
          subst e9
          exact hrt rfl _ _ (hP.sub [0, 1, 2, 3] rfl) (hD.sub [0, 1, 2, 3] (by decide) rfl) hS _
        · have hf := og_f c15 hf
          refine lv_iconst (v := (-1)) hx hb dX3_compare_47 (by decide) ?_
          refine lv_goto (tgt := 52) hx hb dX3_compare_48 (by decide) ?_
          have e9 := Option.some.inj hf
          subst e9
          exact hrt rfl _ _ (hP.sub [0, 1, 2, 3] rfl) (hD.sub [0, 1, 2, 3] (by decide) rfl) hS _
set_option maxHeartbeats 4000000 in
set_option maxRecDepth 100000 in
theorem c_X_compare (l : Launch) (dC : Nat → ClassId) (dI : Nat → Nat → Nat) (cA : ClassId) (sz : Nat) (q_t : Nat) (q_t_limbs : Nat) (q_t_signs : Nat) (q_t_rows : Nat) (k : Nat) (t_n : Int32) (t_room : Int32) (t_chosen : Int32) (t_chosenSign : Int32) (t_chosenLimbs : Int32) (t_state : Int32) (t_done : Int32) (t_pivots : Int32) (t_odd : Int32) (n_t_limbs : Nat) (a_t_limbs : Nat → Int32) (n_t_signs : Nat) (a_t_signs : Nat → Int32) (n_t_rows : Nat) (a_t_rows : Nat → Int32) (aa : Int32) (bb : Int32) (o : Int32) (hf : f_X_compare k n_t_limbs a_t_limbs aa bb = some o) : Met l yX3_compare wsX3_compare rm_X_compare (c_Pre (dC, dI) vwCl [(cA, .int)] [(q_t, .inr (3, [.int t_n, .int t_room, .ref q_t_limbs, .ref q_t_signs, .ref q_t_rows, .int t_chosen, .int t_chosenSign, .int t_chosenLimbs, .int t_state, .int t_done, .int t_pivots, .int t_odd])), (q_t_limbs, .inl (cA, n_t_limbs, .inl a_t_limbs)), (q_t_signs, .inl (cA, n_t_signs, .inl a_t_signs)), (q_t_rows, .inl (cA, n_t_rows, .inl a_t_rows))] sz [.ref q_t, .int aa, .int bb]) (c_Qi (dC, dI) vwCl [(cA, .int)] [(q_t, .inr (3, [.int t_n, .int t_room, .ref q_t_limbs, .ref q_t_signs, .ref q_t_rows, .int t_chosen, .int t_chosenSign, .int t_chosenLimbs, .int t_state, .int t_done, .int t_pivots, .int t_odd])), (q_t_limbs, .inl (cA, n_t_limbs, .inl a_t_limbs)), (q_t_signs, .inl (cA, n_t_signs, .inl a_t_signs)), (q_t_rows, .inl (cA, n_t_rows, .inl a_t_rows))] (va_A [(q_t, .inr (3, [.int t_n, .int t_room, .ref q_t_limbs, .ref q_t_signs, .ref q_t_rows, .int t_chosen, .int t_chosenSign, .int t_chosenLimbs, .int t_state, .int t_done, .int t_pivots, .int t_odd])), (q_t_limbs, .inl (cA, n_t_limbs, .inl a_t_limbs)), (q_t_signs, .inl (cA, n_t_signs, .inl a_t_signs)), (q_t_rows, .inl (cA, n_t_rows, .inl a_t_rows))] sz) o) 0 0 (va_A [(q_t, .inr (3, [.int t_n, .int t_room, .ref q_t_limbs, .ref q_t_signs, .ref q_t_rows, .int t_chosen, .int t_chosenSign, .int t_chosenLimbs, .int t_state, .int t_done, .int t_pivots, .int t_odd])), (q_t_limbs, .inl (cA, n_t_limbs, .inl a_t_limbs)), (q_t_signs, .inl (cA, n_t_signs, .inl a_t_signs)), (q_t_rows, .inl (cA, n_t_rows, .inl a_t_rows))] sz) := by
  unfold f_X_compare at hf
  refine k_ent (Qc := fun A => c_Qi (dC, dI) vwCl [(cA, .int)] [(q_t, .inr (3, [.int t_n, .int t_room, .ref q_t_limbs, .ref q_t_signs, .ref q_t_rows, .int t_chosen, .int t_chosenSign, .int t_chosenLimbs, .int t_state, .int t_done, .int t_pivots, .int t_odd])), (q_t_limbs, .inl (cA, n_t_limbs, .inl a_t_limbs)), (q_t_signs, .inl (cA, n_t_signs, .inl a_t_signs)), (q_t_rows, .inl (cA, n_t_rows, .inl a_t_rows))] A o) (by decide) rfl (Nat.le_of_ble_eq_true rfl) ?_
  intro p e s m below meth c A hx hb hr hown hts hml hlocks hin hsz hA hK H locs hP hD hS ls hl
  have hown : s.vm.findClass RX3 = some m.cls := hown
  have hl : lv_has ls 6 [(0, .ref q_t), (1, .int aa), (2, .int bb)] := hl
  refine lv_bipush (v := 39) hx hb dX3_compare_0 (by decide) ?_
  refine lv_istore_n (lv' := [(3, .int 39), (0, .ref q_t), (1, .int aa), (2, .int bb)]) hx hb dX3_compare_2 rfl hl (by decide) rfl (fun ls hl => ?_)
  obtain ⟨x16, g17, hf⟩ := og_b hf
  by_cases c18 : x16.1 = true
  · have hf := og_t c18 hf
    refine w_X_compare_L3 hx hb hown hts hml hA hK k q_t q_t_limbs q_t_signs q_t_rows aa bb t_n t_room t_chosen t_chosenSign t_chosenLimbs t_state t_done t_pivots t_odd n_t_limbs a_t_limbs n_t_signs a_t_signs n_t_rows a_t_rows k (39 : Int32) _ g17 _ _ (hP.sub [0, 1, 2, 3] rfl) (hD.sub [0, 1, 2, 3] (by decide) rfl) hS _ (lv_sub hl [1, 2, 3, 0] rfl) (fun e9 => absurd c18 e9) (fun _ H locs hP hD hS ls => ?_)
    have e9 := Option.some.inj hf
    subst e9
    exact kr_i hx hb hr hlocks hK hS (hP.sub [0, 1, 2, 3] rfl) (hD.sub [0, 1, 2, 3] (by decide) rfl) dX3_compare_52
  · have hf := og_f c18 hf
    refine w_X_compare_L3 hx hb hown hts hml hA hK k q_t q_t_limbs q_t_signs q_t_rows aa bb t_n t_room t_chosen t_chosenSign t_chosenLimbs t_state t_done t_pivots t_odd n_t_limbs a_t_limbs n_t_signs a_t_signs n_t_rows a_t_rows k (39 : Int32) _ g17 _ _ (hP.sub [0, 1, 2, 3] rfl) (hD.sub [0, 1, 2, 3] (by decide) rfl) hS _ (lv_sub hl [1, 2, 3, 0] rfl) (fun _ H locs hP hD hS ls hl => ?_) (fun e9 => absurd e9 c18)
    refine lv_iconst (v := 0) hx hb dX3_compare_59 (by decide) ?_
    have e9 := Option.some.inj hf
    subst e9
    exact kr_i hx hb hr hlocks hK hS (hP.sub [0, 1, 2, 3] rfl) (hD.sub [0, 1, 2, 3] (by decide) rfl) dX3_compare_60
def rm_X_join : Room := { frames := 0, cells := 0, slots := 0, locals := 0 }
theorem kw_X_join_0 : (.fieldLink RX3 7 "MinorStepsModel" "limbs" "[I" : Cond) ∈ wsX3_join := by decide +kernel
theorem kw_X_join_1 : (.constantLong RX3 67 2147483647 : Cond) ∈ wsX3_join := by decide +kernel
theorem ki_X_join_X3 : ∀ w ∈ u_ws RX3 TX3 12, w ∈ wsX3_join := by decide +kernel
set_option maxHeartbeats 4000000 in
set_option maxRecDepth 100000 in
theorem w_X_join_L6 {p : Program} {l : Launch} {e : Env} {s : State} {m : MethodId} {args : Array Value} {below : List Frame} {meth : Method} {c : Code} {Q : State → Prop} {A : Nat → Prop} {H0 : Heap} {dC : Nat → ClassId} {dI : Nat → Nat → Nat} {cA : ClassId} (hx : p.tables.exec = Jvm.exec) (hb : c.code = cX3_join) (hown : s.vm.findClass RX3 = some m.cls) (hts : ∀ w ∈ wsX3_join, w.before args s = true) (hml : c.maxLocals = 10) (hA : ∀ q, H0.size ≤ q → A q) (hK : va_K (dC, dI) vwCl [(cA, .int)] s) (k : Nat) (q_t : Nat) (q_t_limbs : Nat) (q_t_signs : Nat) (q_t_rows : Nat) (v1 : Int32) (v2 : Int32) (v3 : Int32) (v4 : Int32) (i0_t : Int32) (i1_t : Int32) (i5_t : Int32) (i6_t : Int32) (i7_t : Int32) (i8_t : Int32) (i9_t : Int32) (i10_t : Int32) (i11_t : Int32) (n_t_limbs : Nat) (n_t_signs : Nat) (a_t_signs : Nat → Int32) (n_t_rows : Nat) (a_t_rows : Nat → Int32) : ∀ (j : Nat) (v5 : Int64) (v7 : Int32) (a_t_limbs : Nat → Int32) (o : Int64 × Int32 × (Nat → Int32)), f_X_join_L6 k v1 v2 v3 v4 n_t_limbs j v5 v7 a_t_limbs = some o → ∀ (H : Heap) (locs : List Loc), va_P (dC, dI) vwCl [(q_t, .inr (3, [.int i0_t, .int i1_t, .ref q_t_limbs, .ref q_t_signs, .ref q_t_rows, .int i5_t, .int i6_t, .int i7_t, .int i8_t, .int i9_t, .int i10_t, .int i11_t])), (q_t_limbs, .inl (cA, n_t_limbs, .inl a_t_limbs)), (q_t_signs, .inl (cA, n_t_signs, .inl a_t_signs)), (q_t_rows, .inl (cA, n_t_rows, .inl a_t_rows))] H → va_D A [(q_t, .inr (3, [.int i0_t, .int i1_t, .ref q_t_limbs, .ref q_t_signs, .ref q_t_rows, .int i5_t, .int i6_t, .int i7_t, .int i8_t, .int i9_t, .int i10_t, .int i11_t])), (q_t_limbs, .inl (cA, n_t_limbs, .inl a_t_limbs)), (q_t_signs, .inl (cA, n_t_signs, .inl a_t_signs)), (q_t_rows, .inl (cA, n_t_rows, .inl a_t_rows))] → va_S A H0 H locs → ∀ ls : Array Slot, lv_has ls 10 [(0, .ref q_t), (1, .int v1), (2, .int v2), (3, .int v3), (4, .int v4), (5, .long v5), (7, .int v7)] → ∀ (he : ∀ (H : Heap) (locs : List Loc), va_P (dC, dI) vwCl [(q_t, .inr (3, [.int i0_t, .int i1_t, .ref q_t_limbs, .ref q_t_signs, .ref q_t_rows, .int i5_t, .int i6_t, .int i7_t, .int i8_t, .int i9_t, .int i10_t, .int i11_t])), (q_t_limbs, .inl (cA, n_t_limbs, .inl o.2.2)), (q_t_signs, .inl (cA, n_t_signs, .inl a_t_signs)), (q_t_rows, .inl (cA, n_t_rows, .inl a_t_rows))] H → va_D A [(q_t, .inr (3, [.int i0_t, .int i1_t, .ref q_t_limbs, .ref q_t_signs, .ref q_t_rows, .int i5_t, .int i6_t, .int i7_t, .int i8_t, .int i9_t, .int i10_t, .int i11_t])), (q_t_limbs, .inl (cA, n_t_limbs, .inl o.2.2)), (q_t_signs, .inl (cA, n_t_signs, .inl a_t_signs)), (q_t_rows, .inl (cA, n_t_rows, .inl a_t_rows))] → va_S A H0 H locs → ∀ ls : Array Slot, lv_has ls 10 [] → W p l e rm_X_join s m args below meth c H locs 0 0 Q (F0 m 99 ls [])), W p l e rm_X_join s m args below meth c H locs 0 0 Q (F0 m 6 ls []) := by
  intro j
  induction j with
  | zero =>
    intro v5 v7 a_t_limbs o hf
    rw [f_X_join_L6] at hf
    cases hf
  | succ j ih =>
    intro v5 v7 a_t_limbs o hf H locs hP hD hS ls hl he
    rw [f_X_join_L6] at hf
    refine lv_iload hx hb dX3_join_6 (lv_at hl 6 rfl) ?_
    refine lv_bipush (v := 40) hx hb dX3_join_8 (by decide) ?_
    refine lv_icmp_ge (tgt := 99) hx hb dX3_join_10 (by decide) (fun c15 => ?_) (fun c15 => ?_)
    · have hf := og_t c15 hf
      have e9 := Option.some.inj hf
      subst e9
      exact he _ _ (hP.sub [0, 1, 2, 3] rfl) (hD.sub [0, 1, 2, 3] (by decide) rfl) hS _ (lv_sub hl [] rfl)
    · have hf := og_f c15 hf
      refine lv_aload_n hx hb dX3_join_13 rfl (lv_at hl 0 rfl) ?_
      refine va_get (D := (dC, dI)) (ci := 3) (v := .ref q_t_limbs) (C := RX3) (T := TX3) (N := 12) hx hb hts ki_X_join_X3 hown hK hP 0 rfl rfl 2 (by decide) (hts (.fieldLink RX3 7 "MinorStepsModel" "limbs" "[I") kw_X_join_0) (fun _ h9 => h9) rfl dX3_join_14 ?_
      refine lv_bipush (v := 40) hx hb dX3_join_17 (by decide) ?_
      refine lv_iload_n hx hb dX3_join_19 rfl (lv_at hl 1 rfl) ?_
      refine lv_imul hx hb dX3_join_20 ?_
      refine lv_iload hx hb dX3_join_21 (lv_at hl 6 rfl) ?_
      refine lv_iadd hx hb dX3_join_23 ?_
      obtain ⟨g16, hf⟩ := og_c hf
      refine va_iald hx hb hK hP 1 0 rfl rfl (og_in g16) dX3_join_24 ?_
      refine lv_i2l (v := (a_t_limbs ((40 * v1) + v7).toNatClampNeg).toInt64) hx hb dX3_join_25 rfl ?_
      refine lv_iload_n hx hb dX3_join_26 rfl (lv_at hl 3 rfl) ?_
      refine lv_if_eq (tgt := 46) hx hb dX3_join_27 (by decide) (fun c17 => ?_) (fun c17 => ?_)
      · have hf := og_t c17 hf
        refine lv_aload_n hx hb dX3_join_46 rfl (lv_at hl 0 rfl) ?_
        refine va_get (D := (dC, dI)) (ci := 3) (v := .ref q_t_limbs) (C := RX3) (T := TX3) (N := 12) hx hb hts ki_X_join_X3 hown hK hP 0 rfl rfl 2 (by decide) (hts (.fieldLink RX3 7 "MinorStepsModel" "limbs" "[I") kw_X_join_0) (fun _ h9 => h9) rfl dX3_join_47 ?_
        refine lv_bipush (v := 40) hx hb dX3_join_50 (by decide) ?_
        refine lv_iload_n hx hb dX3_join_52 rfl (lv_at hl 2 rfl) ?_
        refine lv_imul hx hb dX3_join_53 ?_
        refine lv_iload hx hb dX3_join_54 (lv_at hl 6 rfl) ?_
        refine lv_iadd hx hb dX3_join_56 ?_
        obtain ⟨g18, hf⟩ := og_c hf
        refine va_iald hx hb hK hP 1 0 rfl rfl (og_in g18) dX3_join_57 ?_
        refine lv_i2l (v := (a_t_limbs ((40 * v2) + v7).toNatClampNeg).toInt64) hx hb dX3_join_58 rfl ?_
        refine lv_lneg hx hb dX3_join_59 ?_
        refine lv_ladd hx hb dX3_join_60 ?_
        refine lv_lload hx hb dX3_join_61 (lv_at hl 5 rfl) ?_
        refine lv_ladd hx hb dX3_join_63 ?_
        refine lv_lstore (lv' := [(8, .long ((((a_t_limbs ((40 * v1) + v7).toNatClampNeg).toInt64) + (-((a_t_limbs ((40 * v2) + v7).toNatClampNeg).toInt64))) + v5)), (0, .ref q_t), (1, .int v1), (2, .int v2), (3, .int v3), (4, .int v4), (5, .long v5), (7, .int v7)]) hx hb dX3_join_64 hl (by decide) rfl (fun ls hl => ?_)
        refine lv_aload_n hx hb dX3_join_66 rfl (lv_at hl 1 rfl) ?_
        refine va_get (D := (dC, dI)) (ci := 3) (v := .ref q_t_limbs) (C := RX3) (T := TX3) (N := 12) hx hb hts ki_X_join_X3 hown hK hP 0 rfl rfl 2 (by decide) (hts (.fieldLink RX3 7 "MinorStepsModel" "limbs" "[I") kw_X_join_0) (fun _ h9 => h9) rfl dX3_join_67 ?_
        refine lv_bipush (v := 40) hx hb dX3_join_70 (by decide) ?_
        refine lv_iload hx hb dX3_join_72 (lv_at hl 5 rfl) ?_
        refine lv_imul hx hb dX3_join_74 ?_
        refine lv_iload hx hb dX3_join_75 (lv_at hl 7 rfl) ?_
        refine lv_iadd hx hb dX3_join_77 ?_
        refine lv_lload hx hb dX3_join_78 (lv_at hl 0 rfl) ?_
        refine lv_ldc2 (v := 2147483647) hx hb hown (hts (.constantLong RX3 67 2147483647) kw_X_join_1) dX3_join_80 ?_
        refine lv_land hx hb dX3_join_83 ?_
        refine lv_l2i (v := (((((a_t_limbs ((40 * v1) + v7).toNatClampNeg).toInt64) + (-((a_t_limbs ((40 * v2) + v7).toNatClampNeg).toInt64))) + v5) &&& 2147483647).toInt32) hx hb dX3_join_84 rfl ?_
        obtain ⟨g19, hf⟩ := og_c hf
        refine va_iast hx hb hK hP hD hS 1 0 rfl rfl (og_in g19) dX3_join_85 (fun H locs hP hD hS => ?_)
        have hP : va_P (dC, dI) vwCl [(q_t, .inr (3, [.int i0_t, .int i1_t, .ref q_t_limbs, .ref q_t_signs, .ref q_t_rows, .int i5_t, .int i6_t, .int i7_t, .int i8_t, .int i9_t, .int i10_t, .int i11_t])), (q_t_limbs, .inl (cA, n_t_limbs, .inl (upd a_t_limbs ((40 * v4) + v7).toNatClampNeg ((((((a_t_limbs ((40 * v1) + v7).toNatClampNeg).toInt64) + (-((a_t_limbs ((40 * v2) + v7).toNatClampNeg).toInt64))) + v5) &&& 2147483647).toInt32)))), (q_t_signs, .inl (cA, n_t_signs, .inl a_t_signs)), (q_t_rows, .inl (cA, n_t_rows, .inl a_t_rows))] H := hP
        have hD : va_D A [(q_t, .inr (3, [.int i0_t, .int i1_t, .ref q_t_limbs, .ref q_t_signs, .ref q_t_rows, .int i5_t, .int i6_t, .int i7_t, .int i8_t, .int i9_t, .int i10_t, .int i11_t])), (q_t_limbs, .inl (cA, n_t_limbs, .inl (upd a_t_limbs ((40 * v4) + v7).toNatClampNeg ((((((a_t_limbs ((40 * v1) + v7).toNatClampNeg).toInt64) + (-((a_t_limbs ((40 * v2) + v7).toNatClampNeg).toInt64))) + v5) &&& 2147483647).toInt32)))), (q_t_signs, .inl (cA, n_t_signs, .inl a_t_signs)), (q_t_rows, .inl (cA, n_t_rows, .inl a_t_rows))] := hD
        refine lv_lload hx hb dX3_join_86 (lv_at hl 0 rfl) ?_
        refine lv_bipush (v := 31) hx hb dX3_join_88 (by decide) ?_
        refine lv_lshr (v := ((((a_t_limbs ((40 * v1) + v7).toNatClampNeg).toInt64) + (-((a_t_limbs ((40 * v2) + v7).toNatClampNeg).toInt64))) + v5) >>> ((31 : Int32).toInt64 &&& 63)) hx hb dX3_join_90 rfl ?_
        refine lv_lstore (lv' := [(5, .long (((((a_t_limbs ((40 * v1) + v7).toNatClampNeg).toInt64) + (-((a_t_limbs ((40 * v2) + v7).toNatClampNeg).toInt64))) + v5) >>> ((31 : Int32).toInt64 &&& 63))), (8, .long ((((a_t_limbs ((40 * v1) + v7).toNatClampNeg).toInt64) + (-((a_t_limbs ((40 * v2) + v7).toNatClampNeg).toInt64))) + v5)), (0, .ref q_t), (1, .int v1), (2, .int v2), (3, .int v3), (4, .int v4), (7, .int v7)]) hx hb dX3_join_91 hl (by decide) rfl (fun ls hl => ?_)
        refine lv_iinc (v := v7 + 1) (lv' := [(7, .int (v7 + 1)), (5, .long (((((a_t_limbs ((40 * v1) + v7).toNatClampNeg).toInt64) + (-((a_t_limbs ((40 * v2) + v7).toNatClampNeg).toInt64))) + v5) >>> ((31 : Int32).toInt64 &&& 63))), (8, .long ((((a_t_limbs ((40 * v1) + v7).toNatClampNeg).toInt64) + (-((a_t_limbs ((40 * v2) + v7).toNatClampNeg).toInt64))) + v5)), (0, .ref q_t), (1, .int v1), (2, .int v2), (3, .int v3), (4, .int v4)]) hx hb dX3_join_93 hl (k := 7) rfl rfl (by decide) rfl (fun ls hl => ?_)
        refine lv_goto (tgt := 6) hx hb dX3_join_96 (by decide) ?_
        exact ih (((((a_t_limbs ((40 * v1) + v7).toNatClampNeg).toInt64) + (-((a_t_limbs ((40 * v2) + v7).toNatClampNeg).toInt64))) + v5) >>> ((31 : Int32).toInt64 &&& 63)) (v7 + 1) (upd a_t_limbs ((40 * v4) + v7).toNatClampNeg ((((((a_t_limbs ((40 * v1) + v7).toNatClampNeg).toInt64) + (-((a_t_limbs ((40 * v2) + v7).toNatClampNeg).toInt64))) + v5) &&& 2147483647).toInt32)) _ hf _ _ (hP.sub [0, 1, 2, 3] rfl) (hD.sub [0, 1, 2, 3] (by decide) rfl) hS _ (lv_sub hl [3, 4, 5, 6, 7, 1, 0] rfl) he
      · have hf := og_f c17 hf
        refine lv_aload_n hx hb dX3_join_30 rfl (lv_at hl 0 rfl) ?_
        refine va_get (D := (dC, dI)) (ci := 3) (v := .ref q_t_limbs) (C := RX3) (T := TX3) (N := 12) hx hb hts ki_X_join_X3 hown hK hP 0 rfl rfl 2 (by decide) (hts (.fieldLink RX3 7 "MinorStepsModel" "limbs" "[I") kw_X_join_0) (fun _ h9 => h9) rfl dX3_join_31 ?_
        refine lv_bipush (v := 40) hx hb dX3_join_34 (by decide) ?_
        refine lv_iload_n hx hb dX3_join_36 rfl (lv_at hl 2 rfl) ?_
        refine lv_imul hx hb dX3_join_37 ?_
        refine lv_iload hx hb dX3_join_38 (lv_at hl 6 rfl) ?_
        refine lv_iadd hx hb dX3_join_40 ?_
        obtain ⟨g20, hf⟩ := og_c hf
        refine va_iald hx hb hK hP 1 0 rfl rfl (og_in g20) dX3_join_41 ?_
        refine lv_i2l (v := (a_t_limbs ((40 * v2) + v7).toNatClampNeg).toInt64) hx hb dX3_join_42 rfl ?_
        refine lv_goto (tgt := 60) hx hb dX3_join_43 (by decide) ?_
        refine lv_ladd hx hb dX3_join_60 ?_
        refine lv_lload hx hb dX3_join_61 (lv_at hl 5 rfl) ?_
        refine lv_ladd hx hb dX3_join_63 ?_
        refine lv_lstore (lv' := [(8, .long ((((a_t_limbs ((40 * v1) + v7).toNatClampNeg).toInt64) + ((a_t_limbs ((40 * v2) + v7).toNatClampNeg).toInt64)) + v5)), (0, .ref q_t), (1, .int v1), (2, .int v2), (3, .int v3), (4, .int v4), (5, .long v5), (7, .int v7)]) hx hb dX3_join_64 hl (by decide) rfl (fun ls hl => ?_)
        refine lv_aload_n hx hb dX3_join_66 rfl (lv_at hl 1 rfl) ?_
        refine va_get (D := (dC, dI)) (ci := 3) (v := .ref q_t_limbs) (C := RX3) (T := TX3) (N := 12) hx hb hts ki_X_join_X3 hown hK hP 0 rfl rfl 2 (by decide) (hts (.fieldLink RX3 7 "MinorStepsModel" "limbs" "[I") kw_X_join_0) (fun _ h9 => h9) rfl dX3_join_67 ?_
        refine lv_bipush (v := 40) hx hb dX3_join_70 (by decide) ?_
        refine lv_iload hx hb dX3_join_72 (lv_at hl 5 rfl) ?_
        refine lv_imul hx hb dX3_join_74 ?_
        refine lv_iload hx hb dX3_join_75 (lv_at hl 7 rfl) ?_
        refine lv_iadd hx hb dX3_join_77 ?_
        refine lv_lload hx hb dX3_join_78 (lv_at hl 0 rfl) ?_
        refine lv_ldc2 (v := 2147483647) hx hb hown (hts (.constantLong RX3 67 2147483647) kw_X_join_1) dX3_join_80 ?_
        refine lv_land hx hb dX3_join_83 ?_
        refine lv_l2i (v := (((((a_t_limbs ((40 * v1) + v7).toNatClampNeg).toInt64) + ((a_t_limbs ((40 * v2) + v7).toNatClampNeg).toInt64)) + v5) &&& 2147483647).toInt32) hx hb dX3_join_84 rfl ?_
        obtain ⟨g21, hf⟩ := og_c hf
        refine va_iast hx hb hK hP hD hS 1 0 rfl rfl (og_in g21) dX3_join_85 (fun H locs hP hD hS => ?_)
        have hP : va_P (dC, dI) vwCl [(q_t, .inr (3, [.int i0_t, .int i1_t, .ref q_t_limbs, .ref q_t_signs, .ref q_t_rows, .int i5_t, .int i6_t, .int i7_t, .int i8_t, .int i9_t, .int i10_t, .int i11_t])), (q_t_limbs, .inl (cA, n_t_limbs, .inl (upd a_t_limbs ((40 * v4) + v7).toNatClampNeg ((((((a_t_limbs ((40 * v1) + v7).toNatClampNeg).toInt64) + ((a_t_limbs ((40 * v2) + v7).toNatClampNeg).toInt64)) + v5) &&& 2147483647).toInt32)))), (q_t_signs, .inl (cA, n_t_signs, .inl a_t_signs)), (q_t_rows, .inl (cA, n_t_rows, .inl a_t_rows))] H := hP
        have hD : va_D A [(q_t, .inr (3, [.int i0_t, .int i1_t, .ref q_t_limbs, .ref q_t_signs, .ref q_t_rows, .int i5_t, .int i6_t, .int i7_t, .int i8_t, .int i9_t, .int i10_t, .int i11_t])), (q_t_limbs, .inl (cA, n_t_limbs, .inl (upd a_t_limbs ((40 * v4) + v7).toNatClampNeg ((((((a_t_limbs ((40 * v1) + v7).toNatClampNeg).toInt64) + ((a_t_limbs ((40 * v2) + v7).toNatClampNeg).toInt64)) + v5) &&& 2147483647).toInt32)))), (q_t_signs, .inl (cA, n_t_signs, .inl a_t_signs)), (q_t_rows, .inl (cA, n_t_rows, .inl a_t_rows))] := hD
        refine lv_lload hx hb dX3_join_86 (lv_at hl 0 rfl) ?_
        refine lv_bipush (v := 31) hx hb dX3_join_88 (by decide) ?_
        refine lv_lshr (v := ((((a_t_limbs ((40 * v1) + v7).toNatClampNeg).toInt64) + ((a_t_limbs ((40 * v2) + v7).toNatClampNeg).toInt64)) + v5) >>> ((31 : Int32).toInt64 &&& 63)) hx hb dX3_join_90 rfl ?_
        refine lv_lstore (lv' := [(5, .long (((((a_t_limbs ((40 * v1) + v7).toNatClampNeg).toInt64) + ((a_t_limbs ((40 * v2) + v7).toNatClampNeg).toInt64)) + v5) >>> ((31 : Int32).toInt64 &&& 63))), (8, .long ((((a_t_limbs ((40 * v1) + v7).toNatClampNeg).toInt64) + ((a_t_limbs ((40 * v2) + v7).toNatClampNeg).toInt64)) + v5)), (0, .ref q_t), (1, .int v1), (2, .int v2), (3, .int v3), (4, .int v4), (7, .int v7)]) hx hb dX3_join_91 hl (by decide) rfl (fun ls hl => ?_)
        refine lv_iinc (v := v7 + 1) (lv' := [(7, .int (v7 + 1)), (5, .long (((((a_t_limbs ((40 * v1) + v7).toNatClampNeg).toInt64) + ((a_t_limbs ((40 * v2) + v7).toNatClampNeg).toInt64)) + v5) >>> ((31 : Int32).toInt64 &&& 63))), (8, .long ((((a_t_limbs ((40 * v1) + v7).toNatClampNeg).toInt64) + ((a_t_limbs ((40 * v2) + v7).toNatClampNeg).toInt64)) + v5)), (0, .ref q_t), (1, .int v1), (2, .int v2), (3, .int v3), (4, .int v4)]) hx hb dX3_join_93 hl (k := 7) rfl rfl (by decide) rfl (fun ls hl => ?_)
        refine lv_goto (tgt := 6) hx hb dX3_join_96 (by decide) ?_
        exact ih (((((a_t_limbs ((40 * v1) + v7).toNatClampNeg).toInt64) + ((a_t_limbs ((40 * v2) + v7).toNatClampNeg).toInt64)) + v5) >>> ((31 : Int32).toInt64 &&& 63)) (v7 + 1) (upd a_t_limbs ((40 * v4) + v7).toNatClampNeg ((((((a_t_limbs ((40 * v1) + v7).toNatClampNeg).toInt64) + ((a_t_limbs ((40 * v2) + v7).toNatClampNeg).toInt64)) + v5) &&& 2147483647).toInt32)) _ hf _ _ (hP.sub [0, 1, 2, 3] rfl) (hD.sub [0, 1, 2, 3] (by decide) rfl) hS _ (lv_sub hl [3, 4, 5, 6, 7, 1, 0] rfl) he
set_option maxHeartbeats 4000000 in
set_option maxRecDepth 100000 in
theorem c_X_join (l : Launch) (dC : Nat → ClassId) (dI : Nat → Nat → Nat) (cA : ClassId) (sz : Nat) (q_t : Nat) (q_t_limbs : Nat) (q_t_signs : Nat) (q_t_rows : Nat) (k : Nat) (t_n : Int32) (t_room : Int32) (t_chosen : Int32) (t_chosenSign : Int32) (t_chosenLimbs : Int32) (t_state : Int32) (t_done : Int32) (t_pivots : Int32) (t_odd : Int32) (n_t_limbs : Nat) (a_t_limbs : Nat → Int32) (n_t_signs : Nat) (a_t_signs : Nat → Int32) (n_t_rows : Nat) (a_t_rows : Nat → Int32) (aa : Int32) (bb : Int32) (add : Int32) (tt : Int32) (o : (Nat → Int32)) (hf : f_X_join k n_t_limbs a_t_limbs aa bb add tt = some o) : Met l yX3_join wsX3_join rm_X_join (c_Pre (dC, dI) vwCl [(cA, .int)] [(q_t, .inr (3, [.int t_n, .int t_room, .ref q_t_limbs, .ref q_t_signs, .ref q_t_rows, .int t_chosen, .int t_chosenSign, .int t_chosenLimbs, .int t_state, .int t_done, .int t_pivots, .int t_odd])), (q_t_limbs, .inl (cA, n_t_limbs, .inl a_t_limbs)), (q_t_signs, .inl (cA, n_t_signs, .inl a_t_signs)), (q_t_rows, .inl (cA, n_t_rows, .inl a_t_rows))] sz [.ref q_t, .int aa, .int bb, .int add, .int tt]) (c_Qv (dC, dI) vwCl [(cA, .int)] [(q_t, .inr (3, [.int t_n, .int t_room, .ref q_t_limbs, .ref q_t_signs, .ref q_t_rows, .int t_chosen, .int t_chosenSign, .int t_chosenLimbs, .int t_state, .int t_done, .int t_pivots, .int t_odd])), (q_t_limbs, .inl (cA, n_t_limbs, .inl o)), (q_t_signs, .inl (cA, n_t_signs, .inl a_t_signs)), (q_t_rows, .inl (cA, n_t_rows, .inl a_t_rows))] (va_A [(q_t, .inr (3, [.int t_n, .int t_room, .ref q_t_limbs, .ref q_t_signs, .ref q_t_rows, .int t_chosen, .int t_chosenSign, .int t_chosenLimbs, .int t_state, .int t_done, .int t_pivots, .int t_odd])), (q_t_limbs, .inl (cA, n_t_limbs, .inl a_t_limbs)), (q_t_signs, .inl (cA, n_t_signs, .inl a_t_signs)), (q_t_rows, .inl (cA, n_t_rows, .inl a_t_rows))] sz)) 0 0 (va_A [(q_t, .inr (3, [.int t_n, .int t_room, .ref q_t_limbs, .ref q_t_signs, .ref q_t_rows, .int t_chosen, .int t_chosenSign, .int t_chosenLimbs, .int t_state, .int t_done, .int t_pivots, .int t_odd])), (q_t_limbs, .inl (cA, n_t_limbs, .inl a_t_limbs)), (q_t_signs, .inl (cA, n_t_signs, .inl a_t_signs)), (q_t_rows, .inl (cA, n_t_rows, .inl a_t_rows))] sz) := by
  unfold f_X_join at hf
  refine k_ent (Qc := fun A => c_Qv (dC, dI) vwCl [(cA, .int)] [(q_t, .inr (3, [.int t_n, .int t_room, .ref q_t_limbs, .ref q_t_signs, .ref q_t_rows, .int t_chosen, .int t_chosenSign, .int t_chosenLimbs, .int t_state, .int t_done, .int t_pivots, .int t_odd])), (q_t_limbs, .inl (cA, n_t_limbs, .inl o)), (q_t_signs, .inl (cA, n_t_signs, .inl a_t_signs)), (q_t_rows, .inl (cA, n_t_rows, .inl a_t_rows))] A) (by decide) rfl (Nat.le_of_ble_eq_true rfl) ?_
  intro p e s m below meth c A hx hb hr hown hts hml hlocks hin hsz hA hK H locs hP hD hS ls hl
  have hown : s.vm.findClass RX3 = some m.cls := hown
  have hl : lv_has ls 10 [(0, .ref q_t), (1, .int aa), (2, .int bb), (3, .int add), (4, .int tt)] := hl
  refine lv_lconst (v := 0) hx hb dX3_join_0 (by decide) ?_
  refine lv_lstore (lv' := [(5, .long 0), (0, .ref q_t), (1, .int aa), (2, .int bb), (3, .int add), (4, .int tt)]) hx hb dX3_join_1 hl (by decide) rfl (fun ls hl => ?_)
  refine lv_iconst (v := 0) hx hb dX3_join_3 (by decide) ?_
  refine lv_istore (lv' := [(7, .int 0), (5, .long 0), (0, .ref q_t), (1, .int aa), (2, .int bb), (3, .int add), (4, .int tt)]) hx hb dX3_join_4 hl (by decide) rfl (fun ls hl => ?_)
  obtain ⟨x22, g23, hf⟩ := og_b hf
  refine w_X_join_L6 hx hb hown hts hml hA hK k q_t q_t_limbs q_t_signs q_t_rows aa bb add tt t_n t_room t_chosen t_chosenSign t_chosenLimbs t_state t_done t_pivots t_odd n_t_limbs n_t_signs a_t_signs n_t_rows a_t_rows k (0 : Int64) (0 : Int32) a_t_limbs _ g23 _ _ (hP.sub [0, 1, 2, 3] rfl) (hD.sub [0, 1, 2, 3] (by decide) rfl) hS _ (lv_sub hl [2, 3, 4, 5, 6, 1, 0] rfl) ?_
  intro H locs hP hD hS ls hl
  have e9 := Option.some.inj hf
  subst e9
  exact kr_v hx hb hr hlocks hK hS (hP.sub [0, 1, 2, 3] rfl) (hD.sub [0, 1, 2, 3] (by decide) rfl) dX3_join_99
def rm_X_less : Room := { frames := 1, cells := 0, slots := 0, locals := 29 }
theorem kw_X_less_0 : (.fieldLink RX3 13 "MinorStepsModel" "signs" "[I" : Cond) ∈ wsX3_less := by decide +kernel
theorem ki_X_less_X3 : ∀ w ∈ u_ws RX3 TX3 12, w ∈ wsX3_less := by decide +kernel
set_option maxHeartbeats 4000000 in
set_option maxRecDepth 100000 in
theorem c_X_less (l : Launch) (dC : Nat → ClassId) (dI : Nat → Nat → Nat) (cA : ClassId) (sz : Nat) (q_t : Nat) (q_t_limbs : Nat) (q_t_signs : Nat) (q_t_rows : Nat) (k : Nat) (t_n : Int32) (t_room : Int32) (t_chosen : Int32) (t_chosenSign : Int32) (t_chosenLimbs : Int32) (t_state : Int32) (t_done : Int32) (t_pivots : Int32) (t_odd : Int32) (n_t_limbs : Nat) (a_t_limbs : Nat → Int32) (n_t_signs : Nat) (a_t_signs : Nat → Int32) (n_t_rows : Nat) (a_t_rows : Nat → Int32) (o : (Nat → Int32) × (Nat → Int32)) (hf : f_X_less k n_t_limbs a_t_limbs n_t_signs a_t_signs = some o) : Met l yX3_less wsX3_less rm_X_less (c_Pre (dC, dI) vwCl [(cA, .int)] [(q_t, .inr (3, [.int t_n, .int t_room, .ref q_t_limbs, .ref q_t_signs, .ref q_t_rows, .int t_chosen, .int t_chosenSign, .int t_chosenLimbs, .int t_state, .int t_done, .int t_pivots, .int t_odd])), (q_t_limbs, .inl (cA, n_t_limbs, .inl a_t_limbs)), (q_t_signs, .inl (cA, n_t_signs, .inl a_t_signs)), (q_t_rows, .inl (cA, n_t_rows, .inl a_t_rows))] sz [.ref q_t]) (c_Qv (dC, dI) vwCl [(cA, .int)] [(q_t, .inr (3, [.int t_n, .int t_room, .ref q_t_limbs, .ref q_t_signs, .ref q_t_rows, .int t_chosen, .int t_chosenSign, .int t_chosenLimbs, .int t_state, .int t_done, .int t_pivots, .int t_odd])), (q_t_limbs, .inl (cA, n_t_limbs, .inl o.1)), (q_t_signs, .inl (cA, n_t_signs, .inl o.2)), (q_t_rows, .inl (cA, n_t_rows, .inl a_t_rows))] (va_A [(q_t, .inr (3, [.int t_n, .int t_room, .ref q_t_limbs, .ref q_t_signs, .ref q_t_rows, .int t_chosen, .int t_chosenSign, .int t_chosenLimbs, .int t_state, .int t_done, .int t_pivots, .int t_odd])), (q_t_limbs, .inl (cA, n_t_limbs, .inl a_t_limbs)), (q_t_signs, .inl (cA, n_t_signs, .inl a_t_signs)), (q_t_rows, .inl (cA, n_t_rows, .inl a_t_rows))] sz)) 0 0 (va_A [(q_t, .inr (3, [.int t_n, .int t_room, .ref q_t_limbs, .ref q_t_signs, .ref q_t_rows, .int t_chosen, .int t_chosenSign, .int t_chosenLimbs, .int t_state, .int t_done, .int t_pivots, .int t_odd])), (q_t_limbs, .inl (cA, n_t_limbs, .inl a_t_limbs)), (q_t_signs, .inl (cA, n_t_signs, .inl a_t_signs)), (q_t_rows, .inl (cA, n_t_rows, .inl a_t_rows))] sz) := by
  unfold f_X_less at hf
  refine k_ent (Qc := fun A => c_Qv (dC, dI) vwCl [(cA, .int)] [(q_t, .inr (3, [.int t_n, .int t_room, .ref q_t_limbs, .ref q_t_signs, .ref q_t_rows, .int t_chosen, .int t_chosenSign, .int t_chosenLimbs, .int t_state, .int t_done, .int t_pivots, .int t_odd])), (q_t_limbs, .inl (cA, n_t_limbs, .inl o.1)), (q_t_signs, .inl (cA, n_t_signs, .inl o.2)), (q_t_rows, .inl (cA, n_t_rows, .inl a_t_rows))] A) (by decide) rfl (Nat.le_of_ble_eq_true rfl) ?_
  intro p e s m below meth c A hx hb hr hown hts hml hlocks hin hsz hA hK H locs hP hD hS ls hl
  have hown : s.vm.findClass RX3 = some m.cls := hown
  have hl : lv_has ls 4 [(0, .ref q_t)] := hl
  refine lv_aload_n hx hb dX3_less_0 rfl (lv_at hl 0 rfl) ?_
  refine va_get (D := (dC, dI)) (ci := 3) (v := .ref q_t_signs) (C := RX3) (T := TX3) (N := 12) hx hb hts ki_X_less_X3 hown hK hP 0 rfl rfl 3 (by decide) (hts (.fieldLink RX3 13 "MinorStepsModel" "signs" "[I") kw_X_less_0) (fun _ h9 => h9) rfl dX3_less_1 ?_
  refine lv_bipush (v := 48) hx hb dX3_less_4 (by decide) ?_
  obtain ⟨g1, hf⟩ := og_c hf
  refine va_iald hx hb hK hP 2 0 rfl rfl (og_in g1) dX3_less_6 ?_
  refine lv_if_ne (tgt := 11) hx hb dX3_less_7 (by decide) (fun c2 => ?_) (fun c2 => ?_)
  · have hf := og_f c2 hf
    refine lv_aload_n hx hb dX3_less_11 rfl (lv_at hl 0 rfl) ?_
    refine va_get (D := (dC, dI)) (ci := 3) (v := .ref q_t_signs) (C := RX3) (T := TX3) (N := 12) hx hb hts ki_X_less_X3 hown hK hP 0 rfl rfl 3 (by decide) (hts (.fieldLink RX3 13 "MinorStepsModel" "signs" "[I") kw_X_less_0) (fun _ h9 => h9) rfl dX3_less_12 ?_
    refine lv_bipush (v := 48) hx hb dX3_less_15 (by decide) ?_
    obtain ⟨g3, hf⟩ := og_c hf
    refine va_iald hx hb hK hP 2 0 rfl rfl (og_in g3) dX3_less_17 ?_
    refine lv_ineg hx hb dX3_less_18 ?_
    refine lv_istore_n (lv' := [(1, .int (-(a_t_signs (48 : Int32).toNatClampNeg))), (0, .ref q_t)]) hx hb dX3_less_19 rfl hl (by decide) rfl (fun ls hl => ?_)
    refine lv_aload_n hx hb dX3_less_20 rfl (lv_at hl 1 rfl) ?_
    refine va_get (D := (dC, dI)) (ci := 3) (v := .ref q_t_signs) (C := RX3) (T := TX3) (N := 12) hx hb hts ki_X_less_X3 hown hK hP 0 rfl rfl 3 (by decide) (hts (.fieldLink RX3 13 "MinorStepsModel" "signs" "[I") kw_X_less_0) (fun _ h9 => h9) rfl dX3_less_21 ?_
    refine lv_bipush (v := 49) hx hb dX3_less_24 (by decide) ?_
    obtain ⟨g4, hf⟩ := og_c hf
    refine va_iald hx hb hK hP 2 0 rfl rfl (og_in g4) dX3_less_26 ?_
    refine lv_if_eq (tgt := 41) hx hb dX3_less_27 (by decide) (fun c5 => ?_) (fun c5 => ?_)
    · have hf := og_t c5 hf
      refine lv_aload_n hx hb dX3_less_41 rfl (lv_at hl 1 rfl) ?_
      refine lv_bipush (v := 49) hx hb dX3_less_42 (by decide) ?_
      refine lv_bipush (v := 48) hx hb dX3_less_44 (by decide) ?_
      refine lv_iconst (v := 1) hx hb dX3_less_46 (by decide) ?_
      refine lv_bipush (v := 49) hx hb dX3_less_47 (by decide) ?_
      obtain ⟨x6, g7, hf⟩ := og_b hf
      refine kc_v (wr := []) (w1 := [(q_t, .inr (3, [.int t_n, .int t_room, .ref q_t_limbs, .ref q_t_signs, .ref q_t_rows, .int t_chosen, .int t_chosenSign, .int t_chosenLimbs, .int t_state, .int t_done, .int t_pivots, .int t_odd])), (q_t_limbs, .inl (cA, n_t_limbs, .inl x6)), (q_t_signs, .inl (cA, n_t_signs, .inl a_t_signs)), (q_t_rows, .inl (cA, n_t_rows, .inl a_t_rows))]) [0, 1, 2, 3] [] (va_runV (As := [.int 49, .int 48, .int 1, .int 49]) (rest := []) ⟨hx, hb, hml, hown, hts⟩ (c_X_join l dC dI cA H.size q_t q_t_limbs q_t_signs q_t_rows k t_n t_room t_chosen t_chosenSign t_chosenLimbs t_state t_done t_pivots t_odd n_t_limbs a_t_limbs n_t_signs a_t_signs n_t_rows a_t_rows (49 : Int32) (48 : Int32) (1 : Int32) (49 : Int32) x6 g7) (cwV 4 hts gX3_less_X3_join rfl rfl rfl (by decide +kernel) ⟨Nat.le_of_ble_eq_true rfl, Nat.le_of_ble_eq_true rfl⟩) (kc_preV hP hD hK [0, 1, 2, 3] rfl rfl (by decide) (ci := 3) (q0 := 0) rfl rfl) rfl rfl hl.1 rfl (lv_room (Nat.le_of_ble_eq_true rfl)) dX3_less_49 ⟨Nat.le_of_ble_eq_true rfl, Nat.le_of_ble_eq_true rfl⟩) hP hD hS hA rfl rfl (by decide) (by decide) (fun H locs hP hD hS => ?_)
      have hP : va_P (dC, dI) vwCl [(q_t, .inr (3, [.int t_n, .int t_room, .ref q_t_limbs, .ref q_t_signs, .ref q_t_rows, .int t_chosen, .int t_chosenSign, .int t_chosenLimbs, .int t_state, .int t_done, .int t_pivots, .int t_odd])), (q_t_limbs, .inl (cA, n_t_limbs, .inl x6)), (q_t_signs, .inl (cA, n_t_signs, .inl a_t_signs)), (q_t_rows, .inl (cA, n_t_rows, .inl a_t_rows))] H := hP
      have hD : va_D A [(q_t, .inr (3, [.int t_n, .int t_room, .ref q_t_limbs, .ref q_t_signs, .ref q_t_rows, .int t_chosen, .int t_chosenSign, .int t_chosenLimbs, .int t_state, .int t_done, .int t_pivots, .int t_odd])), (q_t_limbs, .inl (cA, n_t_limbs, .inl x6)), (q_t_signs, .inl (cA, n_t_signs, .inl a_t_signs)), (q_t_rows, .inl (cA, n_t_rows, .inl a_t_rows))] := hD
      refine lv_aload_n hx hb dX3_less_52 rfl (lv_at hl 1 rfl) ?_
      refine va_get (D := (dC, dI)) (ci := 3) (v := .ref q_t_signs) (C := RX3) (T := TX3) (N := 12) hx hb hts ki_X_less_X3 hown hK hP 0 rfl rfl 3 (by decide) (hts (.fieldLink RX3 13 "MinorStepsModel" "signs" "[I") kw_X_less_0) (fun _ h9 => h9) rfl dX3_less_53 ?_
      refine lv_bipush (v := 49) hx hb dX3_less_56 (by decide) ?_
      refine lv_iload_n hx hb dX3_less_58 rfl (lv_at hl 0 rfl) ?_
      obtain ⟨g8, hf⟩ := og_c hf
      refine va_iast hx hb hK hP hD hS 2 0 rfl rfl (og_in g8) dX3_less_59 (fun H locs hP hD hS => ?_)
      have hP : va_P (dC, dI) vwCl [(q_t, .inr (3, [.int t_n, .int t_room, .ref q_t_limbs, .ref q_t_signs, .ref q_t_rows, .int t_chosen, .int t_chosenSign, .int t_chosenLimbs, .int t_state, .int t_done, .int t_pivots, .int t_odd])), (q_t_limbs, .inl (cA, n_t_limbs, .inl x6)), (q_t_signs, .inl (cA, n_t_signs, .inl (upd a_t_signs (49 : Int32).toNatClampNeg (-(a_t_signs (48 : Int32).toNatClampNeg))))), (q_t_rows, .inl (cA, n_t_rows, .inl a_t_rows))] H := hP
      have hD : va_D A [(q_t, .inr (3, [.int t_n, .int t_room, .ref q_t_limbs, .ref q_t_signs, .ref q_t_rows, .int t_chosen, .int t_chosenSign, .int t_chosenLimbs, .int t_state, .int t_done, .int t_pivots, .int t_odd])), (q_t_limbs, .inl (cA, n_t_limbs, .inl x6)), (q_t_signs, .inl (cA, n_t_signs, .inl (upd a_t_signs (49 : Int32).toNatClampNeg (-(a_t_signs (48 : Int32).toNatClampNeg))))), (q_t_rows, .inl (cA, n_t_rows, .inl a_t_rows))] := hD
      have e9 := Option.some.inj hf
      subst e9
      exact kr_v hx hb hr hlocks hK hS (hP.sub [0, 1, 2, 3] rfl) (hD.sub [0, 1, 2, 3] (by decide) rfl) dX3_less_60
    · have hf := og_f c5 hf
      refine lv_aload_n hx hb dX3_less_30 rfl (lv_at hl 1 rfl) ?_
      refine va_get (D := (dC, dI)) (ci := 3) (v := .ref q_t_signs) (C := RX3) (T := TX3) (N := 12) hx hb hts ki_X_less_X3 hown hK hP 0 rfl rfl 3 (by decide) (hts (.fieldLink RX3 13 "MinorStepsModel" "signs" "[I") kw_X_less_0) (fun _ h9 => h9) rfl dX3_less_31 ?_
      refine lv_bipush (v := 49) hx hb dX3_less_34 (by decide) ?_
      obtain ⟨g9, hf⟩ := og_c hf
      refine va_iald hx hb hK hP 2 0 rfl rfl (og_in g9) dX3_less_36 ?_
      refine lv_iload_n hx hb dX3_less_37 rfl (lv_at hl 0 rfl) ?_
      refine lv_icmp_ne (tgt := 61) hx hb dX3_less_38 (by decide) (fun c10 => ?_) (fun c10 => ?_)
      · have hf := og_f c10 hf
        refine lv_aload_n hx hb dX3_less_61 rfl (lv_at hl 1 rfl) ?_
        refine lv_bipush (v := 49) hx hb dX3_less_62 (by decide) ?_
        refine lv_bipush (v := 48) hx hb dX3_less_64 (by decide) ?_
        obtain ⟨x11, g12, hf⟩ := og_b hf
        refine kc_i (wr := []) (w1 := [(q_t, .inr (3, [.int t_n, .int t_room, .ref q_t_limbs, .ref q_t_signs, .ref q_t_rows, .int t_chosen, .int t_chosenSign, .int t_chosenLimbs, .int t_state, .int t_done, .int t_pivots, .int t_odd])), (q_t_limbs, .inl (cA, n_t_limbs, .inl a_t_limbs)), (q_t_signs, .inl (cA, n_t_signs, .inl a_t_signs)), (q_t_rows, .inl (cA, n_t_rows, .inl a_t_rows))]) [0, 1, 2, 3] [] (va_runV (As := [.int 49, .int 48]) (rest := []) ⟨hx, hb, hml, hown, hts⟩ (c_X_compare l dC dI cA H.size q_t q_t_limbs q_t_signs q_t_rows k t_n t_room t_chosen t_chosenSign t_chosenLimbs t_state t_done t_pivots t_odd n_t_limbs a_t_limbs n_t_signs a_t_signs n_t_rows a_t_rows (49 : Int32) (48 : Int32) x11 g12) (cwV 2 hts gX3_less_X3_compare rfl rfl rfl (by decide +kernel) ⟨Nat.le_of_ble_eq_true rfl, Nat.le_of_ble_eq_true rfl⟩) (kc_preV hP hD hK [0, 1, 2, 3] rfl rfl (by decide) (ci := 3) (q0 := 0) rfl rfl) rfl rfl hl.1 rfl (lv_room (Nat.le_of_ble_eq_true rfl)) dX3_less_66 ⟨Nat.le_of_ble_eq_true rfl, Nat.le_of_ble_eq_true rfl⟩) hP hD hS hA rfl rfl (by decide) (by decide) (fun H locs hP hD hS => ?_)
        have hP : va_P (dC, dI) vwCl [(q_t, .inr (3, [.int t_n, .int t_room, .ref q_t_limbs, .ref q_t_signs, .ref q_t_rows, .int t_chosen, .int t_chosenSign, .int t_chosenLimbs, .int t_state, .int t_done, .int t_pivots, .int t_odd])), (q_t_limbs, .inl (cA, n_t_limbs, .inl a_t_limbs)), (q_t_signs, .inl (cA, n_t_signs, .inl a_t_signs)), (q_t_rows, .inl (cA, n_t_rows, .inl a_t_rows))] H := hP
        have hD : va_D A [(q_t, .inr (3, [.int t_n, .int t_room, .ref q_t_limbs, .ref q_t_signs, .ref q_t_rows, .int t_chosen, .int t_chosenSign, .int t_chosenLimbs, .int t_state, .int t_done, .int t_pivots, .int t_odd])), (q_t_limbs, .inl (cA, n_t_limbs, .inl a_t_limbs)), (q_t_signs, .inl (cA, n_t_signs, .inl a_t_signs)), (q_t_rows, .inl (cA, n_t_rows, .inl a_t_rows))] := hD
        refine lv_istore_n (lv' := [(2, .int x11), (1, .int (-(a_t_signs (48 : Int32).toNatClampNeg))), (0, .ref q_t)]) hx hb dX3_less_69 rfl hl (by decide) rfl (fun ls hl => ?_)
        refine lv_aload_n hx hb dX3_less_70 rfl (lv_at hl 2 rfl) ?_
        refine va_get (D := (dC, dI)) (ci := 3) (v := .ref q_t_signs) (C := RX3) (T := TX3) (N := 12) hx hb hts ki_X_less_X3 hown hK hP 0 rfl rfl 3 (by decide) (hts (.fieldLink RX3 13 "MinorStepsModel" "signs" "[I") kw_X_less_0) (fun _ h9 => h9) rfl dX3_less_71 ?_
        refine lv_bipush (v := 49) hx hb dX3_less_74 (by decide) ?_
        obtain ⟨g13, hf⟩ := og_c hf
        refine va_iald hx hb hK hP 2 0 rfl rfl (og_in g13) dX3_less_76 ?_
        refine lv_istore_n (lv' := [(3, .int (a_t_signs (49 : Int32).toNatClampNeg)), (2, .int x11), (1, .int (-(a_t_signs (48 : Int32).toNatClampNeg))), (0, .ref q_t)]) hx hb dX3_less_77 rfl hl (by decide) rfl (fun ls hl => ?_)
        refine lv_iload_n hx hb dX3_less_78 rfl (lv_at hl 1 rfl) ?_
        refine lv_if_lt (tgt := 96) hx hb dX3_less_79 (by decide) (fun c14 => ?_) (fun c14 => ?_)
        · have hf := og_t c14 hf
          refine lv_aload_n hx hb dX3_less_96 rfl (lv_at hl 3 rfl) ?_
          refine lv_bipush (v := 48) hx hb dX3_less_97 (by decide) ?_
          refine lv_bipush (v := 49) hx hb dX3_less_99 (by decide) ?_
          refine lv_iconst (v := 0) hx hb dX3_less_101 (by decide) ?_
          refine lv_bipush (v := 49) hx hb dX3_less_102 (by decide) ?_
          obtain ⟨x15, g16, hf⟩ := og_b hf
          refine kc_v (wr := []) (w1 := [(q_t, .inr (3, [.int t_n, .int t_room, .ref q_t_limbs, .ref q_t_signs, .ref q_t_rows, .int t_chosen, .int t_chosenSign, .int t_chosenLimbs, .int t_state, .int t_done, .int t_pivots, .int t_odd])), (q_t_limbs, .inl (cA, n_t_limbs, .inl x15)), (q_t_signs, .inl (cA, n_t_signs, .inl a_t_signs)), (q_t_rows, .inl (cA, n_t_rows, .inl a_t_rows))]) [0, 1, 2, 3] [] (va_runV (As := [.int 48, .int 49, .int 0, .int 49]) (rest := []) ⟨hx, hb, hml, hown, hts⟩ (c_X_join l dC dI cA H.size q_t q_t_limbs q_t_signs q_t_rows k t_n t_room t_chosen t_chosenSign t_chosenLimbs t_state t_done t_pivots t_odd n_t_limbs a_t_limbs n_t_signs a_t_signs n_t_rows a_t_rows (48 : Int32) (49 : Int32) (0 : Int32) (49 : Int32) x15 g16) (cwV 4 hts gX3_less_X3_join rfl rfl rfl (by decide +kernel) ⟨Nat.le_of_ble_eq_true rfl, Nat.le_of_ble_eq_true rfl⟩) (kc_preV hP hD hK [0, 1, 2, 3] rfl rfl (by decide) (ci := 3) (q0 := 0) rfl rfl) rfl rfl hl.1 rfl (lv_room (Nat.le_of_ble_eq_true rfl)) dX3_less_104 ⟨Nat.le_of_ble_eq_true rfl, Nat.le_of_ble_eq_true rfl⟩) hP hD hS hA rfl rfl (by decide) (by decide) (fun H locs hP hD hS => ?_)
          have hP : va_P (dC, dI) vwCl [(q_t, .inr (3, [.int t_n, .int t_room, .ref q_t_limbs, .ref q_t_signs, .ref q_t_rows, .int t_chosen, .int t_chosenSign, .int t_chosenLimbs, .int t_state, .int t_done, .int t_pivots, .int t_odd])), (q_t_limbs, .inl (cA, n_t_limbs, .inl x15)), (q_t_signs, .inl (cA, n_t_signs, .inl a_t_signs)), (q_t_rows, .inl (cA, n_t_rows, .inl a_t_rows))] H := hP
          have hD : va_D A [(q_t, .inr (3, [.int t_n, .int t_room, .ref q_t_limbs, .ref q_t_signs, .ref q_t_rows, .int t_chosen, .int t_chosenSign, .int t_chosenLimbs, .int t_state, .int t_done, .int t_pivots, .int t_odd])), (q_t_limbs, .inl (cA, n_t_limbs, .inl x15)), (q_t_signs, .inl (cA, n_t_signs, .inl a_t_signs)), (q_t_rows, .inl (cA, n_t_rows, .inl a_t_rows))] := hD
          refine lv_aload_n hx hb dX3_less_107 rfl (lv_at hl 3 rfl) ?_
          refine va_get (D := (dC, dI)) (ci := 3) (v := .ref q_t_signs) (C := RX3) (T := TX3) (N := 12) hx hb hts ki_X_less_X3 hown hK hP 0 rfl rfl 3 (by decide) (hts (.fieldLink RX3 13 "MinorStepsModel" "signs" "[I") kw_X_less_0) (fun _ h9 => h9) rfl dX3_less_108 ?_
          refine lv_bipush (v := 49) hx hb dX3_less_111 (by decide) ?_
          refine lv_iload_n hx hb dX3_less_113 rfl (lv_at hl 1 rfl) ?_
          refine lv_if_ne (tgt := 121) hx hb dX3_less_114 (by decide) (fun c17 => ?_) (fun c17 => ?_)
          · have hf := og_f c17 hf
            refine lv_iload_n hx hb dX3_less_121 rfl (lv_at hl 1 rfl) ?_
            refine lv_if_le (tgt := 129) hx hb dX3_less_122 (by decide) (fun c18 => ?_) (fun c18 => ?_)
            · have hf := og_t c18 hf
              refine lv_iload_n hx hb dX3_less_129 rfl (lv_at hl 2 rfl) ?_
              obtain ⟨g19, hf⟩ := og_c hf
              refine va_iast hx hb hK hP hD hS 2 0 rfl rfl (og_in g19) dX3_less_130 (fun H locs hP hD hS => ?_)
              have hP : va_P (dC, dI) vwCl [(q_t, .inr (3, [.int t_n, .int t_room, .ref q_t_limbs, .ref q_t_signs, .ref q_t_rows, .int t_chosen, .int t_chosenSign, .int t_chosenLimbs, .int t_state, .int t_done, .int t_pivots, .int t_odd])), (q_t_limbs, .inl (cA, n_t_limbs, .inl x15)), (q_t_signs, .inl (cA, n_t_signs, .inl (upd a_t_signs (49 : Int32).toNatClampNeg (-(a_t_signs (48 : Int32).toNatClampNeg))))), (q_t_rows, .inl (cA, n_t_rows, .inl a_t_rows))] H := hP
              have hD : va_D A [(q_t, .inr (3, [.int t_n, .int t_room, .ref q_t_limbs, .ref q_t_signs, .ref q_t_rows, .int t_chosen, .int t_chosenSign, .int t_chosenLimbs, .int t_state, .int t_done, .int t_pivots, .int t_odd])), (q_t_limbs, .inl (cA, n_t_limbs, .inl x15)), (q_t_signs, .inl (cA, n_t_signs, .inl (upd a_t_signs (49 : Int32).toNatClampNeg (-(a_t_signs (48 : Int32).toNatClampNeg))))), (q_t_rows, .inl (cA, n_t_rows, .inl a_t_rows))] := hD
              have e9 := Option.some.inj hf
              subst e9
              exact kr_v hx hb hr hlocks hK hS (hP.sub [0, 1, 2, 3] rfl) (hD.sub [0, 1, 2, 3] (by decide) rfl) dX3_less_131
            · have hf := og_f c18 hf
              refine lv_iload_n hx hb dX3_less_125 rfl (lv_at hl 0 rfl) ?_
              refine lv_goto (tgt := 130) hx hb dX3_less_126 (by decide) ?_
              obtain ⟨g20, hf⟩ := og_c hf
              refine va_iast hx hb hK hP hD hS 2 0 rfl rfl (og_in g20) dX3_less_130 (fun H locs hP hD hS => ?_)
              have hP : va_P (dC, dI) vwCl [(q_t, .inr (3, [.int t_n, .int t_room, .ref q_t_limbs, .ref q_t_signs, .ref q_t_rows, .int t_chosen, .int t_chosenSign, .int t_chosenLimbs, .int t_state, .int t_done, .int t_pivots, .int t_odd])), (q_t_limbs, .inl (cA, n_t_limbs, .inl x15)), (q_t_signs, .inl (cA, n_t_signs, .inl (upd a_t_signs (49 : Int32).toNatClampNeg (a_t_signs (49 : Int32).toNatClampNeg)))), (q_t_rows, .inl (cA, n_t_rows, .inl a_t_rows))] H := hP
              have hD : va_D A [(q_t, .inr (3, [.int t_n, .int t_room, .ref q_t_limbs, .ref q_t_signs, .ref q_t_rows, .int t_chosen, .int t_chosenSign, .int t_chosenLimbs, .int t_state, .int t_done, .int t_pivots, .int t_odd])), (q_t_limbs, .inl (cA, n_t_limbs, .inl x15)), (q_t_signs, .inl (cA, n_t_signs, .inl (upd a_t_signs (49 : Int32).toNatClampNeg (a_t_signs (49 : Int32).toNatClampNeg)))), (q_t_rows, .inl (cA, n_t_rows, .inl a_t_rows))] := hD
              have e9 := Option.some.inj hf
              subst e9
              exact kr_v hx hb hr hlocks hK hS (hP.sub [0, 1, 2, 3] rfl) (hD.sub [0, 1, 2, 3] (by decide) rfl) dX3_less_131
          · have hf := og_t c17 hf
            refine lv_iconst (v := 0) hx hb dX3_less_117 (by decide) ?_
            refine lv_goto (tgt := 130) hx hb dX3_less_118 (by decide) ?_
            obtain ⟨g21, hf⟩ := og_c hf
            refine va_iast hx hb hK hP hD hS 2 0 rfl rfl (og_in g21) dX3_less_130 (fun H locs hP hD hS => ?_)
            have hP : va_P (dC, dI) vwCl [(q_t, .inr (3, [.int t_n, .int t_room, .ref q_t_limbs, .ref q_t_signs, .ref q_t_rows, .int t_chosen, .int t_chosenSign, .int t_chosenLimbs, .int t_state, .int t_done, .int t_pivots, .int t_odd])), (q_t_limbs, .inl (cA, n_t_limbs, .inl x15)), (q_t_signs, .inl (cA, n_t_signs, .inl (upd a_t_signs (49 : Int32).toNatClampNeg 0))), (q_t_rows, .inl (cA, n_t_rows, .inl a_t_rows))] H := hP
            have hD : va_D A [(q_t, .inr (3, [.int t_n, .int t_room, .ref q_t_limbs, .ref q_t_signs, .ref q_t_rows, .int t_chosen, .int t_chosenSign, .int t_chosenLimbs, .int t_state, .int t_done, .int t_pivots, .int t_odd])), (q_t_limbs, .inl (cA, n_t_limbs, .inl x15)), (q_t_signs, .inl (cA, n_t_signs, .inl (upd a_t_signs (49 : Int32).toNatClampNeg 0))), (q_t_rows, .inl (cA, n_t_rows, .inl a_t_rows))] := hD
            have e9 := Option.some.inj hf
            subst e9
            exact kr_v hx hb hr hlocks hK hS (hP.sub [0, 1, 2, 3] rfl) (hD.sub [0, 1, 2, 3] (by decide) rfl) dX3_less_131
        · have hf := og_f c14 hf
          refine lv_aload_n hx hb dX3_less_82 rfl (lv_at hl 3 rfl) ?_
          refine lv_bipush (v := 49) hx hb dX3_less_83 (by decide) ?_
          refine lv_bipush (v := 48) hx hb dX3_less_85 (by decide) ?_
          refine lv_iconst (v := 0) hx hb dX3_less_87 (by decide) ?_
          refine lv_bipush (v := 49) hx hb dX3_less_88 (by decide) ?_
          obtain ⟨x22, g23, hf⟩ := og_b hf
          refine kc_v (wr := []) (w1 := [(q_t, .inr (3, [.int t_n, .int t_room, .ref q_t_limbs, .ref q_t_signs, .ref q_t_rows, .int t_chosen, .int t_chosenSign, .int t_chosenLimbs, .int t_state, .int t_done, .int t_pivots, .int t_odd])), (q_t_limbs, .inl (cA, n_t_limbs, .inl x22)), (q_t_signs, .inl (cA, n_t_signs, .inl a_t_signs)), (q_t_rows, .inl (cA, n_t_rows, .inl a_t_rows))]) [0, 1, 2, 3] [] (va_runV (As := [.int 49, .int 48, .int 0, .int 49]) (rest := []) ⟨hx, hb, hml, hown, hts⟩ (c_X_join l dC dI cA H.size q_t q_t_limbs q_t_signs q_t_rows k t_n t_room t_chosen t_chosenSign t_chosenLimbs t_state t_done t_pivots t_odd n_t_limbs a_t_limbs n_t_signs a_t_signs n_t_rows a_t_rows (49 : Int32) (48 : Int32) (0 : Int32) (49 : Int32) x22 g23) (cwV 4 hts gX3_less_X3_join rfl rfl rfl (by decide +kernel) ⟨Nat.le_of_ble_eq_true rfl, Nat.le_of_ble_eq_true rfl⟩) (kc_preV hP hD hK [0, 1, 2, 3] rfl rfl (by decide) (ci := 3) (q0 := 0) rfl rfl) rfl rfl hl.1 rfl (lv_room (Nat.le_of_ble_eq_true rfl)) dX3_less_90 ⟨Nat.le_of_ble_eq_true rfl, Nat.le_of_ble_eq_true rfl⟩) hP hD hS hA rfl rfl (by decide) (by decide) (fun H locs hP hD hS => ?_)
          have hP : va_P (dC, dI) vwCl [(q_t, .inr (3, [.int t_n, .int t_room, .ref q_t_limbs, .ref q_t_signs, .ref q_t_rows, .int t_chosen, .int t_chosenSign, .int t_chosenLimbs, .int t_state, .int t_done, .int t_pivots, .int t_odd])), (q_t_limbs, .inl (cA, n_t_limbs, .inl x22)), (q_t_signs, .inl (cA, n_t_signs, .inl a_t_signs)), (q_t_rows, .inl (cA, n_t_rows, .inl a_t_rows))] H := hP
          have hD : va_D A [(q_t, .inr (3, [.int t_n, .int t_room, .ref q_t_limbs, .ref q_t_signs, .ref q_t_rows, .int t_chosen, .int t_chosenSign, .int t_chosenLimbs, .int t_state, .int t_done, .int t_pivots, .int t_odd])), (q_t_limbs, .inl (cA, n_t_limbs, .inl x22)), (q_t_signs, .inl (cA, n_t_signs, .inl a_t_signs)), (q_t_rows, .inl (cA, n_t_rows, .inl a_t_rows))] := hD
          refine lv_goto (tgt := 107) hx hb dX3_less_93 (by decide) ?_
          refine lv_aload_n hx hb dX3_less_107 rfl (lv_at hl 3 rfl) ?_
          refine va_get (D := (dC, dI)) (ci := 3) (v := .ref q_t_signs) (C := RX3) (T := TX3) (N := 12) hx hb hts ki_X_less_X3 hown hK hP 0 rfl rfl 3 (by decide) (hts (.fieldLink RX3 13 "MinorStepsModel" "signs" "[I") kw_X_less_0) (fun _ h9 => h9) rfl dX3_less_108 ?_
          refine lv_bipush (v := 49) hx hb dX3_less_111 (by decide) ?_
          refine lv_iload_n hx hb dX3_less_113 rfl (lv_at hl 1 rfl) ?_
          refine lv_if_ne (tgt := 121) hx hb dX3_less_114 (by decide) (fun c24 => ?_) (fun c24 => ?_)
          · have hf := og_f c24 hf
            refine lv_iload_n hx hb dX3_less_121 rfl (lv_at hl 1 rfl) ?_
            refine lv_if_le (tgt := 129) hx hb dX3_less_122 (by decide) (fun c25 => ?_) (fun c25 => ?_)
            · have hf := og_t c25 hf
              refine lv_iload_n hx hb dX3_less_129 rfl (lv_at hl 2 rfl) ?_
              obtain ⟨g26, hf⟩ := og_c hf
              refine va_iast hx hb hK hP hD hS 2 0 rfl rfl (og_in g26) dX3_less_130 (fun H locs hP hD hS => ?_)
              have hP : va_P (dC, dI) vwCl [(q_t, .inr (3, [.int t_n, .int t_room, .ref q_t_limbs, .ref q_t_signs, .ref q_t_rows, .int t_chosen, .int t_chosenSign, .int t_chosenLimbs, .int t_state, .int t_done, .int t_pivots, .int t_odd])), (q_t_limbs, .inl (cA, n_t_limbs, .inl x22)), (q_t_signs, .inl (cA, n_t_signs, .inl (upd a_t_signs (49 : Int32).toNatClampNeg (-(a_t_signs (48 : Int32).toNatClampNeg))))), (q_t_rows, .inl (cA, n_t_rows, .inl a_t_rows))] H := hP
              have hD : va_D A [(q_t, .inr (3, [.int t_n, .int t_room, .ref q_t_limbs, .ref q_t_signs, .ref q_t_rows, .int t_chosen, .int t_chosenSign, .int t_chosenLimbs, .int t_state, .int t_done, .int t_pivots, .int t_odd])), (q_t_limbs, .inl (cA, n_t_limbs, .inl x22)), (q_t_signs, .inl (cA, n_t_signs, .inl (upd a_t_signs (49 : Int32).toNatClampNeg (-(a_t_signs (48 : Int32).toNatClampNeg))))), (q_t_rows, .inl (cA, n_t_rows, .inl a_t_rows))] := hD
              have e9 := Option.some.inj hf
              subst e9
              exact kr_v hx hb hr hlocks hK hS (hP.sub [0, 1, 2, 3] rfl) (hD.sub [0, 1, 2, 3] (by decide) rfl) dX3_less_131
            · have hf := og_f c25 hf
              refine lv_iload_n hx hb dX3_less_125 rfl (lv_at hl 0 rfl) ?_
              refine lv_goto (tgt := 130) hx hb dX3_less_126 (by decide) ?_
              obtain ⟨g27, hf⟩ := og_c hf
              refine va_iast hx hb hK hP hD hS 2 0 rfl rfl (og_in g27) dX3_less_130 (fun H locs hP hD hS => ?_)
              have hP : va_P (dC, dI) vwCl [(q_t, .inr (3, [.int t_n, .int t_room, .ref q_t_limbs, .ref q_t_signs, .ref q_t_rows, .int t_chosen, .int t_chosenSign, .int t_chosenLimbs, .int t_state, .int t_done, .int t_pivots, .int t_odd])), (q_t_limbs, .inl (cA, n_t_limbs, .inl x22)), (q_t_signs, .inl (cA, n_t_signs, .inl (upd a_t_signs (49 : Int32).toNatClampNeg (a_t_signs (49 : Int32).toNatClampNeg)))), (q_t_rows, .inl (cA, n_t_rows, .inl a_t_rows))] H := hP
              have hD : va_D A [(q_t, .inr (3, [.int t_n, .int t_room, .ref q_t_limbs, .ref q_t_signs, .ref q_t_rows, .int t_chosen, .int t_chosenSign, .int t_chosenLimbs, .int t_state, .int t_done, .int t_pivots, .int t_odd])), (q_t_limbs, .inl (cA, n_t_limbs, .inl x22)), (q_t_signs, .inl (cA, n_t_signs, .inl (upd a_t_signs (49 : Int32).toNatClampNeg (a_t_signs (49 : Int32).toNatClampNeg)))), (q_t_rows, .inl (cA, n_t_rows, .inl a_t_rows))] := hD
              have e9 := Option.some.inj hf
              subst e9
              exact kr_v hx hb hr hlocks hK hS (hP.sub [0, 1, 2, 3] rfl) (hD.sub [0, 1, 2, 3] (by decide) rfl) dX3_less_131
          · have hf := og_t c24 hf
            refine lv_iconst (v := 0) hx hb dX3_less_117 (by decide) ?_
            refine lv_goto (tgt := 130) hx hb dX3_less_118 (by decide) ?_
            obtain ⟨g28, hf⟩ := og_c hf
            refine va_iast hx hb hK hP hD hS 2 0 rfl rfl (og_in g28) dX3_less_130 (fun H locs hP hD hS => ?_)
            have hP : va_P (dC, dI) vwCl [(q_t, .inr (3, [.int t_n, .int t_room, .ref q_t_limbs, .ref q_t_signs, .ref q_t_rows, .int t_chosen, .int t_chosenSign, .int t_chosenLimbs, .int t_state, .int t_done, .int t_pivots, .int t_odd])), (q_t_limbs, .inl (cA, n_t_limbs, .inl x22)), (q_t_signs, .inl (cA, n_t_signs, .inl (upd a_t_signs (49 : Int32).toNatClampNeg 0))), (q_t_rows, .inl (cA, n_t_rows, .inl a_t_rows))] H := hP
            have hD : va_D A [(q_t, .inr (3, [.int t_n, .int t_room, .ref q_t_limbs, .ref q_t_signs, .ref q_t_rows, .int t_chosen, .int t_chosenSign, .int t_chosenLimbs, .int t_state, .int t_done, .int t_pivots, .int t_odd])), (q_t_limbs, .inl (cA, n_t_limbs, .inl x22)), (q_t_signs, .inl (cA, n_t_signs, .inl (upd a_t_signs (49 : Int32).toNatClampNeg 0))), (q_t_rows, .inl (cA, n_t_rows, .inl a_t_rows))] := hD
            have e9 := Option.some.inj hf
            subst e9
            exact kr_v hx hb hr hlocks hK hS (hP.sub [0, 1, 2, 3] rfl) (hD.sub [0, 1, 2, 3] (by decide) rfl) dX3_less_131
      · have hf := og_t c10 hf
        refine lv_aload_n hx hb dX3_less_41 rfl (lv_at hl 1 rfl) ?_
        refine lv_bipush (v := 49) hx hb dX3_less_42 (by decide) ?_
        refine lv_bipush (v := 48) hx hb dX3_less_44 (by decide) ?_
        refine lv_iconst (v := 1) hx hb dX3_less_46 (by decide) ?_
        refine lv_bipush (v := 49) hx hb dX3_less_47 (by decide) ?_
        obtain ⟨x29, g30, hf⟩ := og_b hf
        refine kc_v (wr := []) (w1 := [(q_t, .inr (3, [.int t_n, .int t_room, .ref q_t_limbs, .ref q_t_signs, .ref q_t_rows, .int t_chosen, .int t_chosenSign, .int t_chosenLimbs, .int t_state, .int t_done, .int t_pivots, .int t_odd])), (q_t_limbs, .inl (cA, n_t_limbs, .inl x29)), (q_t_signs, .inl (cA, n_t_signs, .inl a_t_signs)), (q_t_rows, .inl (cA, n_t_rows, .inl a_t_rows))]) [0, 1, 2, 3] [] (va_runV (As := [.int 49, .int 48, .int 1, .int 49]) (rest := []) ⟨hx, hb, hml, hown, hts⟩ (c_X_join l dC dI cA H.size q_t q_t_limbs q_t_signs q_t_rows k t_n t_room t_chosen t_chosenSign t_chosenLimbs t_state t_done t_pivots t_odd n_t_limbs a_t_limbs n_t_signs a_t_signs n_t_rows a_t_rows (49 : Int32) (48 : Int32) (1 : Int32) (49 : Int32) x29 g30) (cwV 4 hts gX3_less_X3_join rfl rfl rfl (by decide +kernel) ⟨Nat.le_of_ble_eq_true rfl, Nat.le_of_ble_eq_true rfl⟩) (kc_preV hP hD hK [0, 1, 2, 3] rfl rfl (by decide) (ci := 3) (q0 := 0) rfl rfl) rfl rfl hl.1 rfl (lv_room (Nat.le_of_ble_eq_true rfl)) dX3_less_49 ⟨Nat.le_of_ble_eq_true rfl, Nat.le_of_ble_eq_true rfl⟩) hP hD hS hA rfl rfl (by decide) (by decide) (fun H locs hP hD hS => ?_)
        have hP : va_P (dC, dI) vwCl [(q_t, .inr (3, [.int t_n, .int t_room, .ref q_t_limbs, .ref q_t_signs, .ref q_t_rows, .int t_chosen, .int t_chosenSign, .int t_chosenLimbs, .int t_state, .int t_done, .int t_pivots, .int t_odd])), (q_t_limbs, .inl (cA, n_t_limbs, .inl x29)), (q_t_signs, .inl (cA, n_t_signs, .inl a_t_signs)), (q_t_rows, .inl (cA, n_t_rows, .inl a_t_rows))] H := hP
        have hD : va_D A [(q_t, .inr (3, [.int t_n, .int t_room, .ref q_t_limbs, .ref q_t_signs, .ref q_t_rows, .int t_chosen, .int t_chosenSign, .int t_chosenLimbs, .int t_state, .int t_done, .int t_pivots, .int t_odd])), (q_t_limbs, .inl (cA, n_t_limbs, .inl x29)), (q_t_signs, .inl (cA, n_t_signs, .inl a_t_signs)), (q_t_rows, .inl (cA, n_t_rows, .inl a_t_rows))] := hD
        refine lv_aload_n hx hb dX3_less_52 rfl (lv_at hl 1 rfl) ?_
        refine va_get (D := (dC, dI)) (ci := 3) (v := .ref q_t_signs) (C := RX3) (T := TX3) (N := 12) hx hb hts ki_X_less_X3 hown hK hP 0 rfl rfl 3 (by decide) (hts (.fieldLink RX3 13 "MinorStepsModel" "signs" "[I") kw_X_less_0) (fun _ h9 => h9) rfl dX3_less_53 ?_
        refine lv_bipush (v := 49) hx hb dX3_less_56 (by decide) ?_
        refine lv_iload_n hx hb dX3_less_58 rfl (lv_at hl 0 rfl) ?_
        obtain ⟨g31, hf⟩ := og_c hf
        refine va_iast hx hb hK hP hD hS 2 0 rfl rfl (og_in g31) dX3_less_59 (fun H locs hP hD hS => ?_)
        have hP : va_P (dC, dI) vwCl [(q_t, .inr (3, [.int t_n, .int t_room, .ref q_t_limbs, .ref q_t_signs, .ref q_t_rows, .int t_chosen, .int t_chosenSign, .int t_chosenLimbs, .int t_state, .int t_done, .int t_pivots, .int t_odd])), (q_t_limbs, .inl (cA, n_t_limbs, .inl x29)), (q_t_signs, .inl (cA, n_t_signs, .inl (upd a_t_signs (49 : Int32).toNatClampNeg (-(a_t_signs (48 : Int32).toNatClampNeg))))), (q_t_rows, .inl (cA, n_t_rows, .inl a_t_rows))] H := hP
        have hD : va_D A [(q_t, .inr (3, [.int t_n, .int t_room, .ref q_t_limbs, .ref q_t_signs, .ref q_t_rows, .int t_chosen, .int t_chosenSign, .int t_chosenLimbs, .int t_state, .int t_done, .int t_pivots, .int t_odd])), (q_t_limbs, .inl (cA, n_t_limbs, .inl x29)), (q_t_signs, .inl (cA, n_t_signs, .inl (upd a_t_signs (49 : Int32).toNatClampNeg (-(a_t_signs (48 : Int32).toNatClampNeg))))), (q_t_rows, .inl (cA, n_t_rows, .inl a_t_rows))] := hD
        have e9 := Option.some.inj hf
        subst e9
        exact kr_v hx hb hr hlocks hK hS (hP.sub [0, 1, 2, 3] rfl) (hD.sub [0, 1, 2, 3] (by decide) rfl) dX3_less_60
  · have hf := og_t c2 hf
    have e9 := Option.some.inj hf
    subst e9
    exact kr_v hx hb hr hlocks hK hS (hP.sub [0, 1, 2, 3] rfl) (hD.sub [0, 1, 2, 3] (by decide) rfl) dX3_less_10
def rm_X_zeros : Room := { frames := 0, cells := 0, slots := 0, locals := 0 }
theorem kw_X_zeros_0 : (.fieldLink RX3 7 "MinorStepsModel" "limbs" "[I" : Cond) ∈ wsX3_zeros := by decide +kernel
theorem ki_X_zeros_X3 : ∀ w ∈ u_ws RX3 TX3 12, w ∈ wsX3_zeros := by decide +kernel
set_option maxHeartbeats 4000000 in
set_option maxRecDepth 100000 in
theorem w_X_zeros_L2 {p : Program} {l : Launch} {e : Env} {s : State} {m : MethodId} {args : Array Value} {below : List Frame} {meth : Method} {c : Code} {Q : State → Prop} {A : Nat → Prop} {H0 : Heap} {dC : Nat → ClassId} {dI : Nat → Nat → Nat} {cA : ClassId} (hx : p.tables.exec = Jvm.exec) (hb : c.code = cX3_zeros) (hown : s.vm.findClass RX3 = some m.cls) (hts : ∀ w ∈ wsX3_zeros, w.before args s = true) (hml : c.maxLocals = 3) (hA : ∀ q, H0.size ≤ q → A q) (hK : va_K (dC, dI) vwCl [(cA, .int)] s) (k : Nat) (q_t : Nat) (q_t_limbs : Nat) (q_t_signs : Nat) (q_t_rows : Nat) (v1 : Int32) (i0_t : Int32) (i1_t : Int32) (i5_t : Int32) (i6_t : Int32) (i7_t : Int32) (i8_t : Int32) (i9_t : Int32) (i10_t : Int32) (i11_t : Int32) (n_t_limbs : Nat) (a_t_limbs : Nat → Int32) (n_t_signs : Nat) (a_t_signs : Nat → Int32) (n_t_rows : Nat) (a_t_rows : Nat → Int32) : ∀ (j : Nat) (v2 : Int32) (o : Int32), f_X_zeros_L2 k v1 n_t_limbs a_t_limbs j v2 = some o → ∀ (H : Heap) (locs : List Loc), va_P (dC, dI) vwCl [(q_t, .inr (3, [.int i0_t, .int i1_t, .ref q_t_limbs, .ref q_t_signs, .ref q_t_rows, .int i5_t, .int i6_t, .int i7_t, .int i8_t, .int i9_t, .int i10_t, .int i11_t])), (q_t_limbs, .inl (cA, n_t_limbs, .inl a_t_limbs)), (q_t_signs, .inl (cA, n_t_signs, .inl a_t_signs)), (q_t_rows, .inl (cA, n_t_rows, .inl a_t_rows))] H → va_D A [(q_t, .inr (3, [.int i0_t, .int i1_t, .ref q_t_limbs, .ref q_t_signs, .ref q_t_rows, .int i5_t, .int i6_t, .int i7_t, .int i8_t, .int i9_t, .int i10_t, .int i11_t])), (q_t_limbs, .inl (cA, n_t_limbs, .inl a_t_limbs)), (q_t_signs, .inl (cA, n_t_signs, .inl a_t_signs)), (q_t_rows, .inl (cA, n_t_rows, .inl a_t_rows))] → va_S A H0 H locs → ∀ ls : Array Slot, lv_has ls 3 [(0, .ref q_t), (1, .int v1), (2, .int v2)] → ∀ (he : ∀ (H : Heap) (locs : List Loc), va_P (dC, dI) vwCl [(q_t, .inr (3, [.int i0_t, .int i1_t, .ref q_t_limbs, .ref q_t_signs, .ref q_t_rows, .int i5_t, .int i6_t, .int i7_t, .int i8_t, .int i9_t, .int i10_t, .int i11_t])), (q_t_limbs, .inl (cA, n_t_limbs, .inl a_t_limbs)), (q_t_signs, .inl (cA, n_t_signs, .inl a_t_signs)), (q_t_rows, .inl (cA, n_t_rows, .inl a_t_rows))] H → va_D A [(q_t, .inr (3, [.int i0_t, .int i1_t, .ref q_t_limbs, .ref q_t_signs, .ref q_t_rows, .int i5_t, .int i6_t, .int i7_t, .int i8_t, .int i9_t, .int i10_t, .int i11_t])), (q_t_limbs, .inl (cA, n_t_limbs, .inl a_t_limbs)), (q_t_signs, .inl (cA, n_t_signs, .inl a_t_signs)), (q_t_rows, .inl (cA, n_t_rows, .inl a_t_rows))] → va_S A H0 H locs → ∀ ls : Array Slot, lv_has ls 3 [(2, .int o)] → W p l e rm_X_zeros s m args below meth c H locs 0 0 Q (F0 m 32 ls [])), W p l e rm_X_zeros s m args below meth c H locs 0 0 Q (F0 m 2 ls []) := by
  intro j
  induction j with
  | zero =>
    intro v2 o hf
    rw [f_X_zeros_L2] at hf
    cases hf
  | succ j ih =>
    intro v2 o hf H locs hP hD hS ls hl he
    rw [f_X_zeros_L2] at hf
    refine lv_aload_n hx hb dX3_zeros_2 rfl (lv_at hl 0 rfl) ?_
    refine va_get (D := (dC, dI)) (ci := 3) (v := .ref q_t_limbs) (C := RX3) (T := TX3) (N := 12) hx hb hts ki_X_zeros_X3 hown hK hP 0 rfl rfl 2 (by decide) (hts (.fieldLink RX3 7 "MinorStepsModel" "limbs" "[I") kw_X_zeros_0) (fun _ h9 => h9) rfl dX3_zeros_3 ?_
    refine lv_bipush (v := 40) hx hb dX3_zeros_6 (by decide) ?_
    refine lv_iload_n hx hb dX3_zeros_8 rfl (lv_at hl 1 rfl) ?_
    refine lv_imul hx hb dX3_zeros_9 ?_
    refine lv_iload_n hx hb dX3_zeros_10 rfl (lv_at hl 2 rfl) ?_
    refine lv_bipush (v := 31) hx hb dX3_zeros_11 (by decide) ?_
    refine lv_idiv hx hb dX3_zeros_13 (by decide) ?_
    refine lv_iadd hx hb dX3_zeros_14 ?_
    obtain ⟨g5, hf⟩ := og_c hf
    refine va_iald hx hb hK hP 1 0 rfl rfl (og_in g5) dX3_zeros_15 ?_
    refine lv_iload_n hx hb dX3_zeros_16 rfl (lv_at hl 2 rfl) ?_
    refine lv_bipush (v := 31) hx hb dX3_zeros_17 (by decide) ?_
    refine lv_irem hx hb dX3_zeros_19 (by decide) ?_
    refine lv_ishr hx hb dX3_zeros_20 ?_
    refine lv_iconst (v := 1) hx hb dX3_zeros_21 (by decide) ?_
    refine lv_iand hx hb dX3_zeros_22 ?_
    refine lv_if_ne (tgt := 32) hx hb dX3_zeros_23 (by decide) (fun c6 => ?_) (fun c6 => ?_)
    · have hf := og_f c6 hf
      have e9 := Option.some.inj hf
      subst e9
      exact he _ _ (hP.sub [0, 1, 2, 3] rfl) (hD.sub [0, 1, 2, 3] (by decide) rfl) hS _ (lv_sub hl [2] rfl)
    · have hf := og_t c6 hf
      refine lv_iinc (v := v2 + 1) (lv' := [(2, .int (v2 + 1)), (0, .ref q_t), (1, .int v1)]) hx hb dX3_zeros_26 hl (k := 2) rfl rfl (by decide) rfl (fun ls hl => ?_)
      refine lv_goto (tgt := 2) hx hb dX3_zeros_29 (by decide) ?_
      exact ih (v2 + 1) _ hf _ _ (hP.sub [0, 1, 2, 3] rfl) (hD.sub [0, 1, 2, 3] (by decide) rfl) hS _ (lv_sub hl [1, 2, 0] rfl) he
set_option maxHeartbeats 4000000 in
set_option maxRecDepth 100000 in
theorem c_X_zeros (l : Launch) (dC : Nat → ClassId) (dI : Nat → Nat → Nat) (cA : ClassId) (sz : Nat) (q_t : Nat) (q_t_limbs : Nat) (q_t_signs : Nat) (q_t_rows : Nat) (k : Nat) (t_n : Int32) (t_room : Int32) (t_chosen : Int32) (t_chosenSign : Int32) (t_chosenLimbs : Int32) (t_state : Int32) (t_done : Int32) (t_pivots : Int32) (t_odd : Int32) (n_t_limbs : Nat) (a_t_limbs : Nat → Int32) (n_t_signs : Nat) (a_t_signs : Nat → Int32) (n_t_rows : Nat) (a_t_rows : Nat → Int32) (pp : Int32) (o : Int32) (hf : f_X_zeros k n_t_limbs a_t_limbs pp = some o) : Met l yX3_zeros wsX3_zeros rm_X_zeros (c_Pre (dC, dI) vwCl [(cA, .int)] [(q_t, .inr (3, [.int t_n, .int t_room, .ref q_t_limbs, .ref q_t_signs, .ref q_t_rows, .int t_chosen, .int t_chosenSign, .int t_chosenLimbs, .int t_state, .int t_done, .int t_pivots, .int t_odd])), (q_t_limbs, .inl (cA, n_t_limbs, .inl a_t_limbs)), (q_t_signs, .inl (cA, n_t_signs, .inl a_t_signs)), (q_t_rows, .inl (cA, n_t_rows, .inl a_t_rows))] sz [.ref q_t, .int pp]) (c_Qi (dC, dI) vwCl [(cA, .int)] [(q_t, .inr (3, [.int t_n, .int t_room, .ref q_t_limbs, .ref q_t_signs, .ref q_t_rows, .int t_chosen, .int t_chosenSign, .int t_chosenLimbs, .int t_state, .int t_done, .int t_pivots, .int t_odd])), (q_t_limbs, .inl (cA, n_t_limbs, .inl a_t_limbs)), (q_t_signs, .inl (cA, n_t_signs, .inl a_t_signs)), (q_t_rows, .inl (cA, n_t_rows, .inl a_t_rows))] (va_A [(q_t, .inr (3, [.int t_n, .int t_room, .ref q_t_limbs, .ref q_t_signs, .ref q_t_rows, .int t_chosen, .int t_chosenSign, .int t_chosenLimbs, .int t_state, .int t_done, .int t_pivots, .int t_odd])), (q_t_limbs, .inl (cA, n_t_limbs, .inl a_t_limbs)), (q_t_signs, .inl (cA, n_t_signs, .inl a_t_signs)), (q_t_rows, .inl (cA, n_t_rows, .inl a_t_rows))] sz) o) 0 0 (va_A [(q_t, .inr (3, [.int t_n, .int t_room, .ref q_t_limbs, .ref q_t_signs, .ref q_t_rows, .int t_chosen, .int t_chosenSign, .int t_chosenLimbs, .int t_state, .int t_done, .int t_pivots, .int t_odd])), (q_t_limbs, .inl (cA, n_t_limbs, .inl a_t_limbs)), (q_t_signs, .inl (cA, n_t_signs, .inl a_t_signs)), (q_t_rows, .inl (cA, n_t_rows, .inl a_t_rows))] sz) := by
  unfold f_X_zeros at hf
  refine k_ent (Qc := fun A => c_Qi (dC, dI) vwCl [(cA, .int)] [(q_t, .inr (3, [.int t_n, .int t_room, .ref q_t_limbs, .ref q_t_signs, .ref q_t_rows, .int t_chosen, .int t_chosenSign, .int t_chosenLimbs, .int t_state, .int t_done, .int t_pivots, .int t_odd])), (q_t_limbs, .inl (cA, n_t_limbs, .inl a_t_limbs)), (q_t_signs, .inl (cA, n_t_signs, .inl a_t_signs)), (q_t_rows, .inl (cA, n_t_rows, .inl a_t_rows))] A o) (by decide) rfl (Nat.le_of_ble_eq_true rfl) ?_
  intro p e s m below meth c A hx hb hr hown hts hml hlocks hin hsz hA hK H locs hP hD hS ls hl
  have hown : s.vm.findClass RX3 = some m.cls := hown
  have hl : lv_has ls 3 [(0, .ref q_t), (1, .int pp)] := hl
  refine lv_iconst (v := 0) hx hb dX3_zeros_0 (by decide) ?_
  refine lv_istore_n (lv' := [(2, .int 0), (0, .ref q_t), (1, .int pp)]) hx hb dX3_zeros_1 rfl hl (by decide) rfl (fun ls hl => ?_)
  obtain ⟨x7, g8, hf⟩ := og_b hf
  refine w_X_zeros_L2 hx hb hown hts hml hA hK k q_t q_t_limbs q_t_signs q_t_rows pp t_n t_room t_chosen t_chosenSign t_chosenLimbs t_state t_done t_pivots t_odd n_t_limbs a_t_limbs n_t_signs a_t_signs n_t_rows a_t_rows k (0 : Int32) _ g8 _ _ (hP.sub [0, 1, 2, 3] rfl) (hD.sub [0, 1, 2, 3] (by decide) rfl) hS _ (lv_sub hl [1, 2, 0] rfl) ?_
  intro H locs hP hD hS ls hl
  refine lv_iload_n hx hb dX3_zeros_32 rfl (lv_at hl 0 rfl) ?_
  have e9 := Option.some.inj hf
  subst e9
  exact kr_i hx hb hr hlocks hK hS (hP.sub [0, 1, 2, 3] rfl) (hD.sub [0, 1, 2, 3] (by decide) rfl) dX3_zeros_33
def rm_X_shift : Room := { frames := 0, cells := 0, slots := 0, locals := 0 }
theorem kw_X_shift_0 : (.fieldLink RX3 7 "MinorStepsModel" "limbs" "[I" : Cond) ∈ wsX3_shift := by decide +kernel
theorem kw_X_shift_1 : (.constantLong RX3 67 2147483647 : Cond) ∈ wsX3_shift := by decide +kernel
theorem ki_X_shift_X3 : ∀ w ∈ u_ws RX3 TX3 12, w ∈ wsX3_shift := by decide +kernel
set_option maxHeartbeats 4000000 in
set_option maxRecDepth 100000 in
theorem w_X_shift_L3 {p : Program} {l : Launch} {e : Env} {s : State} {m : MethodId} {args : Array Value} {below : List Frame} {meth : Method} {c : Code} {Q : State → Prop} {A : Nat → Prop} {H0 : Heap} {dC : Nat → ClassId} {dI : Nat → Nat → Nat} {cA : ClassId} (hx : p.tables.exec = Jvm.exec) (hb : c.code = cX3_shift) (hown : s.vm.findClass RX3 = some m.cls) (hts : ∀ w ∈ wsX3_shift, w.before args s = true) (hml : c.maxLocals = 10) (hA : ∀ q, H0.size ≤ q → A q) (hK : va_K (dC, dI) vwCl [(cA, .int)] s) (k : Nat) (q_t : Nat) (q_t_limbs : Nat) (q_t_signs : Nat) (q_t_rows : Nat) (v1 : Int32) (v2 : Int32) (v3 : Int32) (i0_t : Int32) (i1_t : Int32) (i5_t : Int32) (i6_t : Int32) (i7_t : Int32) (i8_t : Int32) (i9_t : Int32) (i10_t : Int32) (i11_t : Int32) (n_t_limbs : Nat) (n_t_signs : Nat) (a_t_signs : Nat → Int32) (n_t_rows : Nat) (a_t_rows : Nat → Int32) : ∀ (j : Nat) (v4 : Int32) (a_t_limbs : Nat → Int32) (o : Int32 × (Nat → Int32)), f_X_shift_L3 k v1 v2 v3 n_t_limbs j v4 a_t_limbs = some o → ∀ (H : Heap) (locs : List Loc), va_P (dC, dI) vwCl [(q_t, .inr (3, [.int i0_t, .int i1_t, .ref q_t_limbs, .ref q_t_signs, .ref q_t_rows, .int i5_t, .int i6_t, .int i7_t, .int i8_t, .int i9_t, .int i10_t, .int i11_t])), (q_t_limbs, .inl (cA, n_t_limbs, .inl a_t_limbs)), (q_t_signs, .inl (cA, n_t_signs, .inl a_t_signs)), (q_t_rows, .inl (cA, n_t_rows, .inl a_t_rows))] H → va_D A [(q_t, .inr (3, [.int i0_t, .int i1_t, .ref q_t_limbs, .ref q_t_signs, .ref q_t_rows, .int i5_t, .int i6_t, .int i7_t, .int i8_t, .int i9_t, .int i10_t, .int i11_t])), (q_t_limbs, .inl (cA, n_t_limbs, .inl a_t_limbs)), (q_t_signs, .inl (cA, n_t_signs, .inl a_t_signs)), (q_t_rows, .inl (cA, n_t_rows, .inl a_t_rows))] → va_S A H0 H locs → ∀ ls : Array Slot, lv_has ls 10 [(0, .ref q_t), (1, .int v1), (2, .int v2), (3, .int v3), (4, .int v4)] → ∀ (he : ∀ (H : Heap) (locs : List Loc), va_P (dC, dI) vwCl [(q_t, .inr (3, [.int i0_t, .int i1_t, .ref q_t_limbs, .ref q_t_signs, .ref q_t_rows, .int i5_t, .int i6_t, .int i7_t, .int i8_t, .int i9_t, .int i10_t, .int i11_t])), (q_t_limbs, .inl (cA, n_t_limbs, .inl o.2)), (q_t_signs, .inl (cA, n_t_signs, .inl a_t_signs)), (q_t_rows, .inl (cA, n_t_rows, .inl a_t_rows))] H → va_D A [(q_t, .inr (3, [.int i0_t, .int i1_t, .ref q_t_limbs, .ref q_t_signs, .ref q_t_rows, .int i5_t, .int i6_t, .int i7_t, .int i8_t, .int i9_t, .int i10_t, .int i11_t])), (q_t_limbs, .inl (cA, n_t_limbs, .inl o.2)), (q_t_signs, .inl (cA, n_t_signs, .inl a_t_signs)), (q_t_rows, .inl (cA, n_t_rows, .inl a_t_rows))] → va_S A H0 H locs → ∀ ls : Array Slot, lv_has ls 10 [] → W p l e rm_X_shift s m args below meth c H locs 0 0 Q (F0 m 111 ls [])), W p l e rm_X_shift s m args below meth c H locs 0 0 Q (F0 m 3 ls []) := by
  intro j
  induction j with
  | zero =>
    intro v4 a_t_limbs o hf
    rw [f_X_shift_L3] at hf
    cases hf
  | succ j ih =>
    intro v4 a_t_limbs o hf H locs hP hD hS ls hl he
    rw [f_X_shift_L3] at hf
    refine lv_iload hx hb dX3_shift_3 (lv_at hl 4 rfl) ?_
    refine lv_bipush (v := 40) hx hb dX3_shift_5 (by decide) ?_
    refine lv_icmp_ge (tgt := 111) hx hb dX3_shift_7 (by decide) (fun c23 => ?_) (fun c23 => ?_)
    · have hf := og_t c23 hf
      have e9 := Option.some.inj hf
      subst e9
      exact he _ _ (hP.sub [0, 1, 2, 3] rfl) (hD.sub [0, 1, 2, 3] (by decide) rfl) hS _ (lv_sub hl [] rfl)
    · have hf := og_f c23 hf
      refine lv_iload hx hb dX3_shift_10 (lv_at hl 4 rfl) ?_
      refine lv_iload_n hx hb dX3_shift_12 rfl (lv_at hl 2 rfl) ?_
      refine lv_bipush (v := 31) hx hb dX3_shift_13 (by decide) ?_
      refine lv_idiv hx hb dX3_shift_15 (by decide) ?_
      refine lv_iadd hx hb dX3_shift_16 ?_
      refine lv_istore (lv' := [(5, .int (v4 + (v2 / 31))), (0, .ref q_t), (1, .int v1), (2, .int v2), (3, .int v3), (4, .int v4)]) hx hb dX3_shift_17 hl (by decide) rfl (fun ls hl => ?_)
      refine lv_iload hx hb dX3_shift_19 (lv_at hl 0 rfl) ?_
      refine lv_bipush (v := 40) hx hb dX3_shift_21 (by decide) ?_
      refine lv_icmp_ge (tgt := 42) hx hb dX3_shift_23 (by decide) (fun c24 => ?_) (fun c24 => ?_)
      · have hf := og_t c24 hf
        refine lv_lconst (v := 0) hx hb dX3_shift_42 (by decide) ?_
        refine lv_lstore (lv' := [(6, .long 0), (5, .int (v4 + (v2 / 31))), (0, .ref q_t), (1, .int v1), (2, .int v2), (3, .int v3), (4, .int v4)]) hx hb dX3_shift_43 hl (by decide) rfl (fun ls hl => ?_)
        refine lv_iload hx hb dX3_shift_45 (lv_at hl 1 rfl) ?_
        refine lv_iconst (v := 1) hx hb dX3_shift_47 (by decide) ?_
        refine lv_iadd hx hb dX3_shift_48 ?_
        refine lv_bipush (v := 40) hx hb dX3_shift_49 (by decide) ?_
        refine lv_icmp_ge (tgt := 72) hx hb dX3_shift_51 (by decide) (fun c25 => ?_) (fun c25 => ?_)
        · have hf := og_t c25 hf
          refine lv_lconst (v := 0) hx hb dX3_shift_72 (by decide) ?_
          refine lv_lstore (lv' := [(8, .long 0), (6, .long 0), (5, .int (v4 + (v2 / 31))), (0, .ref q_t), (1, .int v1), (2, .int v2), (3, .int v3), (4, .int v4)]) hx hb dX3_shift_73 hl (by decide) rfl (fun ls hl => ?_)
          refine lv_aload_n hx hb dX3_shift_75 rfl (lv_at hl 3 rfl) ?_
          refine va_get (D := (dC, dI)) (ci := 3) (v := .ref q_t_limbs) (C := RX3) (T := TX3) (N := 12) hx hb hts ki_X_shift_X3 hown hK hP 0 rfl rfl 2 (by decide) (hts (.fieldLink RX3 7 "MinorStepsModel" "limbs" "[I") kw_X_shift_0) (fun _ h9 => h9) rfl dX3_shift_76 ?_
          refine lv_bipush (v := 40) hx hb dX3_shift_79 (by decide) ?_
          refine lv_iload_n hx hb dX3_shift_81 rfl (lv_at hl 6 rfl) ?_
          refine lv_imul hx hb dX3_shift_82 ?_
          refine lv_iload hx hb dX3_shift_83 (lv_at hl 7 rfl) ?_
          refine lv_iadd hx hb dX3_shift_85 ?_
          refine lv_lload hx hb dX3_shift_86 (lv_at hl 1 rfl) ?_
          refine lv_lload hx hb dX3_shift_88 (lv_at hl 0 rfl) ?_
          refine lv_bipush (v := 31) hx hb dX3_shift_90 (by decide) ?_
          refine lv_lshl (v := (0 : Int64) <<< ((31 : Int32).toInt64 &&& 63)) hx hb dX3_shift_92 rfl ?_
          refine lv_lor hx hb dX3_shift_93 ?_
          refine lv_iload_n hx hb dX3_shift_94 rfl (lv_at hl 5 rfl) ?_
          refine lv_bipush (v := 31) hx hb dX3_shift_95 (by decide) ?_
          refine lv_irem hx hb dX3_shift_97 (by decide) ?_
          refine lv_lshr (v := (0 ||| ((0 : Int64) <<< ((31 : Int32).toInt64 &&& 63))) >>> ((v2 - v2 / 31 * 31).toInt64 &&& 63)) hx hb dX3_shift_98 rfl ?_
          refine lv_ldc2 (v := 2147483647) hx hb hown (hts (.constantLong RX3 67 2147483647) kw_X_shift_1) dX3_shift_99 ?_
          refine lv_land hx hb dX3_shift_102 ?_
          refine lv_l2i (v := (((0 ||| ((0 : Int64) <<< ((31 : Int32).toInt64 &&& 63))) >>> ((v2 - v2 / 31 * 31).toInt64 &&& 63)) &&& 2147483647).toInt32) hx hb dX3_shift_103 rfl ?_
          obtain ⟨g26, hf⟩ := og_c hf
          refine va_iast hx hb hK hP hD hS 1 0 rfl rfl (og_in g26) dX3_shift_104 (fun H locs hP hD hS => ?_)
          have hP : va_P (dC, dI) vwCl [(q_t, .inr (3, [.int i0_t, .int i1_t, .ref q_t_limbs, .ref q_t_signs, .ref q_t_rows, .int i5_t, .int i6_t, .int i7_t, .int i8_t, .int i9_t, .int i10_t, .int i11_t])), (q_t_limbs, .inl (cA, n_t_limbs, .inl (upd a_t_limbs ((40 * v3) + v4).toNatClampNeg ((((0 ||| ((0 : Int64) <<< ((31 : Int32).toInt64 &&& 63))) >>> ((v2 - v2 / 31 * 31).toInt64 &&& 63)) &&& 2147483647).toInt32)))), (q_t_signs, .inl (cA, n_t_signs, .inl a_t_signs)), (q_t_rows, .inl (cA, n_t_rows, .inl a_t_rows))] H := hP
          have hD : va_D A [(q_t, .inr (3, [.int i0_t, .int i1_t, .ref q_t_limbs, .ref q_t_signs, .ref q_t_rows, .int i5_t, .int i6_t, .int i7_t, .int i8_t, .int i9_t, .int i10_t, .int i11_t])), (q_t_limbs, .inl (cA, n_t_limbs, .inl (upd a_t_limbs ((40 * v3) + v4).toNatClampNeg ((((0 ||| ((0 : Int64) <<< ((31 : Int32).toInt64 &&& 63))) >>> ((v2 - v2 / 31 * 31).toInt64 &&& 63)) &&& 2147483647).toInt32)))), (q_t_signs, .inl (cA, n_t_signs, .inl a_t_signs)), (q_t_rows, .inl (cA, n_t_rows, .inl a_t_rows))] := hD
          refine lv_iinc (v := v4 + 1) (lv' := [(4, .int (v4 + 1)), (8, .long 0), (6, .long 0), (5, .int (v4 + (v2 / 31))), (0, .ref q_t), (1, .int v1), (2, .int v2), (3, .int v3)]) hx hb dX3_shift_105 hl (k := 7) rfl rfl (by decide) rfl (fun ls hl => ?_)
          refine lv_goto (tgt := 3) hx hb dX3_shift_108 (by decide) ?_
          exact ih (v4 + 1) (upd a_t_limbs ((40 * v3) + v4).toNatClampNeg ((((0 ||| ((0 : Int64) <<< ((31 : Int32).toInt64 &&& 63))) >>> ((v2 - v2 / 31 * 31).toInt64 &&& 63)) &&& 2147483647).toInt32)) _ hf _ _ (hP.sub [0, 1, 2, 3] rfl) (hD.sub [0, 1, 2, 3] (by decide) rfl) hS _ (lv_sub hl [4, 5, 6, 7, 0] rfl) he
        · have hf := og_f c25 hf
          refine lv_aload_n hx hb dX3_shift_54 rfl (lv_at hl 2 rfl) ?_
          refine va_get (D := (dC, dI)) (ci := 3) (v := .ref q_t_limbs) (C := RX3) (T := TX3) (N := 12) hx hb hts ki_X_shift_X3 hown hK hP 0 rfl rfl 2 (by decide) (hts (.fieldLink RX3 7 "MinorStepsModel" "limbs" "[I") kw_X_shift_0) (fun _ h9 => h9) rfl dX3_shift_55 ?_
          refine lv_bipush (v := 40) hx hb dX3_shift_58 (by decide) ?_
          refine lv_iload_n hx hb dX3_shift_60 rfl (lv_at hl 3 rfl) ?_
          refine lv_imul hx hb dX3_shift_61 ?_
          refine lv_iload hx hb dX3_shift_62 (lv_at hl 1 rfl) ?_
          refine lv_iadd hx hb dX3_shift_64 ?_
          refine lv_iconst (v := 1) hx hb dX3_shift_65 (by decide) ?_
          refine lv_iadd hx hb dX3_shift_66 ?_
          obtain ⟨g27, hf⟩ := og_c hf
          refine va_iald hx hb hK hP 1 0 rfl rfl (og_in g27) dX3_shift_67 ?_
          refine lv_i2l (v := (a_t_limbs (((40 * v1) + (v4 + (v2 / 31))) + 1).toNatClampNeg).toInt64) hx hb dX3_shift_68 rfl ?_
          refine lv_goto (tgt := 73) hx hb dX3_shift_69 (by decide) ?_
          refine lv_lstore (lv' := [(8, .long ((a_t_limbs (((40 * v1) + (v4 + (v2 / 31))) + 1).toNatClampNeg).toInt64)), (6, .long 0), (5, .int (v4 + (v2 / 31))), (0, .ref q_t), (1, .int v1), (2, .int v2), (3, .int v3), (4, .int v4)]) hx hb dX3_shift_73 hl (by decide) rfl (fun ls hl => ?_)
          refine lv_aload_n hx hb dX3_shift_75 rfl (lv_at hl 3 rfl) ?_
          refine va_get (D := (dC, dI)) (ci := 3) (v := .ref q_t_limbs) (C := RX3) (T := TX3) (N := 12) hx hb hts ki_X_shift_X3 hown hK hP 0 rfl rfl 2 (by decide) (hts (.fieldLink RX3 7 "MinorStepsModel" "limbs" "[I") kw_X_shift_0) (fun _ h9 => h9) rfl dX3_shift_76 ?_
          refine lv_bipush (v := 40) hx hb dX3_shift_79 (by decide) ?_
          refine lv_iload_n hx hb dX3_shift_81 rfl (lv_at hl 6 rfl) ?_
          refine lv_imul hx hb dX3_shift_82 ?_
          refine lv_iload hx hb dX3_shift_83 (lv_at hl 7 rfl) ?_
          refine lv_iadd hx hb dX3_shift_85 ?_
          refine lv_lload hx hb dX3_shift_86 (lv_at hl 1 rfl) ?_
          refine lv_lload hx hb dX3_shift_88 (lv_at hl 0 rfl) ?_
          refine lv_bipush (v := 31) hx hb dX3_shift_90 (by decide) ?_
          refine lv_lshl (v := ((a_t_limbs (((40 * v1) + (v4 + (v2 / 31))) + 1).toNatClampNeg).toInt64) <<< ((31 : Int32).toInt64 &&& 63)) hx hb dX3_shift_92 rfl ?_
          refine lv_lor hx hb dX3_shift_93 ?_
          refine lv_iload_n hx hb dX3_shift_94 rfl (lv_at hl 5 rfl) ?_
          refine lv_bipush (v := 31) hx hb dX3_shift_95 (by decide) ?_
          refine lv_irem hx hb dX3_shift_97 (by decide) ?_
          refine lv_lshr (v := (0 ||| (((a_t_limbs (((40 * v1) + (v4 + (v2 / 31))) + 1).toNatClampNeg).toInt64) <<< ((31 : Int32).toInt64 &&& 63))) >>> ((v2 - v2 / 31 * 31).toInt64 &&& 63)) hx hb dX3_shift_98 rfl ?_
          refine lv_ldc2 (v := 2147483647) hx hb hown (hts (.constantLong RX3 67 2147483647) kw_X_shift_1) dX3_shift_99 ?_
          refine lv_land hx hb dX3_shift_102 ?_
          refine lv_l2i (v := (((0 ||| (((a_t_limbs (((40 * v1) + (v4 + (v2 / 31))) + 1).toNatClampNeg).toInt64) <<< ((31 : Int32).toInt64 &&& 63))) >>> ((v2 - v2 / 31 * 31).toInt64 &&& 63)) &&& 2147483647).toInt32) hx hb dX3_shift_103 rfl ?_
          obtain ⟨g28, hf⟩ := og_c hf
          refine va_iast hx hb hK hP hD hS 1 0 rfl rfl (og_in g28) dX3_shift_104 (fun H locs hP hD hS => ?_)
          have hP : va_P (dC, dI) vwCl [(q_t, .inr (3, [.int i0_t, .int i1_t, .ref q_t_limbs, .ref q_t_signs, .ref q_t_rows, .int i5_t, .int i6_t, .int i7_t, .int i8_t, .int i9_t, .int i10_t, .int i11_t])), (q_t_limbs, .inl (cA, n_t_limbs, .inl (upd a_t_limbs ((40 * v3) + v4).toNatClampNeg ((((0 ||| (((a_t_limbs (((40 * v1) + (v4 + (v2 / 31))) + 1).toNatClampNeg).toInt64) <<< ((31 : Int32).toInt64 &&& 63))) >>> ((v2 - v2 / 31 * 31).toInt64 &&& 63)) &&& 2147483647).toInt32)))), (q_t_signs, .inl (cA, n_t_signs, .inl a_t_signs)), (q_t_rows, .inl (cA, n_t_rows, .inl a_t_rows))] H := hP
          have hD : va_D A [(q_t, .inr (3, [.int i0_t, .int i1_t, .ref q_t_limbs, .ref q_t_signs, .ref q_t_rows, .int i5_t, .int i6_t, .int i7_t, .int i8_t, .int i9_t, .int i10_t, .int i11_t])), (q_t_limbs, .inl (cA, n_t_limbs, .inl (upd a_t_limbs ((40 * v3) + v4).toNatClampNeg ((((0 ||| (((a_t_limbs (((40 * v1) + (v4 + (v2 / 31))) + 1).toNatClampNeg).toInt64) <<< ((31 : Int32).toInt64 &&& 63))) >>> ((v2 - v2 / 31 * 31).toInt64 &&& 63)) &&& 2147483647).toInt32)))), (q_t_signs, .inl (cA, n_t_signs, .inl a_t_signs)), (q_t_rows, .inl (cA, n_t_rows, .inl a_t_rows))] := hD
          refine lv_iinc (v := v4 + 1) (lv' := [(4, .int (v4 + 1)), (8, .long ((a_t_limbs (((40 * v1) + (v4 + (v2 / 31))) + 1).toNatClampNeg).toInt64)), (6, .long 0), (5, .int (v4 + (v2 / 31))), (0, .ref q_t), (1, .int v1), (2, .int v2), (3, .int v3)]) hx hb dX3_shift_105 hl (k := 7) rfl rfl (by decide) rfl (fun ls hl => ?_)
          refine lv_goto (tgt := 3) hx hb dX3_shift_108 (by decide) ?_
          exact ih (v4 + 1) (upd a_t_limbs ((40 * v3) + v4).toNatClampNeg ((((0 ||| (((a_t_limbs (((40 * v1) + (v4 + (v2 / 31))) + 1).toNatClampNeg).toInt64) <<< ((31 : Int32).toInt64 &&& 63))) >>> ((v2 - v2 / 31 * 31).toInt64 &&& 63)) &&& 2147483647).toInt32)) _ hf _ _ (hP.sub [0, 1, 2, 3] rfl) (hD.sub [0, 1, 2, 3] (by decide) rfl) hS _ (lv_sub hl [4, 5, 6, 7, 0] rfl) he
      · have hf := og_f c24 hf
        refine lv_aload_n hx hb dX3_shift_26 rfl (lv_at hl 1 rfl) ?_
        refine va_get (D := (dC, dI)) (ci := 3) (v := .ref q_t_limbs) (C := RX3) (T := TX3) (N := 12) hx hb hts ki_X_shift_X3 hown hK hP 0 rfl rfl 2 (by decide) (hts (.fieldLink RX3 7 "MinorStepsModel" "limbs" "[I") kw_X_shift_0) (fun _ h9 => h9) rfl dX3_shift_27 ?_
        refine lv_bipush (v := 40) hx hb dX3_shift_30 (by decide) ?_
        refine lv_iload_n hx hb dX3_shift_32 rfl (lv_at hl 2 rfl) ?_
        refine lv_imul hx hb dX3_shift_33 ?_
        refine lv_iload hx hb dX3_shift_34 (lv_at hl 0 rfl) ?_
        refine lv_iadd hx hb dX3_shift_36 ?_
        obtain ⟨g29, hf⟩ := og_c hf
        refine va_iald hx hb hK hP 1 0 rfl rfl (og_in g29) dX3_shift_37 ?_
        refine lv_i2l (v := (a_t_limbs ((40 * v1) + (v4 + (v2 / 31))).toNatClampNeg).toInt64) hx hb dX3_shift_38 rfl ?_
        refine lv_goto (tgt := 43) hx hb dX3_shift_39 (by decide) ?_
        refine lv_lstore (lv' := [(6, .long ((a_t_limbs ((40 * v1) + (v4 + (v2 / 31))).toNatClampNeg).toInt64)), (5, .int (v4 + (v2 / 31))), (0, .ref q_t), (1, .int v1), (2, .int v2), (3, .int v3), (4, .int v4)]) hx hb dX3_shift_43 hl (by decide) rfl (fun ls hl => ?_)
        refine lv_iload hx hb dX3_shift_45 (lv_at hl 1 rfl) ?_
        refine lv_iconst (v := 1) hx hb dX3_shift_47 (by decide) ?_
        refine lv_iadd hx hb dX3_shift_48 ?_
        refine lv_bipush (v := 40) hx hb dX3_shift_49 (by decide) ?_
        refine lv_icmp_ge (tgt := 72) hx hb dX3_shift_51 (by decide) (fun c30 => ?_) (fun c30 => ?_)
        · have hf := og_t c30 hf
          refine lv_lconst (v := 0) hx hb dX3_shift_72 (by decide) ?_
          refine lv_lstore (lv' := [(8, .long 0), (6, .long ((a_t_limbs ((40 * v1) + (v4 + (v2 / 31))).toNatClampNeg).toInt64)), (5, .int (v4 + (v2 / 31))), (0, .ref q_t), (1, .int v1), (2, .int v2), (3, .int v3), (4, .int v4)]) hx hb dX3_shift_73 hl (by decide) rfl (fun ls hl => ?_)
          refine lv_aload_n hx hb dX3_shift_75 rfl (lv_at hl 3 rfl) ?_
          refine va_get (D := (dC, dI)) (ci := 3) (v := .ref q_t_limbs) (C := RX3) (T := TX3) (N := 12) hx hb hts ki_X_shift_X3 hown hK hP 0 rfl rfl 2 (by decide) (hts (.fieldLink RX3 7 "MinorStepsModel" "limbs" "[I") kw_X_shift_0) (fun _ h9 => h9) rfl dX3_shift_76 ?_
          refine lv_bipush (v := 40) hx hb dX3_shift_79 (by decide) ?_
          refine lv_iload_n hx hb dX3_shift_81 rfl (lv_at hl 6 rfl) ?_
          refine lv_imul hx hb dX3_shift_82 ?_
          refine lv_iload hx hb dX3_shift_83 (lv_at hl 7 rfl) ?_
          refine lv_iadd hx hb dX3_shift_85 ?_
          refine lv_lload hx hb dX3_shift_86 (lv_at hl 1 rfl) ?_
          refine lv_lload hx hb dX3_shift_88 (lv_at hl 0 rfl) ?_
          refine lv_bipush (v := 31) hx hb dX3_shift_90 (by decide) ?_
          refine lv_lshl (v := (0 : Int64) <<< ((31 : Int32).toInt64 &&& 63)) hx hb dX3_shift_92 rfl ?_
          refine lv_lor hx hb dX3_shift_93 ?_
          refine lv_iload_n hx hb dX3_shift_94 rfl (lv_at hl 5 rfl) ?_
          refine lv_bipush (v := 31) hx hb dX3_shift_95 (by decide) ?_
          refine lv_irem hx hb dX3_shift_97 (by decide) ?_
          refine lv_lshr (v := (((a_t_limbs ((40 * v1) + (v4 + (v2 / 31))).toNatClampNeg).toInt64) ||| ((0 : Int64) <<< ((31 : Int32).toInt64 &&& 63))) >>> ((v2 - v2 / 31 * 31).toInt64 &&& 63)) hx hb dX3_shift_98 rfl ?_
          refine lv_ldc2 (v := 2147483647) hx hb hown (hts (.constantLong RX3 67 2147483647) kw_X_shift_1) dX3_shift_99 ?_
          refine lv_land hx hb dX3_shift_102 ?_
          refine lv_l2i (v := (((((a_t_limbs ((40 * v1) + (v4 + (v2 / 31))).toNatClampNeg).toInt64) ||| ((0 : Int64) <<< ((31 : Int32).toInt64 &&& 63))) >>> ((v2 - v2 / 31 * 31).toInt64 &&& 63)) &&& 2147483647).toInt32) hx hb dX3_shift_103 rfl ?_
          obtain ⟨g31, hf⟩ := og_c hf
          refine va_iast hx hb hK hP hD hS 1 0 rfl rfl (og_in g31) dX3_shift_104 (fun H locs hP hD hS => ?_)
          have hP : va_P (dC, dI) vwCl [(q_t, .inr (3, [.int i0_t, .int i1_t, .ref q_t_limbs, .ref q_t_signs, .ref q_t_rows, .int i5_t, .int i6_t, .int i7_t, .int i8_t, .int i9_t, .int i10_t, .int i11_t])), (q_t_limbs, .inl (cA, n_t_limbs, .inl (upd a_t_limbs ((40 * v3) + v4).toNatClampNeg ((((((a_t_limbs ((40 * v1) + (v4 + (v2 / 31))).toNatClampNeg).toInt64) ||| ((0 : Int64) <<< ((31 : Int32).toInt64 &&& 63))) >>> ((v2 - v2 / 31 * 31).toInt64 &&& 63)) &&& 2147483647).toInt32)))), (q_t_signs, .inl (cA, n_t_signs, .inl a_t_signs)), (q_t_rows, .inl (cA, n_t_rows, .inl a_t_rows))] H := hP
          have hD : va_D A [(q_t, .inr (3, [.int i0_t, .int i1_t, .ref q_t_limbs, .ref q_t_signs, .ref q_t_rows, .int i5_t, .int i6_t, .int i7_t, .int i8_t, .int i9_t, .int i10_t, .int i11_t])), (q_t_limbs, .inl (cA, n_t_limbs, .inl (upd a_t_limbs ((40 * v3) + v4).toNatClampNeg ((((((a_t_limbs ((40 * v1) + (v4 + (v2 / 31))).toNatClampNeg).toInt64) ||| ((0 : Int64) <<< ((31 : Int32).toInt64 &&& 63))) >>> ((v2 - v2 / 31 * 31).toInt64 &&& 63)) &&& 2147483647).toInt32)))), (q_t_signs, .inl (cA, n_t_signs, .inl a_t_signs)), (q_t_rows, .inl (cA, n_t_rows, .inl a_t_rows))] := hD
          refine lv_iinc (v := v4 + 1) (lv' := [(4, .int (v4 + 1)), (8, .long 0), (6, .long ((a_t_limbs ((40 * v1) + (v4 + (v2 / 31))).toNatClampNeg).toInt64)), (5, .int (v4 + (v2 / 31))), (0, .ref q_t), (1, .int v1), (2, .int v2), (3, .int v3)]) hx hb dX3_shift_105 hl (k := 7) rfl rfl (by decide) rfl (fun ls hl => ?_)
          refine lv_goto (tgt := 3) hx hb dX3_shift_108 (by decide) ?_
          exact ih (v4 + 1) (upd a_t_limbs ((40 * v3) + v4).toNatClampNeg ((((((a_t_limbs ((40 * v1) + (v4 + (v2 / 31))).toNatClampNeg).toInt64) ||| ((0 : Int64) <<< ((31 : Int32).toInt64 &&& 63))) >>> ((v2 - v2 / 31 * 31).toInt64 &&& 63)) &&& 2147483647).toInt32)) _ hf _ _ (hP.sub [0, 1, 2, 3] rfl) (hD.sub [0, 1, 2, 3] (by decide) rfl) hS _ (lv_sub hl [4, 5, 6, 7, 0] rfl) he
        · have hf := og_f c30 hf
          refine lv_aload_n hx hb dX3_shift_54 rfl (lv_at hl 2 rfl) ?_
          refine va_get (D := (dC, dI)) (ci := 3) (v := .ref q_t_limbs) (C := RX3) (T := TX3) (N := 12) hx hb hts ki_X_shift_X3 hown hK hP 0 rfl rfl 2 (by decide) (hts (.fieldLink RX3 7 "MinorStepsModel" "limbs" "[I") kw_X_shift_0) (fun _ h9 => h9) rfl dX3_shift_55 ?_
          refine lv_bipush (v := 40) hx hb dX3_shift_58 (by decide) ?_
          refine lv_iload_n hx hb dX3_shift_60 rfl (lv_at hl 3 rfl) ?_
          refine lv_imul hx hb dX3_shift_61 ?_
          refine lv_iload hx hb dX3_shift_62 (lv_at hl 1 rfl) ?_
          refine lv_iadd hx hb dX3_shift_64 ?_
          refine lv_iconst (v := 1) hx hb dX3_shift_65 (by decide) ?_
          refine lv_iadd hx hb dX3_shift_66 ?_
          obtain ⟨g32, hf⟩ := og_c hf
          refine va_iald hx hb hK hP 1 0 rfl rfl (og_in g32) dX3_shift_67 ?_
          refine lv_i2l (v := (a_t_limbs (((40 * v1) + (v4 + (v2 / 31))) + 1).toNatClampNeg).toInt64) hx hb dX3_shift_68 rfl ?_
          refine lv_goto (tgt := 73) hx hb dX3_shift_69 (by decide) ?_
          refine lv_lstore (lv' := [(8, .long ((a_t_limbs (((40 * v1) + (v4 + (v2 / 31))) + 1).toNatClampNeg).toInt64)), (6, .long ((a_t_limbs ((40 * v1) + (v4 + (v2 / 31))).toNatClampNeg).toInt64)), (5, .int (v4 + (v2 / 31))), (0, .ref q_t), (1, .int v1), (2, .int v2), (3, .int v3), (4, .int v4)]) hx hb dX3_shift_73 hl (by decide) rfl (fun ls hl => ?_)
          refine lv_aload_n hx hb dX3_shift_75 rfl (lv_at hl 3 rfl) ?_
          refine va_get (D := (dC, dI)) (ci := 3) (v := .ref q_t_limbs) (C := RX3) (T := TX3) (N := 12) hx hb hts ki_X_shift_X3 hown hK hP 0 rfl rfl 2 (by decide) (hts (.fieldLink RX3 7 "MinorStepsModel" "limbs" "[I") kw_X_shift_0) (fun _ h9 => h9) rfl dX3_shift_76 ?_
          refine lv_bipush (v := 40) hx hb dX3_shift_79 (by decide) ?_
          refine lv_iload_n hx hb dX3_shift_81 rfl (lv_at hl 6 rfl) ?_
          refine lv_imul hx hb dX3_shift_82 ?_
          refine lv_iload hx hb dX3_shift_83 (lv_at hl 7 rfl) ?_
          refine lv_iadd hx hb dX3_shift_85 ?_
          refine lv_lload hx hb dX3_shift_86 (lv_at hl 1 rfl) ?_
          refine lv_lload hx hb dX3_shift_88 (lv_at hl 0 rfl) ?_
          refine lv_bipush (v := 31) hx hb dX3_shift_90 (by decide) ?_
          refine lv_lshl (v := ((a_t_limbs (((40 * v1) + (v4 + (v2 / 31))) + 1).toNatClampNeg).toInt64) <<< ((31 : Int32).toInt64 &&& 63)) hx hb dX3_shift_92 rfl ?_
          refine lv_lor hx hb dX3_shift_93 ?_
          refine lv_iload_n hx hb dX3_shift_94 rfl (lv_at hl 5 rfl) ?_
          refine lv_bipush (v := 31) hx hb dX3_shift_95 (by decide) ?_
          refine lv_irem hx hb dX3_shift_97 (by decide) ?_
          refine lv_lshr (v := (((a_t_limbs ((40 * v1) + (v4 + (v2 / 31))).toNatClampNeg).toInt64) ||| (((a_t_limbs (((40 * v1) + (v4 + (v2 / 31))) + 1).toNatClampNeg).toInt64) <<< ((31 : Int32).toInt64 &&& 63))) >>> ((v2 - v2 / 31 * 31).toInt64 &&& 63)) hx hb dX3_shift_98 rfl ?_
          refine lv_ldc2 (v := 2147483647) hx hb hown (hts (.constantLong RX3 67 2147483647) kw_X_shift_1) dX3_shift_99 ?_
          refine lv_land hx hb dX3_shift_102 ?_
          refine lv_l2i (v := (((((a_t_limbs ((40 * v1) + (v4 + (v2 / 31))).toNatClampNeg).toInt64) ||| (((a_t_limbs (((40 * v1) + (v4 + (v2 / 31))) + 1).toNatClampNeg).toInt64) <<< ((31 : Int32).toInt64 &&& 63))) >>> ((v2 - v2 / 31 * 31).toInt64 &&& 63)) &&& 2147483647).toInt32) hx hb dX3_shift_103 rfl ?_
          obtain ⟨g33, hf⟩ := og_c hf
          refine va_iast hx hb hK hP hD hS 1 0 rfl rfl (og_in g33) dX3_shift_104 (fun H locs hP hD hS => ?_)
          have hP : va_P (dC, dI) vwCl [(q_t, .inr (3, [.int i0_t, .int i1_t, .ref q_t_limbs, .ref q_t_signs, .ref q_t_rows, .int i5_t, .int i6_t, .int i7_t, .int i8_t, .int i9_t, .int i10_t, .int i11_t])), (q_t_limbs, .inl (cA, n_t_limbs, .inl (upd a_t_limbs ((40 * v3) + v4).toNatClampNeg ((((((a_t_limbs ((40 * v1) + (v4 + (v2 / 31))).toNatClampNeg).toInt64) ||| (((a_t_limbs (((40 * v1) + (v4 + (v2 / 31))) + 1).toNatClampNeg).toInt64) <<< ((31 : Int32).toInt64 &&& 63))) >>> ((v2 - v2 / 31 * 31).toInt64 &&& 63)) &&& 2147483647).toInt32)))), (q_t_signs, .inl (cA, n_t_signs, .inl a_t_signs)), (q_t_rows, .inl (cA, n_t_rows, .inl a_t_rows))] H := hP
          have hD : va_D A [(q_t, .inr (3, [.int i0_t, .int i1_t, .ref q_t_limbs, .ref q_t_signs, .ref q_t_rows, .int i5_t, .int i6_t, .int i7_t, .int i8_t, .int i9_t, .int i10_t, .int i11_t])), (q_t_limbs, .inl (cA, n_t_limbs, .inl (upd a_t_limbs ((40 * v3) + v4).toNatClampNeg ((((((a_t_limbs ((40 * v1) + (v4 + (v2 / 31))).toNatClampNeg).toInt64) ||| (((a_t_limbs (((40 * v1) + (v4 + (v2 / 31))) + 1).toNatClampNeg).toInt64) <<< ((31 : Int32).toInt64 &&& 63))) >>> ((v2 - v2 / 31 * 31).toInt64 &&& 63)) &&& 2147483647).toInt32)))), (q_t_signs, .inl (cA, n_t_signs, .inl a_t_signs)), (q_t_rows, .inl (cA, n_t_rows, .inl a_t_rows))] := hD
          refine lv_iinc (v := v4 + 1) (lv' := [(4, .int (v4 + 1)), (8, .long ((a_t_limbs (((40 * v1) + (v4 + (v2 / 31))) + 1).toNatClampNeg).toInt64)), (6, .long ((a_t_limbs ((40 * v1) + (v4 + (v2 / 31))).toNatClampNeg).toInt64)), (5, .int (v4 + (v2 / 31))), (0, .ref q_t), (1, .int v1), (2, .int v2), (3, .int v3)]) hx hb dX3_shift_105 hl (k := 7) rfl rfl (by decide) rfl (fun ls hl => ?_)
          refine lv_goto (tgt := 3) hx hb dX3_shift_108 (by decide) ?_
          exact ih (v4 + 1) (upd a_t_limbs ((40 * v3) + v4).toNatClampNeg ((((((a_t_limbs ((40 * v1) + (v4 + (v2 / 31))).toNatClampNeg).toInt64) ||| (((a_t_limbs (((40 * v1) + (v4 + (v2 / 31))) + 1).toNatClampNeg).toInt64) <<< ((31 : Int32).toInt64 &&& 63))) >>> ((v2 - v2 / 31 * 31).toInt64 &&& 63)) &&& 2147483647).toInt32)) _ hf _ _ (hP.sub [0, 1, 2, 3] rfl) (hD.sub [0, 1, 2, 3] (by decide) rfl) hS _ (lv_sub hl [4, 5, 6, 7, 0] rfl) he
set_option maxHeartbeats 4000000 in
set_option maxRecDepth 100000 in
theorem c_X_shift (l : Launch) (dC : Nat → ClassId) (dI : Nat → Nat → Nat) (cA : ClassId) (sz : Nat) (q_t : Nat) (q_t_limbs : Nat) (q_t_signs : Nat) (q_t_rows : Nat) (k : Nat) (t_n : Int32) (t_room : Int32) (t_chosen : Int32) (t_chosenSign : Int32) (t_chosenLimbs : Int32) (t_state : Int32) (t_done : Int32) (t_pivots : Int32) (t_odd : Int32) (n_t_limbs : Nat) (a_t_limbs : Nat → Int32) (n_t_signs : Nat) (a_t_signs : Nat → Int32) (n_t_rows : Nat) (a_t_rows : Nat → Int32) (fro : Int32) (by_ : Int32) (tt : Int32) (o : (Nat → Int32)) (hf : f_X_shift k n_t_limbs a_t_limbs fro by_ tt = some o) : Met l yX3_shift wsX3_shift rm_X_shift (c_Pre (dC, dI) vwCl [(cA, .int)] [(q_t, .inr (3, [.int t_n, .int t_room, .ref q_t_limbs, .ref q_t_signs, .ref q_t_rows, .int t_chosen, .int t_chosenSign, .int t_chosenLimbs, .int t_state, .int t_done, .int t_pivots, .int t_odd])), (q_t_limbs, .inl (cA, n_t_limbs, .inl a_t_limbs)), (q_t_signs, .inl (cA, n_t_signs, .inl a_t_signs)), (q_t_rows, .inl (cA, n_t_rows, .inl a_t_rows))] sz [.ref q_t, .int fro, .int by_, .int tt]) (c_Qv (dC, dI) vwCl [(cA, .int)] [(q_t, .inr (3, [.int t_n, .int t_room, .ref q_t_limbs, .ref q_t_signs, .ref q_t_rows, .int t_chosen, .int t_chosenSign, .int t_chosenLimbs, .int t_state, .int t_done, .int t_pivots, .int t_odd])), (q_t_limbs, .inl (cA, n_t_limbs, .inl o)), (q_t_signs, .inl (cA, n_t_signs, .inl a_t_signs)), (q_t_rows, .inl (cA, n_t_rows, .inl a_t_rows))] (va_A [(q_t, .inr (3, [.int t_n, .int t_room, .ref q_t_limbs, .ref q_t_signs, .ref q_t_rows, .int t_chosen, .int t_chosenSign, .int t_chosenLimbs, .int t_state, .int t_done, .int t_pivots, .int t_odd])), (q_t_limbs, .inl (cA, n_t_limbs, .inl a_t_limbs)), (q_t_signs, .inl (cA, n_t_signs, .inl a_t_signs)), (q_t_rows, .inl (cA, n_t_rows, .inl a_t_rows))] sz)) 0 0 (va_A [(q_t, .inr (3, [.int t_n, .int t_room, .ref q_t_limbs, .ref q_t_signs, .ref q_t_rows, .int t_chosen, .int t_chosenSign, .int t_chosenLimbs, .int t_state, .int t_done, .int t_pivots, .int t_odd])), (q_t_limbs, .inl (cA, n_t_limbs, .inl a_t_limbs)), (q_t_signs, .inl (cA, n_t_signs, .inl a_t_signs)), (q_t_rows, .inl (cA, n_t_rows, .inl a_t_rows))] sz) := by
  unfold f_X_shift at hf
  refine k_ent (Qc := fun A => c_Qv (dC, dI) vwCl [(cA, .int)] [(q_t, .inr (3, [.int t_n, .int t_room, .ref q_t_limbs, .ref q_t_signs, .ref q_t_rows, .int t_chosen, .int t_chosenSign, .int t_chosenLimbs, .int t_state, .int t_done, .int t_pivots, .int t_odd])), (q_t_limbs, .inl (cA, n_t_limbs, .inl o)), (q_t_signs, .inl (cA, n_t_signs, .inl a_t_signs)), (q_t_rows, .inl (cA, n_t_rows, .inl a_t_rows))] A) (by decide) rfl (Nat.le_of_ble_eq_true rfl) ?_
  intro p e s m below meth c A hx hb hr hown hts hml hlocks hin hsz hA hK H locs hP hD hS ls hl
  have hown : s.vm.findClass RX3 = some m.cls := hown
  have hl : lv_has ls 10 [(0, .ref q_t), (1, .int fro), (2, .int by_), (3, .int tt)] := hl
  refine lv_iconst (v := 0) hx hb dX3_shift_0 (by decide) ?_
  refine lv_istore (lv' := [(4, .int 0), (0, .ref q_t), (1, .int fro), (2, .int by_), (3, .int tt)]) hx hb dX3_shift_1 hl (by decide) rfl (fun ls hl => ?_)
  obtain ⟨x34, g35, hf⟩ := og_b hf
  refine w_X_shift_L3 hx hb hown hts hml hA hK k q_t q_t_limbs q_t_signs q_t_rows fro by_ tt t_n t_room t_chosen t_chosenSign t_chosenLimbs t_state t_done t_pivots t_odd n_t_limbs n_t_signs a_t_signs n_t_rows a_t_rows k (0 : Int32) a_t_limbs _ g35 _ _ (hP.sub [0, 1, 2, 3] rfl) (hD.sub [0, 1, 2, 3] (by decide) rfl) hS _ (lv_sub hl [1, 2, 3, 4, 0] rfl) ?_
  intro H locs hP hD hS ls hl
  have e9 := Option.some.inj hf
  subst e9
  exact kr_v hx hb hr hlocks hK hS (hP.sub [0, 1, 2, 3] rfl) (hD.sub [0, 1, 2, 3] (by decide) rfl) dX3_shift_111
def rm_X_divide : Room := { frames := 1, cells := 0, slots := 0, locals := 29 }
theorem kw_X_divide_0 : (.fieldLink RX3 13 "MinorStepsModel" "signs" "[I" : Cond) ∈ wsX3_divide := by decide +kernel
theorem kw_X_divide_1 : (.fieldLink RX3 7 "MinorStepsModel" "limbs" "[I" : Cond) ∈ wsX3_divide := by decide +kernel
theorem kw_X_divide_2 : (.constantLong RX3 83 2 : Cond) ∈ wsX3_divide := by decide +kernel
theorem kw_X_divide_3 : (.constantLong RX3 67 2147483647 : Cond) ∈ wsX3_divide := by decide +kernel
theorem ki_X_divide_X3 : ∀ w ∈ u_ws RX3 TX3 12, w ∈ wsX3_divide := by decide +kernel
set_option maxHeartbeats 4000000 in
set_option maxRecDepth 100000 in
theorem w_X_divide_L56 {p : Program} {l : Launch} {e : Env} {s : State} {m : MethodId} {args : Array Value} {below : List Frame} {meth : Method} {c : Code} {Q : State → Prop} {A : Nat → Prop} {H0 : Heap} {dC : Nat → ClassId} {dI : Nat → Nat → Nat} {cA : ClassId} (hx : p.tables.exec = Jvm.exec) (hb : c.code = cX3_divide) (hown : s.vm.findClass RX3 = some m.cls) (hts : ∀ w ∈ wsX3_divide, w.before args s = true) (hml : c.maxLocals = 17) (hA : ∀ q, H0.size ≤ q → A q) (hK : va_K (dC, dI) vwCl [(cA, .int)] s) (k : Nat) (q_t : Nat) (q_t_limbs : Nat) (q_t_signs : Nat) (q_t_rows : Nat) (v1 : Int32) (v3 : Int64) (i0_t : Int32) (i1_t : Int32) (i5_t : Int32) (i6_t : Int32) (i7_t : Int32) (i8_t : Int32) (i9_t : Int32) (i10_t : Int32) (i11_t : Int32) (n_t_limbs : Nat) (a_t_limbs : Nat → Int32) (n_t_signs : Nat) (a_t_signs : Nat → Int32) (n_t_rows : Nat) (a_t_rows : Nat → Int32) : ∀ (j : Nat) (v5 : Int64) (v7 : Int32) (o : Int64 × Int32), f_X_divide_L56 k v3 j v5 v7 = some o → ∀ (H : Heap) (locs : List Loc), va_P (dC, dI) vwCl [(q_t, .inr (3, [.int i0_t, .int i1_t, .ref q_t_limbs, .ref q_t_signs, .ref q_t_rows, .int i5_t, .int i6_t, .int i7_t, .int i8_t, .int i9_t, .int i10_t, .int i11_t])), (q_t_limbs, .inl (cA, n_t_limbs, .inl a_t_limbs)), (q_t_signs, .inl (cA, n_t_signs, .inl a_t_signs)), (q_t_rows, .inl (cA, n_t_rows, .inl a_t_rows))] H → va_D A [(q_t, .inr (3, [.int i0_t, .int i1_t, .ref q_t_limbs, .ref q_t_signs, .ref q_t_rows, .int i5_t, .int i6_t, .int i7_t, .int i8_t, .int i9_t, .int i10_t, .int i11_t])), (q_t_limbs, .inl (cA, n_t_limbs, .inl a_t_limbs)), (q_t_signs, .inl (cA, n_t_signs, .inl a_t_signs)), (q_t_rows, .inl (cA, n_t_rows, .inl a_t_rows))] → va_S A H0 H locs → ∀ ls : Array Slot, lv_has ls 17 [(0, .ref q_t), (1, .int v1), (3, .long v3), (5, .long v5), (7, .int v7)] → ∀ (he : ∀ (H : Heap) (locs : List Loc), va_P (dC, dI) vwCl [(q_t, .inr (3, [.int i0_t, .int i1_t, .ref q_t_limbs, .ref q_t_signs, .ref q_t_rows, .int i5_t, .int i6_t, .int i7_t, .int i8_t, .int i9_t, .int i10_t, .int i11_t])), (q_t_limbs, .inl (cA, n_t_limbs, .inl a_t_limbs)), (q_t_signs, .inl (cA, n_t_signs, .inl a_t_signs)), (q_t_rows, .inl (cA, n_t_rows, .inl a_t_rows))] H → va_D A [(q_t, .inr (3, [.int i0_t, .int i1_t, .ref q_t_limbs, .ref q_t_signs, .ref q_t_rows, .int i5_t, .int i6_t, .int i7_t, .int i8_t, .int i9_t, .int i10_t, .int i11_t])), (q_t_limbs, .inl (cA, n_t_limbs, .inl a_t_limbs)), (q_t_signs, .inl (cA, n_t_signs, .inl a_t_signs)), (q_t_rows, .inl (cA, n_t_rows, .inl a_t_rows))] → va_S A H0 H locs → ∀ ls : Array Slot, lv_has ls 17 [(0, .ref q_t), (1, .int v1), (5, .long o.1)] → W p l e rm_X_divide s m args below meth c H locs 0 0 Q (F0 m 89 ls [])), W p l e rm_X_divide s m args below meth c H locs 0 0 Q (F0 m 56 ls []) := by
  intro j
  induction j with
  | zero =>
    intro v5 v7 o hf
    rw [f_X_divide_L56] at hf
    cases hf
  | succ j ih =>
    intro v5 v7 o hf H locs hP hD hS ls hl he
    rw [f_X_divide_L56] at hf
    refine lv_iload hx hb dX3_divide_56 (lv_at hl 4 rfl) ?_
    refine lv_iconst (v := 5) hx hb dX3_divide_58 (by decide) ?_
    refine lv_icmp_ge (tgt := 89) hx hb dX3_divide_59 (by decide) (fun c14 => ?_) (fun c14 => ?_)
    · have hf := og_t c14 hf
      have e9 := Option.some.inj hf
      subst e9
      exact he _ _ (hP.sub [0, 1, 2, 3] rfl) (hD.sub [0, 1, 2, 3] (by decide) rfl) hS _ (lv_sub hl [0, 1, 3] rfl)
    · have hf := og_f c14 hf
      refine lv_lload hx hb dX3_divide_62 (lv_at hl 3 rfl) ?_
      refine lv_ldc2 (v := 2) hx hb hown (hts (.constantLong RX3 83 2) kw_X_divide_2) dX3_divide_64 ?_
      refine lv_lload_n hx hb dX3_divide_67 rfl (lv_at hl 2 rfl) ?_
      refine lv_lload hx hb dX3_divide_68 (lv_at hl 3 rfl) ?_
      refine lv_lmul hx hb dX3_divide_70 ?_
      refine lv_lsub hx hb dX3_divide_71 ?_
      refine lv_ldc2 (v := 2147483647) hx hb hown (hts (.constantLong RX3 67 2147483647) kw_X_divide_3) dX3_divide_72 ?_
      refine lv_land hx hb dX3_divide_75 ?_
      refine lv_lmul hx hb dX3_divide_76 ?_
      refine lv_ldc2 (v := 2147483647) hx hb hown (hts (.constantLong RX3 67 2147483647) kw_X_divide_3) dX3_divide_77 ?_
      refine lv_land hx hb dX3_divide_80 ?_
      refine lv_lstore (lv' := [(5, .long ((v5 * ((2 - (v3 * v5)) &&& 2147483647)) &&& 2147483647)), (0, .ref q_t), (1, .int v1), (3, .long v3), (7, .int v7)]) hx hb dX3_divide_81 hl (by decide) rfl (fun ls hl => ?_)
      refine lv_iinc (v := v7 + 1) (lv' := [(7, .int (v7 + 1)), (5, .long ((v5 * ((2 - (v3 * v5)) &&& 2147483647)) &&& 2147483647)), (0, .ref q_t), (1, .int v1), (3, .long v3)]) hx hb dX3_divide_83 hl (k := 4) rfl rfl (by decide) rfl (fun ls hl => ?_)
      refine lv_goto (tgt := 56) hx hb dX3_divide_86 (by decide) ?_
      exact ih ((v5 * ((2 - (v3 * v5)) &&& 2147483647)) &&& 2147483647) (v7 + 1) _ hf _ _ (hP.sub [0, 1, 2, 3] rfl) (hD.sub [0, 1, 2, 3] (by decide) rfl) hS _ (lv_sub hl [2, 3, 4, 1, 0] rfl) he
set_option maxHeartbeats 4000000 in
set_option maxRecDepth 100000 in
theorem w_X_divide_L140 {p : Program} {l : Launch} {e : Env} {s : State} {m : MethodId} {args : Array Value} {below : List Frame} {meth : Method} {c : Code} {Q : State → Prop} {A : Nat → Prop} {H0 : Heap} {dC : Nat → ClassId} {dI : Nat → Nat → Nat} {cA : ClassId} (hx : p.tables.exec = Jvm.exec) (hb : c.code = cX3_divide) (hown : s.vm.findClass RX3 = some m.cls) (hts : ∀ w ∈ wsX3_divide, w.before args s = true) (hml : c.maxLocals = 17) (hA : ∀ q, H0.size ≤ q → A q) (hK : va_K (dC, dI) vwCl [(cA, .int)] s) (k : Nat) (q_t : Nat) (q_t_limbs : Nat) (q_t_signs : Nat) (q_t_rows : Nat) (v1 : Int32) (v5 : Int64) (v7 : Int32) (v8 : Int64) (i0_t : Int32) (i1_t : Int32) (i5_t : Int32) (i6_t : Int32) (i7_t : Int32) (i8_t : Int32) (i9_t : Int32) (i10_t : Int32) (i11_t : Int32) (n_t_limbs : Nat) (n_t_signs : Nat) (a_t_signs : Nat → Int32) (n_t_rows : Nat) (a_t_rows : Nat → Int32) : ∀ (j : Nat) (v10 : Int64) (v12 : Int32) (a_t_limbs : Nat → Int32) (o : Int64 × Int32 × (Nat → Int32)), f_X_divide_L140 k v7 v8 n_t_limbs j v10 v12 a_t_limbs = some o → ∀ (H : Heap) (locs : List Loc), va_P (dC, dI) vwCl [(q_t, .inr (3, [.int i0_t, .int i1_t, .ref q_t_limbs, .ref q_t_signs, .ref q_t_rows, .int i5_t, .int i6_t, .int i7_t, .int i8_t, .int i9_t, .int i10_t, .int i11_t])), (q_t_limbs, .inl (cA, n_t_limbs, .inl a_t_limbs)), (q_t_signs, .inl (cA, n_t_signs, .inl a_t_signs)), (q_t_rows, .inl (cA, n_t_rows, .inl a_t_rows))] H → va_D A [(q_t, .inr (3, [.int i0_t, .int i1_t, .ref q_t_limbs, .ref q_t_signs, .ref q_t_rows, .int i5_t, .int i6_t, .int i7_t, .int i8_t, .int i9_t, .int i10_t, .int i11_t])), (q_t_limbs, .inl (cA, n_t_limbs, .inl a_t_limbs)), (q_t_signs, .inl (cA, n_t_signs, .inl a_t_signs)), (q_t_rows, .inl (cA, n_t_rows, .inl a_t_rows))] → va_S A H0 H locs → ∀ ls : Array Slot, lv_has ls 17 [(0, .ref q_t), (1, .int v1), (5, .long v5), (7, .int v7), (8, .long v8), (10, .long v10), (12, .int v12)] → ∀ (he : ∀ (H : Heap) (locs : List Loc), va_P (dC, dI) vwCl [(q_t, .inr (3, [.int i0_t, .int i1_t, .ref q_t_limbs, .ref q_t_signs, .ref q_t_rows, .int i5_t, .int i6_t, .int i7_t, .int i8_t, .int i9_t, .int i10_t, .int i11_t])), (q_t_limbs, .inl (cA, n_t_limbs, .inl o.2.2)), (q_t_signs, .inl (cA, n_t_signs, .inl a_t_signs)), (q_t_rows, .inl (cA, n_t_rows, .inl a_t_rows))] H → va_D A [(q_t, .inr (3, [.int i0_t, .int i1_t, .ref q_t_limbs, .ref q_t_signs, .ref q_t_rows, .int i5_t, .int i6_t, .int i7_t, .int i8_t, .int i9_t, .int i10_t, .int i11_t])), (q_t_limbs, .inl (cA, n_t_limbs, .inl o.2.2)), (q_t_signs, .inl (cA, n_t_signs, .inl a_t_signs)), (q_t_rows, .inl (cA, n_t_rows, .inl a_t_rows))] → va_S A H0 H locs → ∀ ls : Array Slot, lv_has ls 17 [(0, .ref q_t), (1, .int v1), (5, .long v5), (7, .int v7)] → W p l e rm_X_divide s m args below meth c H locs 0 0 Q (F0 m 241 ls [])), W p l e rm_X_divide s m args below meth c H locs 0 0 Q (F0 m 140 ls []) := by
  intro j
  induction j with
  | zero =>
    intro v10 v12 a_t_limbs o hf
    rw [f_X_divide_L140] at hf
    cases hf
  | succ j ih =>
    intro v10 v12 a_t_limbs o hf H locs hP hD hS ls hl he
    rw [f_X_divide_L140] at hf
    refine lv_iload hx hb dX3_divide_140 (lv_at hl 3 rfl) ?_
    refine lv_iload hx hb dX3_divide_142 (lv_at hl 6 rfl) ?_
    refine lv_iadd hx hb dX3_divide_144 ?_
    refine lv_bipush (v := 40) hx hb dX3_divide_145 (by decide) ?_
    refine lv_icmp_ge (tgt := 241) hx hb dX3_divide_147 (by decide) (fun c50 => ?_) (fun c50 => ?_)
    · have hf := og_t c50 hf
      have e9 := Option.some.inj hf
      subst e9
      exact he _ _ (hP.sub [0, 1, 2, 3] rfl) (hD.sub [0, 1, 2, 3] (by decide) rfl) hS _ (lv_sub hl [0, 1, 2, 3] rfl)
    · have hf := og_f c50 hf
      refine lv_lload hx hb dX3_divide_150 (lv_at hl 4 rfl) ?_
      refine lv_aload_n hx hb dX3_divide_152 rfl (lv_at hl 0 rfl) ?_
      refine va_get (D := (dC, dI)) (ci := 3) (v := .ref q_t_limbs) (C := RX3) (T := TX3) (N := 12) hx hb hts ki_X_divide_X3 hown hK hP 0 rfl rfl 2 (by decide) (hts (.fieldLink RX3 7 "MinorStepsModel" "limbs" "[I") kw_X_divide_1) (fun _ h9 => h9) rfl dX3_divide_153 ?_
      refine lv_sipush (v := 2040) hx hb dX3_divide_156 (by decide) ?_
      refine lv_iload hx hb dX3_divide_159 (lv_at hl 6 rfl) ?_
      refine lv_iadd hx hb dX3_divide_161 ?_
      obtain ⟨g51, hf⟩ := og_c hf
      refine va_iald hx hb hK hP 1 0 rfl rfl (og_in g51) dX3_divide_162 ?_
      refine lv_i2l (v := (a_t_limbs (2040 + v12).toNatClampNeg).toInt64) hx hb dX3_divide_163 rfl ?_
      refine lv_lmul hx hb dX3_divide_164 ?_
      refine lv_lload hx hb dX3_divide_165 (lv_at hl 5 rfl) ?_
      refine lv_ladd hx hb dX3_divide_167 ?_
      refine lv_lstore (lv' := [(13, .long ((v8 * ((a_t_limbs (2040 + v12).toNatClampNeg).toInt64)) + v10)), (0, .ref q_t), (1, .int v1), (5, .long v5), (7, .int v7), (8, .long v8), (10, .long v10), (12, .int v12)]) hx hb dX3_divide_168 hl (by decide) rfl (fun ls hl => ?_)
      refine lv_aload_n hx hb dX3_divide_170 rfl (lv_at hl 1 rfl) ?_
      refine va_get (D := (dC, dI)) (ci := 3) (v := .ref q_t_limbs) (C := RX3) (T := TX3) (N := 12) hx hb hts ki_X_divide_X3 hown hK hP 0 rfl rfl 2 (by decide) (hts (.fieldLink RX3 7 "MinorStepsModel" "limbs" "[I") kw_X_divide_1) (fun _ h9 => h9) rfl dX3_divide_171 ?_
      refine lv_sipush (v := 2000) hx hb dX3_divide_174 (by decide) ?_
      refine lv_iload hx hb dX3_divide_177 (lv_at hl 4 rfl) ?_
      refine lv_iadd hx hb dX3_divide_179 ?_
      refine lv_iload hx hb dX3_divide_180 (lv_at hl 7 rfl) ?_
      refine lv_iadd hx hb dX3_divide_182 ?_
      obtain ⟨g52, hf⟩ := og_c hf
      refine va_iald hx hb hK hP 1 0 rfl rfl (og_in g52) dX3_divide_183 ?_
      refine lv_i2l (v := (a_t_limbs ((2000 + v7) + v12).toNatClampNeg).toInt64) hx hb dX3_divide_184 rfl ?_
      refine lv_lload hx hb dX3_divide_185 (lv_at hl 0 rfl) ?_
      refine lv_ldc2 (v := 2147483647) hx hb hown (hts (.constantLong RX3 67 2147483647) kw_X_divide_3) dX3_divide_187 ?_
      refine lv_land hx hb dX3_divide_190 ?_
      refine lv_lsub hx hb dX3_divide_191 ?_
      refine lv_lstore (lv' := [(15, .long (((a_t_limbs ((2000 + v7) + v12).toNatClampNeg).toInt64) - (((v8 * ((a_t_limbs (2040 + v12).toNatClampNeg).toInt64)) + v10) &&& 2147483647))), (13, .long ((v8 * ((a_t_limbs (2040 + v12).toNatClampNeg).toInt64)) + v10)), (0, .ref q_t), (1, .int v1), (5, .long v5), (7, .int v7), (8, .long v8), (10, .long v10), (12, .int v12)]) hx hb dX3_divide_192 hl (by decide) rfl (fun ls hl => ?_)
      refine lv_aload_n hx hb dX3_divide_194 rfl (lv_at hl 2 rfl) ?_
      refine va_get (D := (dC, dI)) (ci := 3) (v := .ref q_t_limbs) (C := RX3) (T := TX3) (N := 12) hx hb hts ki_X_divide_X3 hown hK hP 0 rfl rfl 2 (by decide) (hts (.fieldLink RX3 7 "MinorStepsModel" "limbs" "[I") kw_X_divide_1) (fun _ h9 => h9) rfl dX3_divide_195 ?_
      refine lv_sipush (v := 2000) hx hb dX3_divide_198 (by decide) ?_
      refine lv_iload hx hb dX3_divide_201 (lv_at hl 5 rfl) ?_
      refine lv_iadd hx hb dX3_divide_203 ?_
      refine lv_iload hx hb dX3_divide_204 (lv_at hl 8 rfl) ?_
      refine lv_iadd hx hb dX3_divide_206 ?_
      refine lv_lload hx hb dX3_divide_207 (lv_at hl 0 rfl) ?_
      refine lv_ldc2 (v := 2147483647) hx hb hown (hts (.constantLong RX3 67 2147483647) kw_X_divide_3) dX3_divide_209 ?_
      refine lv_land hx hb dX3_divide_212 ?_
      refine lv_l2i (v := ((((a_t_limbs ((2000 + v7) + v12).toNatClampNeg).toInt64) - (((v8 * ((a_t_limbs (2040 + v12).toNatClampNeg).toInt64)) + v10) &&& 2147483647)) &&& 2147483647).toInt32) hx hb dX3_divide_213 rfl ?_
      obtain ⟨g53, hf⟩ := og_c hf
      refine va_iast hx hb hK hP hD hS 1 0 rfl rfl (og_in g53) dX3_divide_214 (fun H locs hP hD hS => ?_)
      have hP : va_P (dC, dI) vwCl [(q_t, .inr (3, [.int i0_t, .int i1_t, .ref q_t_limbs, .ref q_t_signs, .ref q_t_rows, .int i5_t, .int i6_t, .int i7_t, .int i8_t, .int i9_t, .int i10_t, .int i11_t])), (q_t_limbs, .inl (cA, n_t_limbs, .inl (upd a_t_limbs ((2000 + v7) + v12).toNatClampNeg (((((a_t_limbs ((2000 + v7) + v12).toNatClampNeg).toInt64) - (((v8 * ((a_t_limbs (2040 + v12).toNatClampNeg).toInt64)) + v10) &&& 2147483647)) &&& 2147483647).toInt32)))), (q_t_signs, .inl (cA, n_t_signs, .inl a_t_signs)), (q_t_rows, .inl (cA, n_t_rows, .inl a_t_rows))] H := hP
      have hD : va_D A [(q_t, .inr (3, [.int i0_t, .int i1_t, .ref q_t_limbs, .ref q_t_signs, .ref q_t_rows, .int i5_t, .int i6_t, .int i7_t, .int i8_t, .int i9_t, .int i10_t, .int i11_t])), (q_t_limbs, .inl (cA, n_t_limbs, .inl (upd a_t_limbs ((2000 + v7) + v12).toNatClampNeg (((((a_t_limbs ((2000 + v7) + v12).toNatClampNeg).toInt64) - (((v8 * ((a_t_limbs (2040 + v12).toNatClampNeg).toInt64)) + v10) &&& 2147483647)) &&& 2147483647).toInt32)))), (q_t_signs, .inl (cA, n_t_signs, .inl a_t_signs)), (q_t_rows, .inl (cA, n_t_rows, .inl a_t_rows))] := hD
      refine lv_lload hx hb dX3_divide_215 (lv_at hl 1 rfl) ?_
      refine lv_bipush (v := 31) hx hb dX3_divide_217 (by decide) ?_
      refine lv_lshr (v := ((v8 * ((a_t_limbs (2040 + v12).toNatClampNeg).toInt64)) + v10) >>> ((31 : Int32).toInt64 &&& 63)) hx hb dX3_divide_219 rfl ?_
      refine lv_lload hx hb dX3_divide_220 (lv_at hl 0 rfl) ?_
      refine lv_lconst (v := 0) hx hb dX3_divide_222 (by decide) ?_
      refine W.lcmp hx hb dX3_divide_223 ?_
      refine lv_if_ge (tgt := 231) hx hb dX3_divide_224 (by decide) (fun c54 => ?_) (fun c54 => ?_)
      · have hf := og_t c54 hf
        refine lv_lconst (v := 0) hx hb dX3_divide_231 (by decide) ?_
        refine lv_ladd hx hb dX3_divide_232 ?_
        refine lv_lstore (lv' := [(10, .long ((((v8 * ((a_t_limbs (2040 + v12).toNatClampNeg).toInt64)) + v10) >>> ((31 : Int32).toInt64 &&& 63)) + 0)), (15, .long (((a_t_limbs ((2000 + v7) + v12).toNatClampNeg).toInt64) - (((v8 * ((a_t_limbs (2040 + v12).toNatClampNeg).toInt64)) + v10) &&& 2147483647))), (13, .long ((v8 * ((a_t_limbs (2040 + v12).toNatClampNeg).toInt64)) + v10)), (0, .ref q_t), (1, .int v1), (5, .long v5), (7, .int v7), (8, .long v8), (12, .int v12)]) hx hb dX3_divide_233 hl (by decide) rfl (fun ls hl => ?_)
        refine lv_iinc (v := v12 + 1) (lv' := [(12, .int (v12 + 1)), (10, .long ((((v8 * ((a_t_limbs (2040 + v12).toNatClampNeg).toInt64)) + v10) >>> ((31 : Int32).toInt64 &&& 63)) + 0)), (15, .long (((a_t_limbs ((2000 + v7) + v12).toNatClampNeg).toInt64) - (((v8 * ((a_t_limbs (2040 + v12).toNatClampNeg).toInt64)) + v10) &&& 2147483647))), (13, .long ((v8 * ((a_t_limbs (2040 + v12).toNatClampNeg).toInt64)) + v10)), (0, .ref q_t), (1, .int v1), (5, .long v5), (7, .int v7), (8, .long v8)]) hx hb dX3_divide_235 hl (k := 8) rfl rfl (by decide) rfl (fun ls hl => ?_)
        refine lv_goto (tgt := 140) hx hb dX3_divide_238 (by decide) ?_
        exact ih ((((v8 * ((a_t_limbs (2040 + v12).toNatClampNeg).toInt64)) + v10) >>> ((31 : Int32).toInt64 &&& 63)) + 0) (v12 + 1) (upd a_t_limbs ((2000 + v7) + v12).toNatClampNeg (((((a_t_limbs ((2000 + v7) + v12).toNatClampNeg).toInt64) - (((v8 * ((a_t_limbs (2040 + v12).toNatClampNeg).toInt64)) + v10) &&& 2147483647)) &&& 2147483647).toInt32)) _ hf _ _ (hP.sub [0, 1, 2, 3] rfl) (hD.sub [0, 1, 2, 3] (by decide) rfl) hS _ (lv_sub hl [4, 5, 6, 7, 8, 1, 0] rfl) he
      · have hf := og_f c54 hf
        refine lv_lconst (v := 1) hx hb dX3_divide_227 (by decide) ?_
        refine lv_goto (tgt := 232) hx hb dX3_divide_228 (by decide) ?_
        refine lv_ladd hx hb dX3_divide_232 ?_
        refine lv_lstore (lv' := [(10, .long ((((v8 * ((a_t_limbs (2040 + v12).toNatClampNeg).toInt64)) + v10) >>> ((31 : Int32).toInt64 &&& 63)) + 1)), (15, .long (((a_t_limbs ((2000 + v7) + v12).toNatClampNeg).toInt64) - (((v8 * ((a_t_limbs (2040 + v12).toNatClampNeg).toInt64)) + v10) &&& 2147483647))), (13, .long ((v8 * ((a_t_limbs (2040 + v12).toNatClampNeg).toInt64)) + v10)), (0, .ref q_t), (1, .int v1), (5, .long v5), (7, .int v7), (8, .long v8), (12, .int v12)]) hx hb dX3_divide_233 hl (by decide) rfl (fun ls hl => ?_)
        refine lv_iinc (v := v12 + 1) (lv' := [(12, .int (v12 + 1)), (10, .long ((((v8 * ((a_t_limbs (2040 + v12).toNatClampNeg).toInt64)) + v10) >>> ((31 : Int32).toInt64 &&& 63)) + 1)), (15, .long (((a_t_limbs ((2000 + v7) + v12).toNatClampNeg).toInt64) - (((v8 * ((a_t_limbs (2040 + v12).toNatClampNeg).toInt64)) + v10) &&& 2147483647))), (13, .long ((v8 * ((a_t_limbs (2040 + v12).toNatClampNeg).toInt64)) + v10)), (0, .ref q_t), (1, .int v1), (5, .long v5), (7, .int v7), (8, .long v8)]) hx hb dX3_divide_235 hl (k := 8) rfl rfl (by decide) rfl (fun ls hl => ?_)
        refine lv_goto (tgt := 140) hx hb dX3_divide_238 (by decide) ?_
        exact ih ((((v8 * ((a_t_limbs (2040 + v12).toNatClampNeg).toInt64)) + v10) >>> ((31 : Int32).toInt64 &&& 63)) + 1) (v12 + 1) (upd a_t_limbs ((2000 + v7) + v12).toNatClampNeg (((((a_t_limbs ((2000 + v7) + v12).toNatClampNeg).toInt64) - (((v8 * ((a_t_limbs (2040 + v12).toNatClampNeg).toInt64)) + v10) &&& 2147483647)) &&& 2147483647).toInt32)) _ hf _ _ (hP.sub [0, 1, 2, 3] rfl) (hD.sub [0, 1, 2, 3] (by decide) rfl) hS _ (lv_sub hl [4, 5, 6, 7, 8, 1, 0] rfl) he
set_option maxHeartbeats 4000000 in
set_option maxRecDepth 100000 in
theorem w_X_divide_L92 {p : Program} {l : Launch} {e : Env} {s : State} {m : MethodId} {args : Array Value} {below : List Frame} {meth : Method} {c : Code} {Q : State → Prop} {A : Nat → Prop} {H0 : Heap} {dC : Nat → ClassId} {dI : Nat → Nat → Nat} {cA : ClassId} (hx : p.tables.exec = Jvm.exec) (hb : c.code = cX3_divide) (hown : s.vm.findClass RX3 = some m.cls) (hts : ∀ w ∈ wsX3_divide, w.before args s = true) (hml : c.maxLocals = 17) (hA : ∀ q, H0.size ≤ q → A q) (hK : va_K (dC, dI) vwCl [(cA, .int)] s) (k : Nat) (q_t : Nat) (q_t_limbs : Nat) (q_t_signs : Nat) (q_t_rows : Nat) (v1 : Int32) (v5 : Int64) (i0_t : Int32) (i1_t : Int32) (i5_t : Int32) (i6_t : Int32) (i7_t : Int32) (i8_t : Int32) (i9_t : Int32) (i10_t : Int32) (i11_t : Int32) (n_t_limbs : Nat) (n_t_signs : Nat) (a_t_signs : Nat → Int32) (n_t_rows : Nat) (a_t_rows : Nat → Int32) : ∀ (j : Nat) (v7 : Int32) (a_t_limbs : Nat → Int32) (o : Int32 × (Nat → Int32)), f_X_divide_L92 k v5 n_t_limbs j v7 a_t_limbs = some o → ∀ (H : Heap) (locs : List Loc), va_P (dC, dI) vwCl [(q_t, .inr (3, [.int i0_t, .int i1_t, .ref q_t_limbs, .ref q_t_signs, .ref q_t_rows, .int i5_t, .int i6_t, .int i7_t, .int i8_t, .int i9_t, .int i10_t, .int i11_t])), (q_t_limbs, .inl (cA, n_t_limbs, .inl a_t_limbs)), (q_t_signs, .inl (cA, n_t_signs, .inl a_t_signs)), (q_t_rows, .inl (cA, n_t_rows, .inl a_t_rows))] H → va_D A [(q_t, .inr (3, [.int i0_t, .int i1_t, .ref q_t_limbs, .ref q_t_signs, .ref q_t_rows, .int i5_t, .int i6_t, .int i7_t, .int i8_t, .int i9_t, .int i10_t, .int i11_t])), (q_t_limbs, .inl (cA, n_t_limbs, .inl a_t_limbs)), (q_t_signs, .inl (cA, n_t_signs, .inl a_t_signs)), (q_t_rows, .inl (cA, n_t_rows, .inl a_t_rows))] → va_S A H0 H locs → ∀ ls : Array Slot, lv_has ls 17 [(0, .ref q_t), (1, .int v1), (5, .long v5), (7, .int v7)] → ∀ (he : ∀ (H : Heap) (locs : List Loc), va_P (dC, dI) vwCl [(q_t, .inr (3, [.int i0_t, .int i1_t, .ref q_t_limbs, .ref q_t_signs, .ref q_t_rows, .int i5_t, .int i6_t, .int i7_t, .int i8_t, .int i9_t, .int i10_t, .int i11_t])), (q_t_limbs, .inl (cA, n_t_limbs, .inl o.2)), (q_t_signs, .inl (cA, n_t_signs, .inl a_t_signs)), (q_t_rows, .inl (cA, n_t_rows, .inl a_t_rows))] H → va_D A [(q_t, .inr (3, [.int i0_t, .int i1_t, .ref q_t_limbs, .ref q_t_signs, .ref q_t_rows, .int i5_t, .int i6_t, .int i7_t, .int i8_t, .int i9_t, .int i10_t, .int i11_t])), (q_t_limbs, .inl (cA, n_t_limbs, .inl o.2)), (q_t_signs, .inl (cA, n_t_signs, .inl a_t_signs)), (q_t_rows, .inl (cA, n_t_rows, .inl a_t_rows))] → va_S A H0 H locs → ∀ ls : Array Slot, lv_has ls 17 [(0, .ref q_t), (1, .int v1)] → W p l e rm_X_divide s m args below meth c H locs 0 0 Q (F0 m 247 ls [])), W p l e rm_X_divide s m args below meth c H locs 0 0 Q (F0 m 92 ls []) := by
  intro j
  induction j with
  | zero =>
    intro v7 a_t_limbs o hf
    rw [f_X_divide_L92] at hf
    cases hf
  | succ j ih =>
    intro v7 a_t_limbs o hf H locs hP hD hS ls hl he
    rw [f_X_divide_L92] at hf
    refine lv_iload hx hb dX3_divide_92 (lv_at hl 3 rfl) ?_
    refine lv_bipush (v := 40) hx hb dX3_divide_94 (by decide) ?_
    refine lv_icmp_ge (tgt := 247) hx hb dX3_divide_96 (by decide) (fun c57 => ?_) (fun c57 => ?_)
    · have hf := og_t c57 hf
      have e9 := Option.some.inj hf
      subst e9
      exact he _ _ (hP.sub [0, 1, 2, 3] rfl) (hD.sub [0, 1, 2, 3] (by decide) rfl) hS _ (lv_sub hl [0, 1] rfl)
    · have hf := og_f c57 hf
      refine lv_aload_n hx hb dX3_divide_99 rfl (lv_at hl 0 rfl) ?_
      refine va_get (D := (dC, dI)) (ci := 3) (v := .ref q_t_limbs) (C := RX3) (T := TX3) (N := 12) hx hb hts ki_X_divide_X3 hown hK hP 0 rfl rfl 2 (by decide) (hts (.fieldLink RX3 7 "MinorStepsModel" "limbs" "[I") kw_X_divide_1) (fun _ h9 => h9) rfl dX3_divide_100 ?_
      refine lv_sipush (v := 2000) hx hb dX3_divide_103 (by decide) ?_
      refine lv_iload hx hb dX3_divide_106 (lv_at hl 3 rfl) ?_
      refine lv_iadd hx hb dX3_divide_108 ?_
      obtain ⟨g58, hf⟩ := og_c hf
      refine va_iald hx hb hK hP 1 0 rfl rfl (og_in g58) dX3_divide_109 ?_
      refine lv_i2l (v := (a_t_limbs (2000 + v7).toNatClampNeg).toInt64) hx hb dX3_divide_110 rfl ?_
      refine lv_lload hx hb dX3_divide_111 (lv_at hl 2 rfl) ?_
      refine lv_lmul hx hb dX3_divide_113 ?_
      refine lv_ldc2 (v := 2147483647) hx hb hown (hts (.constantLong RX3 67 2147483647) kw_X_divide_3) dX3_divide_114 ?_
      refine lv_land hx hb dX3_divide_117 ?_
      refine lv_lstore (lv' := [(8, .long ((((a_t_limbs (2000 + v7).toNatClampNeg).toInt64) * v5) &&& 2147483647)), (0, .ref q_t), (1, .int v1), (5, .long v5), (7, .int v7)]) hx hb dX3_divide_118 hl (by decide) rfl (fun ls hl => ?_)
      refine lv_aload_n hx hb dX3_divide_120 rfl (lv_at hl 1 rfl) ?_
      refine va_get (D := (dC, dI)) (ci := 3) (v := .ref q_t_limbs) (C := RX3) (T := TX3) (N := 12) hx hb hts ki_X_divide_X3 hown hK hP 0 rfl rfl 2 (by decide) (hts (.fieldLink RX3 7 "MinorStepsModel" "limbs" "[I") kw_X_divide_1) (fun _ h9 => h9) rfl dX3_divide_121 ?_
      refine lv_sipush (v := 2080) hx hb dX3_divide_124 (by decide) ?_
      refine lv_iload hx hb dX3_divide_127 (lv_at hl 4 rfl) ?_
      refine lv_iadd hx hb dX3_divide_129 ?_
      refine lv_lload hx hb dX3_divide_130 (lv_at hl 0 rfl) ?_
      refine lv_l2i (v := ((((a_t_limbs (2000 + v7).toNatClampNeg).toInt64) * v5) &&& 2147483647).toInt32) hx hb dX3_divide_132 rfl ?_
      obtain ⟨g59, hf⟩ := og_c hf
      refine va_iast hx hb hK hP hD hS 1 0 rfl rfl (og_in g59) dX3_divide_133 (fun H locs hP hD hS => ?_)
      have hP : va_P (dC, dI) vwCl [(q_t, .inr (3, [.int i0_t, .int i1_t, .ref q_t_limbs, .ref q_t_signs, .ref q_t_rows, .int i5_t, .int i6_t, .int i7_t, .int i8_t, .int i9_t, .int i10_t, .int i11_t])), (q_t_limbs, .inl (cA, n_t_limbs, .inl (upd a_t_limbs (2080 + v7).toNatClampNeg (((((a_t_limbs (2000 + v7).toNatClampNeg).toInt64) * v5) &&& 2147483647).toInt32)))), (q_t_signs, .inl (cA, n_t_signs, .inl a_t_signs)), (q_t_rows, .inl (cA, n_t_rows, .inl a_t_rows))] H := hP
      have hD : va_D A [(q_t, .inr (3, [.int i0_t, .int i1_t, .ref q_t_limbs, .ref q_t_signs, .ref q_t_rows, .int i5_t, .int i6_t, .int i7_t, .int i8_t, .int i9_t, .int i10_t, .int i11_t])), (q_t_limbs, .inl (cA, n_t_limbs, .inl (upd a_t_limbs (2080 + v7).toNatClampNeg (((((a_t_limbs (2000 + v7).toNatClampNeg).toInt64) * v5) &&& 2147483647).toInt32)))), (q_t_signs, .inl (cA, n_t_signs, .inl a_t_signs)), (q_t_rows, .inl (cA, n_t_rows, .inl a_t_rows))] := hD
      refine lv_lconst (v := 0) hx hb dX3_divide_134 (by decide) ?_
      refine lv_lstore (lv' := [(10, .long 0), (8, .long ((((a_t_limbs (2000 + v7).toNatClampNeg).toInt64) * v5) &&& 2147483647)), (0, .ref q_t), (1, .int v1), (5, .long v5), (7, .int v7)]) hx hb dX3_divide_135 hl (by decide) rfl (fun ls hl => ?_)
      refine lv_iconst (v := 0) hx hb dX3_divide_137 (by decide) ?_
      refine lv_istore (lv' := [(12, .int 0), (10, .long 0), (8, .long ((((a_t_limbs (2000 + v7).toNatClampNeg).toInt64) * v5) &&& 2147483647)), (0, .ref q_t), (1, .int v1), (5, .long v5), (7, .int v7)]) hx hb dX3_divide_138 hl (by decide) rfl (fun ls hl => ?_)
      obtain ⟨x60, g61, hf⟩ := og_b hf
      refine w_X_divide_L140 hx hb hown hts hml hA hK k q_t q_t_limbs q_t_signs q_t_rows v1 v5 v7 ((((a_t_limbs (2000 + v7).toNatClampNeg).toInt64) * v5) &&& 2147483647) i0_t i1_t i5_t i6_t i7_t i8_t i9_t i10_t i11_t n_t_limbs n_t_signs a_t_signs n_t_rows a_t_rows k (0 : Int64) (0 : Int32) (upd a_t_limbs (2080 + v7).toNatClampNeg (((((a_t_limbs (2000 + v7).toNatClampNeg).toInt64) * v5) &&& 2147483647).toInt32)) _ g61 _ _ (hP.sub [0, 1, 2, 3] rfl) (hD.sub [0, 1, 2, 3] (by decide) rfl) hS _ (lv_sub hl [3, 4, 5, 6, 2, 1, 0] rfl) ?_
      intro H locs hP hD hS ls hl
      refine lv_iinc (v := v7 + 1) (lv' := [(7, .int (v7 + 1)), (0, .ref q_t), (1, .int v1), (5, .long v5)]) hx hb dX3_divide_241 hl (k := 3) rfl rfl (by decide) rfl (fun ls hl => ?_)
      refine lv_goto (tgt := 92) hx hb dX3_divide_244 (by decide) ?_
      exact ih (v7 + 1) x60.2.2 _ hf _ _ (hP.sub [0, 1, 2, 3] rfl) (hD.sub [0, 1, 2, 3] (by decide) rfl) hS _ (lv_sub hl [1, 2, 3, 0] rfl) he
set_option maxHeartbeats 4000000 in
set_option maxRecDepth 100000 in
theorem c_X_divide (l : Launch) (dC : Nat → ClassId) (dI : Nat → Nat → Nat) (cA : ClassId) (sz : Nat) (q_t : Nat) (q_t_limbs : Nat) (q_t_signs : Nat) (q_t_rows : Nat) (k : Nat) (t_n : Int32) (t_room : Int32) (t_chosen : Int32) (t_chosenSign : Int32) (t_chosenLimbs : Int32) (t_state : Int32) (t_done : Int32) (t_pivots : Int32) (t_odd : Int32) (n_t_limbs : Nat) (a_t_limbs : Nat → Int32) (n_t_signs : Nat) (a_t_signs : Nat → Int32) (n_t_rows : Nat) (a_t_rows : Nat → Int32) (by_ : Int32) (o : (Nat → Int32) × (Nat → Int32)) (hf : f_X_divide k n_t_limbs a_t_limbs n_t_signs a_t_signs by_ = some o) : Met l yX3_divide wsX3_divide rm_X_divide (c_Pre (dC, dI) vwCl [(cA, .int)] [(q_t, .inr (3, [.int t_n, .int t_room, .ref q_t_limbs, .ref q_t_signs, .ref q_t_rows, .int t_chosen, .int t_chosenSign, .int t_chosenLimbs, .int t_state, .int t_done, .int t_pivots, .int t_odd])), (q_t_limbs, .inl (cA, n_t_limbs, .inl a_t_limbs)), (q_t_signs, .inl (cA, n_t_signs, .inl a_t_signs)), (q_t_rows, .inl (cA, n_t_rows, .inl a_t_rows))] sz [.ref q_t, .int by_]) (c_Qv (dC, dI) vwCl [(cA, .int)] [(q_t, .inr (3, [.int t_n, .int t_room, .ref q_t_limbs, .ref q_t_signs, .ref q_t_rows, .int t_chosen, .int t_chosenSign, .int t_chosenLimbs, .int t_state, .int t_done, .int t_pivots, .int t_odd])), (q_t_limbs, .inl (cA, n_t_limbs, .inl o.1)), (q_t_signs, .inl (cA, n_t_signs, .inl o.2)), (q_t_rows, .inl (cA, n_t_rows, .inl a_t_rows))] (va_A [(q_t, .inr (3, [.int t_n, .int t_room, .ref q_t_limbs, .ref q_t_signs, .ref q_t_rows, .int t_chosen, .int t_chosenSign, .int t_chosenLimbs, .int t_state, .int t_done, .int t_pivots, .int t_odd])), (q_t_limbs, .inl (cA, n_t_limbs, .inl a_t_limbs)), (q_t_signs, .inl (cA, n_t_signs, .inl a_t_signs)), (q_t_rows, .inl (cA, n_t_rows, .inl a_t_rows))] sz)) 0 0 (va_A [(q_t, .inr (3, [.int t_n, .int t_room, .ref q_t_limbs, .ref q_t_signs, .ref q_t_rows, .int t_chosen, .int t_chosenSign, .int t_chosenLimbs, .int t_state, .int t_done, .int t_pivots, .int t_odd])), (q_t_limbs, .inl (cA, n_t_limbs, .inl a_t_limbs)), (q_t_signs, .inl (cA, n_t_signs, .inl a_t_signs)), (q_t_rows, .inl (cA, n_t_rows, .inl a_t_rows))] sz) := by
  unfold f_X_divide at hf
  refine k_ent (Qc := fun A => c_Qv (dC, dI) vwCl [(cA, .int)] [(q_t, .inr (3, [.int t_n, .int t_room, .ref q_t_limbs, .ref q_t_signs, .ref q_t_rows, .int t_chosen, .int t_chosenSign, .int t_chosenLimbs, .int t_state, .int t_done, .int t_pivots, .int t_odd])), (q_t_limbs, .inl (cA, n_t_limbs, .inl o.1)), (q_t_signs, .inl (cA, n_t_signs, .inl o.2)), (q_t_rows, .inl (cA, n_t_rows, .inl a_t_rows))] A) (by decide) rfl (Nat.le_of_ble_eq_true rfl) ?_
  intro p e s m below meth c A hx hb hr hown hts hml hlocks hin hsz hA hK H locs hP hD hS ls hl
  have hown : s.vm.findClass RX3 = some m.cls := hown
  have hl : lv_has ls 17 [(0, .ref q_t), (1, .int by_)] := hl
  refine lv_aload_n hx hb dX3_divide_0 rfl (lv_at hl 0 rfl) ?_
  refine lv_bipush (v := 52) hx hb dX3_divide_1 (by decide) ?_
  obtain ⟨x1, g2, hf⟩ := og_b hf
  refine kc_v (wr := []) (w1 := [(q_t, .inr (3, [.int t_n, .int t_room, .ref q_t_limbs, .ref q_t_signs, .ref q_t_rows, .int t_chosen, .int t_chosenSign, .int t_chosenLimbs, .int t_state, .int t_done, .int t_pivots, .int t_odd])), (q_t_limbs, .inl (cA, n_t_limbs, .inl x1.1)), (q_t_signs, .inl (cA, n_t_signs, .inl x1.2)), (q_t_rows, .inl (cA, n_t_rows, .inl a_t_rows))]) [0, 1, 2, 3] [] (va_runV (As := [.int 52]) (rest := []) ⟨hx, hb, hml, hown, hts⟩ (c_X_clear l dC dI cA H.size q_t q_t_limbs q_t_signs q_t_rows k t_n t_room t_chosen t_chosenSign t_chosenLimbs t_state t_done t_pivots t_odd n_t_limbs a_t_limbs n_t_signs a_t_signs n_t_rows a_t_rows (52 : Int32) x1 g2) (cwV 1 hts gX3_divide_X3_clear rfl rfl rfl (by decide +kernel) ⟨Nat.le_of_ble_eq_true rfl, Nat.le_of_ble_eq_true rfl⟩) (kc_preV hP hD hK [0, 1, 2, 3] rfl rfl (by decide) (ci := 3) (q0 := 0) rfl rfl) rfl rfl hl.1 rfl (lv_room (Nat.le_of_ble_eq_true rfl)) dX3_divide_3 ⟨Nat.le_of_ble_eq_true rfl, Nat.le_of_ble_eq_true rfl⟩) hP hD hS hA rfl rfl (by decide) (by decide) (fun H locs hP hD hS => ?_)
  have hP : va_P (dC, dI) vwCl [(q_t, .inr (3, [.int t_n, .int t_room, .ref q_t_limbs, .ref q_t_signs, .ref q_t_rows, .int t_chosen, .int t_chosenSign, .int t_chosenLimbs, .int t_state, .int t_done, .int t_pivots, .int t_odd])), (q_t_limbs, .inl (cA, n_t_limbs, .inl x1.1)), (q_t_signs, .inl (cA, n_t_signs, .inl x1.2)), (q_t_rows, .inl (cA, n_t_rows, .inl a_t_rows))] H := hP
  have hD : va_D A [(q_t, .inr (3, [.int t_n, .int t_room, .ref q_t_limbs, .ref q_t_signs, .ref q_t_rows, .int t_chosen, .int t_chosenSign, .int t_chosenLimbs, .int t_state, .int t_done, .int t_pivots, .int t_odd])), (q_t_limbs, .inl (cA, n_t_limbs, .inl x1.1)), (q_t_signs, .inl (cA, n_t_signs, .inl x1.2)), (q_t_rows, .inl (cA, n_t_rows, .inl a_t_rows))] := hD
  refine lv_aload_n hx hb dX3_divide_6 rfl (lv_at hl 0 rfl) ?_
  refine va_get (D := (dC, dI)) (ci := 3) (v := .ref q_t_signs) (C := RX3) (T := TX3) (N := 12) hx hb hts ki_X_divide_X3 hown hK hP 0 rfl rfl 3 (by decide) (hts (.fieldLink RX3 13 "MinorStepsModel" "signs" "[I") kw_X_divide_0) (fun _ h9 => h9) rfl dX3_divide_7 ?_
  refine lv_bipush (v := 49) hx hb dX3_divide_10 (by decide) ?_
  obtain ⟨g3, hf⟩ := og_c hf
  refine va_iald hx hb hK hP 2 0 rfl rfl (og_in g3) dX3_divide_12 ?_
  refine lv_if_ne (tgt := 17) hx hb dX3_divide_13 (by decide) (fun c4 => ?_) (fun c4 => ?_)
  · have hf := og_f c4 hf
    refine lv_aload_n hx hb dX3_divide_17 rfl (lv_at hl 0 rfl) ?_
    refine lv_iload_n hx hb dX3_divide_18 rfl (lv_at hl 1 rfl) ?_
    obtain ⟨x5, g6, hf⟩ := og_b hf
    refine kc_i (wr := []) (w1 := [(q_t, .inr (3, [.int t_n, .int t_room, .ref q_t_limbs, .ref q_t_signs, .ref q_t_rows, .int t_chosen, .int t_chosenSign, .int t_chosenLimbs, .int t_state, .int t_done, .int t_pivots, .int t_odd])), (q_t_limbs, .inl (cA, n_t_limbs, .inl x1.1)), (q_t_signs, .inl (cA, n_t_signs, .inl x1.2)), (q_t_rows, .inl (cA, n_t_rows, .inl a_t_rows))]) [0, 1, 2, 3] [] (va_runV (As := [.int by_]) (rest := []) ⟨hx, hb, hml, hown, hts⟩ (c_X_zeros l dC dI cA H.size q_t q_t_limbs q_t_signs q_t_rows k t_n t_room t_chosen t_chosenSign t_chosenLimbs t_state t_done t_pivots t_odd n_t_limbs x1.1 n_t_signs x1.2 n_t_rows a_t_rows by_ x5 g6) (cwV 1 hts gX3_divide_X3_zeros rfl rfl rfl (by decide +kernel) ⟨Nat.le_of_ble_eq_true rfl, Nat.le_of_ble_eq_true rfl⟩) (kc_preV hP hD hK [0, 1, 2, 3] rfl rfl (by decide) (ci := 3) (q0 := 0) rfl rfl) rfl rfl hl.1 rfl (lv_room (Nat.le_of_ble_eq_true rfl)) dX3_divide_19 ⟨Nat.le_of_ble_eq_true rfl, Nat.le_of_ble_eq_true rfl⟩) hP hD hS hA rfl rfl (by decide) (by decide) (fun H locs hP hD hS => ?_)
    have hP : va_P (dC, dI) vwCl [(q_t, .inr (3, [.int t_n, .int t_room, .ref q_t_limbs, .ref q_t_signs, .ref q_t_rows, .int t_chosen, .int t_chosenSign, .int t_chosenLimbs, .int t_state, .int t_done, .int t_pivots, .int t_odd])), (q_t_limbs, .inl (cA, n_t_limbs, .inl x1.1)), (q_t_signs, .inl (cA, n_t_signs, .inl x1.2)), (q_t_rows, .inl (cA, n_t_rows, .inl a_t_rows))] H := hP
    have hD : va_D A [(q_t, .inr (3, [.int t_n, .int t_room, .ref q_t_limbs, .ref q_t_signs, .ref q_t_rows, .int t_chosen, .int t_chosenSign, .int t_chosenLimbs, .int t_state, .int t_done, .int t_pivots, .int t_odd])), (q_t_limbs, .inl (cA, n_t_limbs, .inl x1.1)), (q_t_signs, .inl (cA, n_t_signs, .inl x1.2)), (q_t_rows, .inl (cA, n_t_rows, .inl a_t_rows))] := hD
    refine lv_istore_n (lv' := [(2, .int x5), (0, .ref q_t), (1, .int by_)]) hx hb dX3_divide_22 rfl hl (by decide) rfl (fun ls hl => ?_)
    refine lv_aload_n hx hb dX3_divide_23 rfl (lv_at hl 1 rfl) ?_
    refine lv_bipush (v := 49) hx hb dX3_divide_24 (by decide) ?_
    refine lv_iload_n hx hb dX3_divide_26 rfl (lv_at hl 0 rfl) ?_
    refine lv_bipush (v := 50) hx hb dX3_divide_27 (by decide) ?_
    obtain ⟨x7, g8, hf⟩ := og_b hf
    refine kc_v (wr := []) (w1 := [(q_t, .inr (3, [.int t_n, .int t_room, .ref q_t_limbs, .ref q_t_signs, .ref q_t_rows, .int t_chosen, .int t_chosenSign, .int t_chosenLimbs, .int t_state, .int t_done, .int t_pivots, .int t_odd])), (q_t_limbs, .inl (cA, n_t_limbs, .inl x7)), (q_t_signs, .inl (cA, n_t_signs, .inl x1.2)), (q_t_rows, .inl (cA, n_t_rows, .inl a_t_rows))]) [0, 1, 2, 3] [] (va_runV (As := [.int 49, .int x5, .int 50]) (rest := []) ⟨hx, hb, hml, hown, hts⟩ (c_X_shift l dC dI cA H.size q_t q_t_limbs q_t_signs q_t_rows k t_n t_room t_chosen t_chosenSign t_chosenLimbs t_state t_done t_pivots t_odd n_t_limbs x1.1 n_t_signs x1.2 n_t_rows a_t_rows (49 : Int32) x5 (50 : Int32) x7 g8) (cwV 3 hts gX3_divide_X3_shift rfl rfl rfl (by decide +kernel) ⟨Nat.le_of_ble_eq_true rfl, Nat.le_of_ble_eq_true rfl⟩) (kc_preV hP hD hK [0, 1, 2, 3] rfl rfl (by decide) (ci := 3) (q0 := 0) rfl rfl) rfl rfl hl.1 rfl (lv_room (Nat.le_of_ble_eq_true rfl)) dX3_divide_29 ⟨Nat.le_of_ble_eq_true rfl, Nat.le_of_ble_eq_true rfl⟩) hP hD hS hA rfl rfl (by decide) (by decide) (fun H locs hP hD hS => ?_)
    have hP : va_P (dC, dI) vwCl [(q_t, .inr (3, [.int t_n, .int t_room, .ref q_t_limbs, .ref q_t_signs, .ref q_t_rows, .int t_chosen, .int t_chosenSign, .int t_chosenLimbs, .int t_state, .int t_done, .int t_pivots, .int t_odd])), (q_t_limbs, .inl (cA, n_t_limbs, .inl x7)), (q_t_signs, .inl (cA, n_t_signs, .inl x1.2)), (q_t_rows, .inl (cA, n_t_rows, .inl a_t_rows))] H := hP
    have hD : va_D A [(q_t, .inr (3, [.int t_n, .int t_room, .ref q_t_limbs, .ref q_t_signs, .ref q_t_rows, .int t_chosen, .int t_chosenSign, .int t_chosenLimbs, .int t_state, .int t_done, .int t_pivots, .int t_odd])), (q_t_limbs, .inl (cA, n_t_limbs, .inl x7)), (q_t_signs, .inl (cA, n_t_signs, .inl x1.2)), (q_t_rows, .inl (cA, n_t_rows, .inl a_t_rows))] := hD
    refine lv_aload_n hx hb dX3_divide_32 rfl (lv_at hl 1 rfl) ?_
    refine lv_iload_n hx hb dX3_divide_33 rfl (lv_at hl 2 rfl) ?_
    refine lv_iload_n hx hb dX3_divide_34 rfl (lv_at hl 0 rfl) ?_
    refine lv_bipush (v := 51) hx hb dX3_divide_35 (by decide) ?_
    obtain ⟨x9, g10, hf⟩ := og_b hf
    refine kc_v (wr := []) (w1 := [(q_t, .inr (3, [.int t_n, .int t_room, .ref q_t_limbs, .ref q_t_signs, .ref q_t_rows, .int t_chosen, .int t_chosenSign, .int t_chosenLimbs, .int t_state, .int t_done, .int t_pivots, .int t_odd])), (q_t_limbs, .inl (cA, n_t_limbs, .inl x9)), (q_t_signs, .inl (cA, n_t_signs, .inl x1.2)), (q_t_rows, .inl (cA, n_t_rows, .inl a_t_rows))]) [0, 1, 2, 3] [] (va_runV (As := [.int by_, .int x5, .int 51]) (rest := []) ⟨hx, hb, hml, hown, hts⟩ (c_X_shift l dC dI cA H.size q_t q_t_limbs q_t_signs q_t_rows k t_n t_room t_chosen t_chosenSign t_chosenLimbs t_state t_done t_pivots t_odd n_t_limbs x7 n_t_signs x1.2 n_t_rows a_t_rows by_ x5 (51 : Int32) x9 g10) (cwV 3 hts gX3_divide_X3_shift rfl rfl rfl (by decide +kernel) ⟨Nat.le_of_ble_eq_true rfl, Nat.le_of_ble_eq_true rfl⟩) (kc_preV hP hD hK [0, 1, 2, 3] rfl rfl (by decide) (ci := 3) (q0 := 0) rfl rfl) rfl rfl hl.1 rfl (lv_room (Nat.le_of_ble_eq_true rfl)) dX3_divide_37 ⟨Nat.le_of_ble_eq_true rfl, Nat.le_of_ble_eq_true rfl⟩) hP hD hS hA rfl rfl (by decide) (by decide) (fun H locs hP hD hS => ?_)
    have hP : va_P (dC, dI) vwCl [(q_t, .inr (3, [.int t_n, .int t_room, .ref q_t_limbs, .ref q_t_signs, .ref q_t_rows, .int t_chosen, .int t_chosenSign, .int t_chosenLimbs, .int t_state, .int t_done, .int t_pivots, .int t_odd])), (q_t_limbs, .inl (cA, n_t_limbs, .inl x9)), (q_t_signs, .inl (cA, n_t_signs, .inl x1.2)), (q_t_rows, .inl (cA, n_t_rows, .inl a_t_rows))] H := hP
    have hD : va_D A [(q_t, .inr (3, [.int t_n, .int t_room, .ref q_t_limbs, .ref q_t_signs, .ref q_t_rows, .int t_chosen, .int t_chosenSign, .int t_chosenLimbs, .int t_state, .int t_done, .int t_pivots, .int t_odd])), (q_t_limbs, .inl (cA, n_t_limbs, .inl x9)), (q_t_signs, .inl (cA, n_t_signs, .inl x1.2)), (q_t_rows, .inl (cA, n_t_rows, .inl a_t_rows))] := hD
    refine lv_aload_n hx hb dX3_divide_40 rfl (lv_at hl 1 rfl) ?_
    refine va_get (D := (dC, dI)) (ci := 3) (v := .ref q_t_limbs) (C := RX3) (T := TX3) (N := 12) hx hb hts ki_X_divide_X3 hown hK hP 0 rfl rfl 2 (by decide) (hts (.fieldLink RX3 7 "MinorStepsModel" "limbs" "[I") kw_X_divide_1) (fun _ h9 => h9) rfl dX3_divide_41 ?_
    refine lv_sipush (v := 2040) hx hb dX3_divide_44 (by decide) ?_
    obtain ⟨g11, hf⟩ := og_c hf
    refine va_iald hx hb hK hP 1 0 rfl rfl (og_in g11) dX3_divide_47 ?_
    refine lv_i2l (v := (x9 (2040 : Int32).toNatClampNeg).toInt64) hx hb dX3_divide_48 rfl ?_
    refine lv_lstore_n (lv' := [(3, .long ((x9 (2040 : Int32).toNatClampNeg).toInt64)), (2, .int x5), (0, .ref q_t), (1, .int by_)]) hx hb dX3_divide_49 rfl hl (by decide) rfl (fun ls hl => ?_)
    refine lv_lload_n hx hb dX3_divide_50 rfl (lv_at hl 0 rfl) ?_
    refine lv_lstore (lv' := [(5, .long ((x9 (2040 : Int32).toNatClampNeg).toInt64)), (3, .long ((x9 (2040 : Int32).toNatClampNeg).toInt64)), (2, .int x5), (0, .ref q_t), (1, .int by_)]) hx hb dX3_divide_51 hl (by decide) rfl (fun ls hl => ?_)
    refine lv_iconst (v := 0) hx hb dX3_divide_53 (by decide) ?_
    refine lv_istore (lv' := [(7, .int 0), (5, .long ((x9 (2040 : Int32).toNatClampNeg).toInt64)), (3, .long ((x9 (2040 : Int32).toNatClampNeg).toInt64)), (2, .int x5), (0, .ref q_t), (1, .int by_)]) hx hb dX3_divide_54 hl (by decide) rfl (fun ls hl => ?_)
    obtain ⟨x15, g16, hf⟩ := og_b hf
    refine w_X_divide_L56 hx hb hown hts hml hA hK k q_t q_t_limbs q_t_signs q_t_rows by_ ((x9 (2040 : Int32).toNatClampNeg).toInt64) t_n t_room t_chosen t_chosenSign t_chosenLimbs t_state t_done t_pivots t_odd n_t_limbs x9 n_t_signs x1.2 n_t_rows a_t_rows k ((x9 (2040 : Int32).toNatClampNeg).toInt64) (0 : Int32) _ g16 _ _ (hP.sub [0, 1, 2, 3] rfl) (hD.sub [0, 1, 2, 3] (by decide) rfl) hS _ (lv_sub hl [4, 5, 2, 1, 0] rfl) ?_
    intro H locs hP hD hS ls hl
    refine lv_iconst (v := 0) hx hb dX3_divide_89 (by decide) ?_
    refine lv_istore (lv' := [(7, .int 0), (0, .ref q_t), (1, .int by_), (5, .long x15.1)]) hx hb dX3_divide_90 hl (by decide) rfl (fun ls hl => ?_)
    obtain ⟨x62, g63, hf⟩ := og_b hf
    refine w_X_divide_L92 hx hb hown hts hml hA hK k q_t q_t_limbs q_t_signs q_t_rows by_ x15.1 t_n t_room t_chosen t_chosenSign t_chosenLimbs t_state t_done t_pivots t_odd n_t_limbs n_t_signs x1.2 n_t_rows a_t_rows k (0 : Int32) x9 _ g63 _ _ (hP.sub [0, 1, 2, 3] rfl) (hD.sub [0, 1, 2, 3] (by decide) rfl) hS _ (lv_sub hl [1, 2, 3, 0] rfl) ?_
    intro H locs hP hD hS ls hl
    refine lv_aload_n hx hb dX3_divide_247 rfl (lv_at hl 0 rfl) ?_
    refine va_get (D := (dC, dI)) (ci := 3) (v := .ref q_t_signs) (C := RX3) (T := TX3) (N := 12) hx hb hts ki_X_divide_X3 hown hK hP 0 rfl rfl 3 (by decide) (hts (.fieldLink RX3 13 "MinorStepsModel" "signs" "[I") kw_X_divide_0) (fun _ h9 => h9) rfl dX3_divide_248 ?_
    refine lv_bipush (v := 52) hx hb dX3_divide_251 (by decide) ?_
    refine lv_aload_n hx hb dX3_divide_253 rfl (lv_at hl 0 rfl) ?_
    refine va_get (D := (dC, dI)) (ci := 3) (v := .ref q_t_signs) (C := RX3) (T := TX3) (N := 12) hx hb hts ki_X_divide_X3 hown hK hP 0 rfl rfl 3 (by decide) (hts (.fieldLink RX3 13 "MinorStepsModel" "signs" "[I") kw_X_divide_0) (fun _ h9 => h9) rfl dX3_divide_254 ?_
    refine lv_bipush (v := 49) hx hb dX3_divide_257 (by decide) ?_
    obtain ⟨g64, hf⟩ := og_c hf
    refine va_iald hx hb hK hP 2 0 rfl rfl (og_in g64) dX3_divide_259 ?_
    refine lv_aload_n hx hb dX3_divide_260 rfl (lv_at hl 0 rfl) ?_
    refine va_get (D := (dC, dI)) (ci := 3) (v := .ref q_t_signs) (C := RX3) (T := TX3) (N := 12) hx hb hts ki_X_divide_X3 hown hK hP 0 rfl rfl 3 (by decide) (hts (.fieldLink RX3 13 "MinorStepsModel" "signs" "[I") kw_X_divide_0) (fun _ h9 => h9) rfl dX3_divide_261 ?_
    refine lv_iload_n hx hb dX3_divide_264 rfl (lv_at hl 1 rfl) ?_
    obtain ⟨g65, hf⟩ := og_c hf
    refine va_iald hx hb hK hP 2 0 rfl rfl (og_in g65) dX3_divide_265 ?_
    refine lv_imul hx hb dX3_divide_266 ?_
    obtain ⟨g66, hf⟩ := og_c hf
    refine va_iast hx hb hK hP hD hS 2 0 rfl rfl (og_in g66) dX3_divide_267 (fun H locs hP hD hS => ?_)
    have hP : va_P (dC, dI) vwCl [(q_t, .inr (3, [.int t_n, .int t_room, .ref q_t_limbs, .ref q_t_signs, .ref q_t_rows, .int t_chosen, .int t_chosenSign, .int t_chosenLimbs, .int t_state, .int t_done, .int t_pivots, .int t_odd])), (q_t_limbs, .inl (cA, n_t_limbs, .inl x62.2)), (q_t_signs, .inl (cA, n_t_signs, .inl (upd x1.2 (52 : Int32).toNatClampNeg ((x1.2 (49 : Int32).toNatClampNeg) * (x1.2 by_.toNatClampNeg))))), (q_t_rows, .inl (cA, n_t_rows, .inl a_t_rows))] H := hP
    have hD : va_D A [(q_t, .inr (3, [.int t_n, .int t_room, .ref q_t_limbs, .ref q_t_signs, .ref q_t_rows, .int t_chosen, .int t_chosenSign, .int t_chosenLimbs, .int t_state, .int t_done, .int t_pivots, .int t_odd])), (q_t_limbs, .inl (cA, n_t_limbs, .inl x62.2)), (q_t_signs, .inl (cA, n_t_signs, .inl (upd x1.2 (52 : Int32).toNatClampNeg ((x1.2 (49 : Int32).toNatClampNeg) * (x1.2 by_.toNatClampNeg))))), (q_t_rows, .inl (cA, n_t_rows, .inl a_t_rows))] := hD
    have e9 := Option.some.inj hf
    subst e9
    exact kr_v hx hb hr hlocks hK hS (hP.sub [0, 1, 2, 3] rfl) (hD.sub [0, 1, 2, 3] (by decide) rfl) dX3_divide_268
  · have hf := og_t c4 hf
    have e9 := Option.some.inj hf
    subst e9
    exact kr_v hx hb hr hlocks hK hS (hP.sub [0, 1, 2, 3] rfl) (hD.sub [0, 1, 2, 3] (by decide) rfl) dX3_divide_16
def rm_X_swap : Room := { frames := 1, cells := 0, slots := 0, locals := 23 }
theorem kw_X_swap_0 : (.fieldLink RX3 16 "MinorStepsModel" "rows" "[I" : Cond) ∈ wsX3_swap := by decide +kernel
theorem kw_X_swap_1 : (.fieldLink RX3 41 "MinorStepsModel" "odd" "Z" : Cond) ∈ wsX3_swap := by decide +kernel
theorem ki_X_swap_X3 : ∀ w ∈ u_ws RX3 TX3 12, w ∈ wsX3_swap := by decide +kernel
set_option maxHeartbeats 4000000 in
set_option maxRecDepth 100000 in
theorem w_X_swap_L2 {p : Program} {l : Launch} {e : Env} {s : State} {m : MethodId} {args : Array Value} {below : List Frame} {meth : Method} {c : Code} {Q : State → Prop} {A : Nat → Prop} {H0 : Heap} {dC : Nat → ClassId} {dI : Nat → Nat → Nat} {cA : ClassId} (hx : p.tables.exec = Jvm.exec) (hb : c.code = cX3_swap) (hown : s.vm.findClass RX3 = some m.cls) (hts : ∀ w ∈ wsX3_swap, w.before args s = true) (hml : c.maxLocals = 4) (hA : ∀ q, H0.size ≤ q → A q) (hK : va_K (dC, dI) vwCl [(cA, .int)] s) (k : Nat) (q_t : Nat) (q_t_limbs : Nat) (q_t_signs : Nat) (q_t_rows : Nat) (v1 : Int32) (v2 : Int32) (i0_t : Int32) (i1_t : Int32) (i5_t : Int32) (i6_t : Int32) (i7_t : Int32) (i8_t : Int32) (i9_t : Int32) (i10_t : Int32) (i11_t : Int32) (n_t_limbs : Nat) (n_t_signs : Nat) (n_t_rows : Nat) (a_t_rows : Nat → Int32) : ∀ (j : Nat) (v3 : Int32) (a_t_limbs : Nat → Int32) (a_t_signs : Nat → Int32) (o : Int32 × (Nat → Int32) × (Nat → Int32)), f_X_swap_L2 k v1 v2 n_t_limbs n_t_signs j v3 a_t_limbs a_t_signs = some o → ∀ (H : Heap) (locs : List Loc), va_P (dC, dI) vwCl [(q_t, .inr (3, [.int i0_t, .int i1_t, .ref q_t_limbs, .ref q_t_signs, .ref q_t_rows, .int i5_t, .int i6_t, .int i7_t, .int i8_t, .int i9_t, .int i10_t, .int i11_t])), (q_t_limbs, .inl (cA, n_t_limbs, .inl a_t_limbs)), (q_t_signs, .inl (cA, n_t_signs, .inl a_t_signs)), (q_t_rows, .inl (cA, n_t_rows, .inl a_t_rows))] H → va_D A [(q_t, .inr (3, [.int i0_t, .int i1_t, .ref q_t_limbs, .ref q_t_signs, .ref q_t_rows, .int i5_t, .int i6_t, .int i7_t, .int i8_t, .int i9_t, .int i10_t, .int i11_t])), (q_t_limbs, .inl (cA, n_t_limbs, .inl a_t_limbs)), (q_t_signs, .inl (cA, n_t_signs, .inl a_t_signs)), (q_t_rows, .inl (cA, n_t_rows, .inl a_t_rows))] → va_S A H0 H locs → ∀ ls : Array Slot, lv_has ls 4 [(0, .ref q_t), (1, .int v1), (2, .int v2), (3, .int v3)] → ∀ (he : ∀ (H : Heap) (locs : List Loc), va_P (dC, dI) vwCl [(q_t, .inr (3, [.int i0_t, .int i1_t, .ref q_t_limbs, .ref q_t_signs, .ref q_t_rows, .int i5_t, .int i6_t, .int i7_t, .int i8_t, .int i9_t, .int i10_t, .int i11_t])), (q_t_limbs, .inl (cA, n_t_limbs, .inl o.2.1)), (q_t_signs, .inl (cA, n_t_signs, .inl o.2.2)), (q_t_rows, .inl (cA, n_t_rows, .inl a_t_rows))] H → va_D A [(q_t, .inr (3, [.int i0_t, .int i1_t, .ref q_t_limbs, .ref q_t_signs, .ref q_t_rows, .int i5_t, .int i6_t, .int i7_t, .int i8_t, .int i9_t, .int i10_t, .int i11_t])), (q_t_limbs, .inl (cA, n_t_limbs, .inl o.2.1)), (q_t_signs, .inl (cA, n_t_signs, .inl o.2.2)), (q_t_rows, .inl (cA, n_t_rows, .inl a_t_rows))] → va_S A H0 H locs → ∀ ls : Array Slot, lv_has ls 4 [(0, .ref q_t), (1, .int v1), (2, .int v2)] → W p l e rm_X_swap s m args below meth c H locs 0 0 Q (F0 m 54 ls [])), W p l e rm_X_swap s m args below meth c H locs 0 0 Q (F0 m 2 ls []) := by
  intro j
  induction j with
  | zero =>
    intro v3 a_t_limbs a_t_signs o hf
    rw [f_X_swap_L2] at hf
    cases hf
  | succ j ih =>
    intro v3 a_t_limbs a_t_signs o hf H locs hP hD hS ls hl he
    rw [f_X_swap_L2] at hf
    refine lv_iload_n hx hb dX3_swap_2 rfl (lv_at hl 3 rfl) ?_
    refine lv_bipush (v := 7) hx hb dX3_swap_3 (by decide) ?_
    refine lv_icmp_ge (tgt := 54) hx hb dX3_swap_5 (by decide) (fun c15 => ?_) (fun c15 => ?_)
    · have hf := og_t c15 hf
      have e9 := Option.some.inj hf
      subst e9
      exact he _ _ (hP.sub [0, 1, 2, 3] rfl) (hD.sub [0, 1, 2, 3] (by decide) rfl) hS _ (lv_sub hl [0, 1, 2] rfl)
    · have hf := og_f c15 hf
      refine lv_aload_n hx hb dX3_swap_8 rfl (lv_at hl 0 rfl) ?_
      refine lv_bipush (v := 7) hx hb dX3_swap_9 (by decide) ?_
      refine lv_iload_n hx hb dX3_swap_11 rfl (lv_at hl 1 rfl) ?_
      refine lv_imul hx hb dX3_swap_12 ?_
      refine lv_iload_n hx hb dX3_swap_13 rfl (lv_at hl 3 rfl) ?_
      refine lv_iadd hx hb dX3_swap_14 ?_
      refine lv_bipush (v := 50) hx hb dX3_swap_15 (by decide) ?_
      obtain ⟨x16, g17, hf⟩ := og_b hf
      refine kc_v (wr := []) (w1 := [(q_t, .inr (3, [.int i0_t, .int i1_t, .ref q_t_limbs, .ref q_t_signs, .ref q_t_rows, .int i5_t, .int i6_t, .int i7_t, .int i8_t, .int i9_t, .int i10_t, .int i11_t])), (q_t_limbs, .inl (cA, n_t_limbs, .inl x16.1)), (q_t_signs, .inl (cA, n_t_signs, .inl x16.2)), (q_t_rows, .inl (cA, n_t_rows, .inl a_t_rows))]) [0, 1, 2, 3] [] (va_runV (As := [.int ((7 * v1) + v3), .int 50]) (rest := []) ⟨hx, hb, hml, hown, hts⟩ (c_X_copy l dC dI cA H.size q_t q_t_limbs q_t_signs q_t_rows k i0_t i1_t i5_t i6_t i7_t i8_t i9_t i10_t i11_t n_t_limbs a_t_limbs n_t_signs a_t_signs n_t_rows a_t_rows ((7 * v1) + v3) (50 : Int32) x16 g17) (cwV 2 hts gX3_swap_X3_copy rfl rfl rfl (by decide +kernel) ⟨Nat.le_of_ble_eq_true rfl, Nat.le_of_ble_eq_true rfl⟩) (kc_preV hP hD hK [0, 1, 2, 3] rfl rfl (by decide) (ci := 3) (q0 := 0) rfl rfl) rfl rfl hl.1 rfl (lv_room (Nat.le_of_ble_eq_true rfl)) dX3_swap_17 ⟨Nat.le_of_ble_eq_true rfl, Nat.le_of_ble_eq_true rfl⟩) hP hD hS hA rfl rfl (by decide) (by decide) (fun H locs hP hD hS => ?_)
      have hP : va_P (dC, dI) vwCl [(q_t, .inr (3, [.int i0_t, .int i1_t, .ref q_t_limbs, .ref q_t_signs, .ref q_t_rows, .int i5_t, .int i6_t, .int i7_t, .int i8_t, .int i9_t, .int i10_t, .int i11_t])), (q_t_limbs, .inl (cA, n_t_limbs, .inl x16.1)), (q_t_signs, .inl (cA, n_t_signs, .inl x16.2)), (q_t_rows, .inl (cA, n_t_rows, .inl a_t_rows))] H := hP
      have hD : va_D A [(q_t, .inr (3, [.int i0_t, .int i1_t, .ref q_t_limbs, .ref q_t_signs, .ref q_t_rows, .int i5_t, .int i6_t, .int i7_t, .int i8_t, .int i9_t, .int i10_t, .int i11_t])), (q_t_limbs, .inl (cA, n_t_limbs, .inl x16.1)), (q_t_signs, .inl (cA, n_t_signs, .inl x16.2)), (q_t_rows, .inl (cA, n_t_rows, .inl a_t_rows))] := hD
      refine lv_aload_n hx hb dX3_swap_20 rfl (lv_at hl 0 rfl) ?_
      refine lv_bipush (v := 7) hx hb dX3_swap_21 (by decide) ?_
      refine lv_iload_n hx hb dX3_swap_23 rfl (lv_at hl 2 rfl) ?_
      refine lv_imul hx hb dX3_swap_24 ?_
      refine lv_iload_n hx hb dX3_swap_25 rfl (lv_at hl 3 rfl) ?_
      refine lv_iadd hx hb dX3_swap_26 ?_
      refine lv_bipush (v := 7) hx hb dX3_swap_27 (by decide) ?_
      refine lv_iload_n hx hb dX3_swap_29 rfl (lv_at hl 1 rfl) ?_
      refine lv_imul hx hb dX3_swap_30 ?_
      refine lv_iload_n hx hb dX3_swap_31 rfl (lv_at hl 3 rfl) ?_
      refine lv_iadd hx hb dX3_swap_32 ?_
      obtain ⟨x18, g19, hf⟩ := og_b hf
      refine kc_v (wr := []) (w1 := [(q_t, .inr (3, [.int i0_t, .int i1_t, .ref q_t_limbs, .ref q_t_signs, .ref q_t_rows, .int i5_t, .int i6_t, .int i7_t, .int i8_t, .int i9_t, .int i10_t, .int i11_t])), (q_t_limbs, .inl (cA, n_t_limbs, .inl x18.1)), (q_t_signs, .inl (cA, n_t_signs, .inl x18.2)), (q_t_rows, .inl (cA, n_t_rows, .inl a_t_rows))]) [0, 1, 2, 3] [] (va_runV (As := [.int ((7 * v2) + v3), .int ((7 * v1) + v3)]) (rest := []) ⟨hx, hb, hml, hown, hts⟩ (c_X_copy l dC dI cA H.size q_t q_t_limbs q_t_signs q_t_rows k i0_t i1_t i5_t i6_t i7_t i8_t i9_t i10_t i11_t n_t_limbs x16.1 n_t_signs x16.2 n_t_rows a_t_rows ((7 * v2) + v3) ((7 * v1) + v3) x18 g19) (cwV 2 hts gX3_swap_X3_copy rfl rfl rfl (by decide +kernel) ⟨Nat.le_of_ble_eq_true rfl, Nat.le_of_ble_eq_true rfl⟩) (kc_preV hP hD hK [0, 1, 2, 3] rfl rfl (by decide) (ci := 3) (q0 := 0) rfl rfl) rfl rfl hl.1 rfl (lv_room (Nat.le_of_ble_eq_true rfl)) dX3_swap_33 ⟨Nat.le_of_ble_eq_true rfl, Nat.le_of_ble_eq_true rfl⟩) hP hD hS hA rfl rfl (by decide) (by decide) (fun H locs hP hD hS => ?_)
      have hP : va_P (dC, dI) vwCl [(q_t, .inr (3, [.int i0_t, .int i1_t, .ref q_t_limbs, .ref q_t_signs, .ref q_t_rows, .int i5_t, .int i6_t, .int i7_t, .int i8_t, .int i9_t, .int i10_t, .int i11_t])), (q_t_limbs, .inl (cA, n_t_limbs, .inl x18.1)), (q_t_signs, .inl (cA, n_t_signs, .inl x18.2)), (q_t_rows, .inl (cA, n_t_rows, .inl a_t_rows))] H := hP
      have hD : va_D A [(q_t, .inr (3, [.int i0_t, .int i1_t, .ref q_t_limbs, .ref q_t_signs, .ref q_t_rows, .int i5_t, .int i6_t, .int i7_t, .int i8_t, .int i9_t, .int i10_t, .int i11_t])), (q_t_limbs, .inl (cA, n_t_limbs, .inl x18.1)), (q_t_signs, .inl (cA, n_t_signs, .inl x18.2)), (q_t_rows, .inl (cA, n_t_rows, .inl a_t_rows))] := hD
      refine lv_aload_n hx hb dX3_swap_36 rfl (lv_at hl 0 rfl) ?_
      refine lv_bipush (v := 50) hx hb dX3_swap_37 (by decide) ?_
      refine lv_bipush (v := 7) hx hb dX3_swap_39 (by decide) ?_
      refine lv_iload_n hx hb dX3_swap_41 rfl (lv_at hl 2 rfl) ?_
      refine lv_imul hx hb dX3_swap_42 ?_
      refine lv_iload_n hx hb dX3_swap_43 rfl (lv_at hl 3 rfl) ?_
      refine lv_iadd hx hb dX3_swap_44 ?_
      obtain ⟨x20, g21, hf⟩ := og_b hf
      refine kc_v (wr := []) (w1 := [(q_t, .inr (3, [.int i0_t, .int i1_t, .ref q_t_limbs, .ref q_t_signs, .ref q_t_rows, .int i5_t, .int i6_t, .int i7_t, .int i8_t, .int i9_t, .int i10_t, .int i11_t])), (q_t_limbs, .inl (cA, n_t_limbs, .inl x20.1)), (q_t_signs, .inl (cA, n_t_signs, .inl x20.2)), (q_t_rows, .inl (cA, n_t_rows, .inl a_t_rows))]) [0, 1, 2, 3] [] (va_runV (As := [.int 50, .int ((7 * v2) + v3)]) (rest := []) ⟨hx, hb, hml, hown, hts⟩ (c_X_copy l dC dI cA H.size q_t q_t_limbs q_t_signs q_t_rows k i0_t i1_t i5_t i6_t i7_t i8_t i9_t i10_t i11_t n_t_limbs x18.1 n_t_signs x18.2 n_t_rows a_t_rows (50 : Int32) ((7 * v2) + v3) x20 g21) (cwV 2 hts gX3_swap_X3_copy rfl rfl rfl (by decide +kernel) ⟨Nat.le_of_ble_eq_true rfl, Nat.le_of_ble_eq_true rfl⟩) (kc_preV hP hD hK [0, 1, 2, 3] rfl rfl (by decide) (ci := 3) (q0 := 0) rfl rfl) rfl rfl hl.1 rfl (lv_room (Nat.le_of_ble_eq_true rfl)) dX3_swap_45 ⟨Nat.le_of_ble_eq_true rfl, Nat.le_of_ble_eq_true rfl⟩) hP hD hS hA rfl rfl (by decide) (by decide) (fun H locs hP hD hS => ?_)
      have hP : va_P (dC, dI) vwCl [(q_t, .inr (3, [.int i0_t, .int i1_t, .ref q_t_limbs, .ref q_t_signs, .ref q_t_rows, .int i5_t, .int i6_t, .int i7_t, .int i8_t, .int i9_t, .int i10_t, .int i11_t])), (q_t_limbs, .inl (cA, n_t_limbs, .inl x20.1)), (q_t_signs, .inl (cA, n_t_signs, .inl x20.2)), (q_t_rows, .inl (cA, n_t_rows, .inl a_t_rows))] H := hP
      have hD : va_D A [(q_t, .inr (3, [.int i0_t, .int i1_t, .ref q_t_limbs, .ref q_t_signs, .ref q_t_rows, .int i5_t, .int i6_t, .int i7_t, .int i8_t, .int i9_t, .int i10_t, .int i11_t])), (q_t_limbs, .inl (cA, n_t_limbs, .inl x20.1)), (q_t_signs, .inl (cA, n_t_signs, .inl x20.2)), (q_t_rows, .inl (cA, n_t_rows, .inl a_t_rows))] := hD
      refine lv_iinc (v := v3 + 1) (lv' := [(3, .int (v3 + 1)), (0, .ref q_t), (1, .int v1), (2, .int v2)]) hx hb dX3_swap_48 hl (k := 3) rfl rfl (by decide) rfl (fun ls hl => ?_)
      refine lv_goto (tgt := 2) hx hb dX3_swap_51 (by decide) ?_
      exact ih (v3 + 1) x20.1 x20.2 _ hf _ _ (hP.sub [0, 1, 2, 3] rfl) (hD.sub [0, 1, 2, 3] (by decide) rfl) hS _ (lv_sub hl [1, 2, 3, 0] rfl) he
set_option maxHeartbeats 4000000 in
set_option maxRecDepth 100000 in
theorem c_X_swap (l : Launch) (dC : Nat → ClassId) (dI : Nat → Nat → Nat) (cA : ClassId) (sz : Nat) (q_t : Nat) (q_t_limbs : Nat) (q_t_signs : Nat) (q_t_rows : Nat) (k : Nat) (t_n : Int32) (t_room : Int32) (t_chosen : Int32) (t_chosenSign : Int32) (t_chosenLimbs : Int32) (t_state : Int32) (t_done : Int32) (t_pivots : Int32) (t_odd : Int32) (n_t_limbs : Nat) (a_t_limbs : Nat → Int32) (n_t_signs : Nat) (a_t_signs : Nat → Int32) (n_t_rows : Nat) (a_t_rows : Nat → Int32) (ii : Int32) (kk : Int32) (o : Int32 × (Nat → Int32) × (Nat → Int32) × (Nat → Int32)) (hf : f_X_swap k t_odd n_t_limbs a_t_limbs n_t_signs a_t_signs n_t_rows a_t_rows ii kk = some o) : Met l yX3_swap wsX3_swap rm_X_swap (c_Pre (dC, dI) vwCl [(cA, .int)] [(q_t, .inr (3, [.int t_n, .int t_room, .ref q_t_limbs, .ref q_t_signs, .ref q_t_rows, .int t_chosen, .int t_chosenSign, .int t_chosenLimbs, .int t_state, .int t_done, .int t_pivots, .int t_odd])), (q_t_limbs, .inl (cA, n_t_limbs, .inl a_t_limbs)), (q_t_signs, .inl (cA, n_t_signs, .inl a_t_signs)), (q_t_rows, .inl (cA, n_t_rows, .inl a_t_rows))] sz [.ref q_t, .int ii, .int kk]) (c_Qv (dC, dI) vwCl [(cA, .int)] [(q_t, .inr (3, [.int t_n, .int t_room, .ref q_t_limbs, .ref q_t_signs, .ref q_t_rows, .int t_chosen, .int t_chosenSign, .int t_chosenLimbs, .int t_state, .int t_done, .int t_pivots, .int o.1])), (q_t_limbs, .inl (cA, n_t_limbs, .inl o.2.1)), (q_t_signs, .inl (cA, n_t_signs, .inl o.2.2.1)), (q_t_rows, .inl (cA, n_t_rows, .inl o.2.2.2))] (va_A [(q_t, .inr (3, [.int t_n, .int t_room, .ref q_t_limbs, .ref q_t_signs, .ref q_t_rows, .int t_chosen, .int t_chosenSign, .int t_chosenLimbs, .int t_state, .int t_done, .int t_pivots, .int t_odd])), (q_t_limbs, .inl (cA, n_t_limbs, .inl a_t_limbs)), (q_t_signs, .inl (cA, n_t_signs, .inl a_t_signs)), (q_t_rows, .inl (cA, n_t_rows, .inl a_t_rows))] sz)) 0 0 (va_A [(q_t, .inr (3, [.int t_n, .int t_room, .ref q_t_limbs, .ref q_t_signs, .ref q_t_rows, .int t_chosen, .int t_chosenSign, .int t_chosenLimbs, .int t_state, .int t_done, .int t_pivots, .int t_odd])), (q_t_limbs, .inl (cA, n_t_limbs, .inl a_t_limbs)), (q_t_signs, .inl (cA, n_t_signs, .inl a_t_signs)), (q_t_rows, .inl (cA, n_t_rows, .inl a_t_rows))] sz) := by
  unfold f_X_swap at hf
  refine k_ent (Qc := fun A => c_Qv (dC, dI) vwCl [(cA, .int)] [(q_t, .inr (3, [.int t_n, .int t_room, .ref q_t_limbs, .ref q_t_signs, .ref q_t_rows, .int t_chosen, .int t_chosenSign, .int t_chosenLimbs, .int t_state, .int t_done, .int t_pivots, .int o.1])), (q_t_limbs, .inl (cA, n_t_limbs, .inl o.2.1)), (q_t_signs, .inl (cA, n_t_signs, .inl o.2.2.1)), (q_t_rows, .inl (cA, n_t_rows, .inl o.2.2.2))] A) (by decide) rfl (Nat.le_of_ble_eq_true rfl) ?_
  intro p e s m below meth c A hx hb hr hown hts hml hlocks hin hsz hA hK H locs hP hD hS ls hl
  have hown : s.vm.findClass RX3 = some m.cls := hown
  have hl : lv_has ls 4 [(0, .ref q_t), (1, .int ii), (2, .int kk)] := hl
  refine lv_iconst (v := 0) hx hb dX3_swap_0 (by decide) ?_
  refine lv_istore_n (lv' := [(3, .int 0), (0, .ref q_t), (1, .int ii), (2, .int kk)]) hx hb dX3_swap_1 rfl hl (by decide) rfl (fun ls hl => ?_)
  obtain ⟨x22, g23, hf⟩ := og_b hf
  refine w_X_swap_L2 hx hb hown hts hml hA hK k q_t q_t_limbs q_t_signs q_t_rows ii kk t_n t_room t_chosen t_chosenSign t_chosenLimbs t_state t_done t_pivots t_odd n_t_limbs n_t_signs n_t_rows a_t_rows k (0 : Int32) a_t_limbs a_t_signs _ g23 _ _ (hP.sub [0, 1, 2, 3] rfl) (hD.sub [0, 1, 2, 3] (by decide) rfl) hS _ (lv_sub hl [1, 2, 3, 0] rfl) ?_
  intro H locs hP hD hS ls hl
  refine lv_aload_n hx hb dX3_swap_54 rfl (lv_at hl 0 rfl) ?_
  refine va_get (D := (dC, dI)) (ci := 3) (v := .ref q_t_rows) (C := RX3) (T := TX3) (N := 12) hx hb hts ki_X_swap_X3 hown hK hP 0 rfl rfl 4 (by decide) (hts (.fieldLink RX3 16 "MinorStepsModel" "rows" "[I") kw_X_swap_0) (fun _ h9 => h9) rfl dX3_swap_55 ?_
  refine lv_iload_n hx hb dX3_swap_58 rfl (lv_at hl 1 rfl) ?_
  obtain ⟨g24, hf⟩ := og_c hf
  refine va_iald hx hb hK hP 3 0 rfl rfl (og_in g24) dX3_swap_59 ?_
  refine lv_istore_n (lv' := [(3, .int (a_t_rows ii.toNatClampNeg)), (0, .ref q_t), (1, .int ii), (2, .int kk)]) hx hb dX3_swap_60 rfl hl (by decide) rfl (fun ls hl => ?_)
  refine lv_aload_n hx hb dX3_swap_61 rfl (lv_at hl 1 rfl) ?_
  refine va_get (D := (dC, dI)) (ci := 3) (v := .ref q_t_rows) (C := RX3) (T := TX3) (N := 12) hx hb hts ki_X_swap_X3 hown hK hP 0 rfl rfl 4 (by decide) (hts (.fieldLink RX3 16 "MinorStepsModel" "rows" "[I") kw_X_swap_0) (fun _ h9 => h9) rfl dX3_swap_62 ?_
  refine lv_iload_n hx hb dX3_swap_65 rfl (lv_at hl 2 rfl) ?_
  refine lv_aload_n hx hb dX3_swap_66 rfl (lv_at hl 1 rfl) ?_
  refine va_get (D := (dC, dI)) (ci := 3) (v := .ref q_t_rows) (C := RX3) (T := TX3) (N := 12) hx hb hts ki_X_swap_X3 hown hK hP 0 rfl rfl 4 (by decide) (hts (.fieldLink RX3 16 "MinorStepsModel" "rows" "[I") kw_X_swap_0) (fun _ h9 => h9) rfl dX3_swap_67 ?_
  refine lv_iload_n hx hb dX3_swap_70 rfl (lv_at hl 3 rfl) ?_
  obtain ⟨g25, hf⟩ := og_c hf
  refine va_iald hx hb hK hP 3 0 rfl rfl (og_in g25) dX3_swap_71 ?_
  obtain ⟨g26, hf⟩ := og_c hf
  refine va_iast hx hb hK hP hD hS 3 0 rfl rfl (og_in g26) dX3_swap_72 (fun H locs hP hD hS => ?_)
  have hP : va_P (dC, dI) vwCl [(q_t, .inr (3, [.int t_n, .int t_room, .ref q_t_limbs, .ref q_t_signs, .ref q_t_rows, .int t_chosen, .int t_chosenSign, .int t_chosenLimbs, .int t_state, .int t_done, .int t_pivots, .int t_odd])), (q_t_limbs, .inl (cA, n_t_limbs, .inl x22.2.1)), (q_t_signs, .inl (cA, n_t_signs, .inl x22.2.2)), (q_t_rows, .inl (cA, n_t_rows, .inl (upd a_t_rows ii.toNatClampNeg (a_t_rows kk.toNatClampNeg))))] H := hP
  have hD : va_D A [(q_t, .inr (3, [.int t_n, .int t_room, .ref q_t_limbs, .ref q_t_signs, .ref q_t_rows, .int t_chosen, .int t_chosenSign, .int t_chosenLimbs, .int t_state, .int t_done, .int t_pivots, .int t_odd])), (q_t_limbs, .inl (cA, n_t_limbs, .inl x22.2.1)), (q_t_signs, .inl (cA, n_t_signs, .inl x22.2.2)), (q_t_rows, .inl (cA, n_t_rows, .inl (upd a_t_rows ii.toNatClampNeg (a_t_rows kk.toNatClampNeg))))] := hD
  refine lv_aload_n hx hb dX3_swap_73 rfl (lv_at hl 1 rfl) ?_
  refine va_get (D := (dC, dI)) (ci := 3) (v := .ref q_t_rows) (C := RX3) (T := TX3) (N := 12) hx hb hts ki_X_swap_X3 hown hK hP 0 rfl rfl 4 (by decide) (hts (.fieldLink RX3 16 "MinorStepsModel" "rows" "[I") kw_X_swap_0) (fun _ h9 => h9) rfl dX3_swap_74 ?_
  refine lv_iload_n hx hb dX3_swap_77 rfl (lv_at hl 3 rfl) ?_
  refine lv_iload_n hx hb dX3_swap_78 rfl (lv_at hl 0 rfl) ?_
  obtain ⟨g27, hf⟩ := og_c hf
  refine va_iast hx hb hK hP hD hS 3 0 rfl rfl (og_in g27) dX3_swap_79 (fun H locs hP hD hS => ?_)
  have hP : va_P (dC, dI) vwCl [(q_t, .inr (3, [.int t_n, .int t_room, .ref q_t_limbs, .ref q_t_signs, .ref q_t_rows, .int t_chosen, .int t_chosenSign, .int t_chosenLimbs, .int t_state, .int t_done, .int t_pivots, .int t_odd])), (q_t_limbs, .inl (cA, n_t_limbs, .inl x22.2.1)), (q_t_signs, .inl (cA, n_t_signs, .inl x22.2.2)), (q_t_rows, .inl (cA, n_t_rows, .inl (upd (upd a_t_rows ii.toNatClampNeg (a_t_rows kk.toNatClampNeg)) kk.toNatClampNeg (a_t_rows ii.toNatClampNeg))))] H := hP
  have hD : va_D A [(q_t, .inr (3, [.int t_n, .int t_room, .ref q_t_limbs, .ref q_t_signs, .ref q_t_rows, .int t_chosen, .int t_chosenSign, .int t_chosenLimbs, .int t_state, .int t_done, .int t_pivots, .int t_odd])), (q_t_limbs, .inl (cA, n_t_limbs, .inl x22.2.1)), (q_t_signs, .inl (cA, n_t_signs, .inl x22.2.2)), (q_t_rows, .inl (cA, n_t_rows, .inl (upd (upd a_t_rows ii.toNatClampNeg (a_t_rows kk.toNatClampNeg)) kk.toNatClampNeg (a_t_rows ii.toNatClampNeg))))] := hD
  refine lv_aload_n hx hb dX3_swap_80 rfl (lv_at hl 1 rfl) ?_
  refine lv_iload_n hx hb dX3_swap_81 rfl (lv_at hl 2 rfl) ?_
  refine lv_iload_n hx hb dX3_swap_82 rfl (lv_at hl 3 rfl) ?_
  refine lv_icmp_ne (tgt := 93) hx hb dX3_swap_83 (by decide) (fun c28 => ?_) (fun c28 => ?_)
  · have hf := og_f c28 hf
    refine lv_aload_n hx hb dX3_swap_93 rfl (lv_at hl 1 rfl) ?_
    refine va_get (D := (dC, dI)) (ci := 3) (v := .int t_odd) (C := RX3) (T := TX3) (N := 12) hx hb hts ki_X_swap_X3 hown hK hP 0 rfl rfl 11 (by decide) (hts (.fieldLink RX3 41 "MinorStepsModel" "odd" "Z") kw_X_swap_1) (fun _ h9 => h9) rfl dX3_swap_94 ?_
    refine lv_if_ne (tgt := 104) hx hb dX3_swap_97 (by decide) (fun c29 => ?_) (fun c29 => ?_)
    · have hf := og_f c29 hf
      refine lv_iconst (v := 0) hx hb dX3_swap_104 (by decide) ?_
      refine va_put (D := (dC, dI)) (ci := 3) (v := .int 0) (ty := .boolean) (C := RX3) (T := TX3) (N := 12) hx hb hts ki_X_swap_X3 tyX3 tyX3_ok nmX3 hown hK hP hD hS 0 rfl rfl 11 (by decide) (hts (.fieldLink RX3 41 "MinorStepsModel" "odd" "Z") kw_X_swap_1) (fun _ h9 => h9) rfl (by decide +kernel) rfl rfl (Nat.le_of_ble_eq_true rfl) dX3_swap_105 (fun H locs hP hD hS => ?_)
      have hP : va_P (dC, dI) vwCl [(q_t, .inr (3, [.int t_n, .int t_room, .ref q_t_limbs, .ref q_t_signs, .ref q_t_rows, .int t_chosen, .int t_chosenSign, .int t_chosenLimbs, .int t_state, .int t_done, .int t_pivots, .int 0])), (q_t_limbs, .inl (cA, n_t_limbs, .inl x22.2.1)), (q_t_signs, .inl (cA, n_t_signs, .inl x22.2.2)), (q_t_rows, .inl (cA, n_t_rows, .inl (upd (upd a_t_rows ii.toNatClampNeg (a_t_rows kk.toNatClampNeg)) kk.toNatClampNeg (a_t_rows ii.toNatClampNeg))))] H := hP
      have hD : va_D A [(q_t, .inr (3, [.int t_n, .int t_room, .ref q_t_limbs, .ref q_t_signs, .ref q_t_rows, .int t_chosen, .int t_chosenSign, .int t_chosenLimbs, .int t_state, .int t_done, .int t_pivots, .int 0])), (q_t_limbs, .inl (cA, n_t_limbs, .inl x22.2.1)), (q_t_signs, .inl (cA, n_t_signs, .inl x22.2.2)), (q_t_rows, .inl (cA, n_t_rows, .inl (upd (upd a_t_rows ii.toNatClampNeg (a_t_rows kk.toNatClampNeg)) kk.toNatClampNeg (a_t_rows ii.toNatClampNeg))))] := hD
      have e9 := Option.some.inj hf
      subst e9
      exact kr_v hx hb hr hlocks hK hS (hP.sub [0, 1, 2, 3] rfl) (hD.sub [0, 1, 2, 3] (by decide) rfl) dX3_swap_108
    · have hf := og_t c29 hf
      refine lv_iconst (v := 1) hx hb dX3_swap_100 (by decide) ?_
      refine lv_goto (tgt := 105) hx hb dX3_swap_101 (by decide) ?_
      refine va_put (D := (dC, dI)) (ci := 3) (v := .int 1) (ty := .boolean) (C := RX3) (T := TX3) (N := 12) hx hb hts ki_X_swap_X3 tyX3 tyX3_ok nmX3 hown hK hP hD hS 0 rfl rfl 11 (by decide) (hts (.fieldLink RX3 41 "MinorStepsModel" "odd" "Z") kw_X_swap_1) (fun _ h9 => h9) rfl (by decide +kernel) rfl rfl (Nat.le_of_ble_eq_true rfl) dX3_swap_105 (fun H locs hP hD hS => ?_)
      have hP : va_P (dC, dI) vwCl [(q_t, .inr (3, [.int t_n, .int t_room, .ref q_t_limbs, .ref q_t_signs, .ref q_t_rows, .int t_chosen, .int t_chosenSign, .int t_chosenLimbs, .int t_state, .int t_done, .int t_pivots, .int 1])), (q_t_limbs, .inl (cA, n_t_limbs, .inl x22.2.1)), (q_t_signs, .inl (cA, n_t_signs, .inl x22.2.2)), (q_t_rows, .inl (cA, n_t_rows, .inl (upd (upd a_t_rows ii.toNatClampNeg (a_t_rows kk.toNatClampNeg)) kk.toNatClampNeg (a_t_rows ii.toNatClampNeg))))] H := hP
      have hD : va_D A [(q_t, .inr (3, [.int t_n, .int t_room, .ref q_t_limbs, .ref q_t_signs, .ref q_t_rows, .int t_chosen, .int t_chosenSign, .int t_chosenLimbs, .int t_state, .int t_done, .int t_pivots, .int 1])), (q_t_limbs, .inl (cA, n_t_limbs, .inl x22.2.1)), (q_t_signs, .inl (cA, n_t_signs, .inl x22.2.2)), (q_t_rows, .inl (cA, n_t_rows, .inl (upd (upd a_t_rows ii.toNatClampNeg (a_t_rows kk.toNatClampNeg)) kk.toNatClampNeg (a_t_rows ii.toNatClampNeg))))] := hD
      have e9 := Option.some.inj hf
      subst e9
      exact kr_v hx hb hr hlocks hK hS (hP.sub [0, 1, 2, 3] rfl) (hD.sub [0, 1, 2, 3] (by decide) rfl) dX3_swap_108
  · have hf := og_t c28 hf
    refine lv_aload_n hx hb dX3_swap_86 rfl (lv_at hl 1 rfl) ?_
    refine va_get (D := (dC, dI)) (ci := 3) (v := .int t_odd) (C := RX3) (T := TX3) (N := 12) hx hb hts ki_X_swap_X3 hown hK hP 0 rfl rfl 11 (by decide) (hts (.fieldLink RX3 41 "MinorStepsModel" "odd" "Z") kw_X_swap_1) (fun _ h9 => h9) rfl dX3_swap_87 ?_
    refine lv_goto (tgt := 105) hx hb dX3_swap_90 (by decide) ?_
    obtain ⟨g30, hf⟩ := og_c hf
    refine va_put (D := (dC, dI)) (ci := 3) (v := .int t_odd) (ty := .boolean) (C := RX3) (T := TX3) (N := 12) hx hb hts ki_X_swap_X3 tyX3 tyX3_ok nmX3 hown hK hP hD hS 0 rfl rfl 11 (by decide) (hts (.fieldLink RX3 41 "MinorStepsModel" "odd" "Z") kw_X_swap_1) (fun _ h9 => h9) rfl (by decide +kernel) (og_z g30) (og_zf g30) (Nat.le_of_ble_eq_true rfl) dX3_swap_105 (fun H locs hP hD hS => ?_)
    have hP : va_P (dC, dI) vwCl [(q_t, .inr (3, [.int t_n, .int t_room, .ref q_t_limbs, .ref q_t_signs, .ref q_t_rows, .int t_chosen, .int t_chosenSign, .int t_chosenLimbs, .int t_state, .int t_done, .int t_pivots, .int t_odd])), (q_t_limbs, .inl (cA, n_t_limbs, .inl x22.2.1)), (q_t_signs, .inl (cA, n_t_signs, .inl x22.2.2)), (q_t_rows, .inl (cA, n_t_rows, .inl (upd (upd a_t_rows ii.toNatClampNeg (a_t_rows kk.toNatClampNeg)) kk.toNatClampNeg (a_t_rows ii.toNatClampNeg))))] H := hP
    have hD : va_D A [(q_t, .inr (3, [.int t_n, .int t_room, .ref q_t_limbs, .ref q_t_signs, .ref q_t_rows, .int t_chosen, .int t_chosenSign, .int t_chosenLimbs, .int t_state, .int t_done, .int t_pivots, .int t_odd])), (q_t_limbs, .inl (cA, n_t_limbs, .inl x22.2.1)), (q_t_signs, .inl (cA, n_t_signs, .inl x22.2.2)), (q_t_rows, .inl (cA, n_t_rows, .inl (upd (upd a_t_rows ii.toNatClampNeg (a_t_rows kk.toNatClampNeg)) kk.toNatClampNeg (a_t_rows ii.toNatClampNeg))))] := hD
    have e9 := Option.some.inj hf
    subst e9
    exact kr_v hx hb hr hlocks hK hS (hP.sub [0, 1, 2, 3] rfl) (hD.sub [0, 1, 2, 3] (by decide) rfl) dX3_swap_108
def rm_X_eliminate : Room := { frames := 2, cells := 0, slots := 0, locals := 65 }
theorem kw_X_eliminate_0 : (.fieldLink RX3 19 "MinorStepsModel" "n" "I" : Cond) ∈ wsX3_eliminate := by decide +kernel
theorem kw_X_eliminate_1 : (.fieldLink RX3 13 "MinorStepsModel" "signs" "[I" : Cond) ∈ wsX3_eliminate := by decide +kernel
theorem kw_X_eliminate_2 : (.fieldLink RX3 38 "MinorStepsModel" "pivots" "I" : Cond) ∈ wsX3_eliminate := by decide +kernel
theorem kw_X_eliminate_3 : (.fieldLink RX3 23 "MinorStepsModel" "room" "I" : Cond) ∈ wsX3_eliminate := by decide +kernel
theorem ki_X_eliminate_X3 : ∀ w ∈ u_ws RX3 TX3 12, w ∈ wsX3_eliminate := by decide +kernel
set_option maxHeartbeats 4000000 in
set_option maxRecDepth 100000 in
theorem w_X_eliminate_L2 {p : Program} {l : Launch} {e : Env} {s : State} {m : MethodId} {args : Array Value} {below : List Frame} {meth : Method} {c : Code} {Q : State → Prop} {A : Nat → Prop} {H0 : Heap} {dC : Nat → ClassId} {dI : Nat → Nat → Nat} {cA : ClassId} (hx : p.tables.exec = Jvm.exec) (hb : c.code = cX3_eliminate) (hown : s.vm.findClass RX3 = some m.cls) (hts : ∀ w ∈ wsX3_eliminate, w.before args s = true) (hml : c.maxLocals = 5) (hA : ∀ q, H0.size ≤ q → A q) (hK : va_K (dC, dI) vwCl [(cA, .int)] s) (k : Nat) (q_t : Nat) (q_t_limbs : Nat) (q_t_signs : Nat) (q_t_rows : Nat) (v1 : Int32) (i0_t : Int32) (i1_t : Int32) (i5_t : Int32) (i6_t : Int32) (i7_t : Int32) (i8_t : Int32) (i9_t : Int32) (i10_t : Int32) (i11_t : Int32) (n_t_limbs : Nat) (a_t_limbs : Nat → Int32) (n_t_signs : Nat) (a_t_signs : Nat → Int32) (n_t_rows : Nat) (a_t_rows : Nat → Int32) : ∀ (j : Nat) (v2 : Int32) (o : Int32), f_X_eliminate_L2 k v1 i0_t n_t_signs a_t_signs j v2 = some o → ∀ (H : Heap) (locs : List Loc), va_P (dC, dI) vwCl [(q_t, .inr (3, [.int i0_t, .int i1_t, .ref q_t_limbs, .ref q_t_signs, .ref q_t_rows, .int i5_t, .int i6_t, .int i7_t, .int i8_t, .int i9_t, .int i10_t, .int i11_t])), (q_t_limbs, .inl (cA, n_t_limbs, .inl a_t_limbs)), (q_t_signs, .inl (cA, n_t_signs, .inl a_t_signs)), (q_t_rows, .inl (cA, n_t_rows, .inl a_t_rows))] H → va_D A [(q_t, .inr (3, [.int i0_t, .int i1_t, .ref q_t_limbs, .ref q_t_signs, .ref q_t_rows, .int i5_t, .int i6_t, .int i7_t, .int i8_t, .int i9_t, .int i10_t, .int i11_t])), (q_t_limbs, .inl (cA, n_t_limbs, .inl a_t_limbs)), (q_t_signs, .inl (cA, n_t_signs, .inl a_t_signs)), (q_t_rows, .inl (cA, n_t_rows, .inl a_t_rows))] → va_S A H0 H locs → ∀ ls : Array Slot, lv_has ls 5 [(0, .ref q_t), (1, .int v1), (2, .int v2)] → ∀ (he : ∀ (H : Heap) (locs : List Loc), va_P (dC, dI) vwCl [(q_t, .inr (3, [.int i0_t, .int i1_t, .ref q_t_limbs, .ref q_t_signs, .ref q_t_rows, .int i5_t, .int i6_t, .int i7_t, .int i8_t, .int i9_t, .int i10_t, .int i11_t])), (q_t_limbs, .inl (cA, n_t_limbs, .inl a_t_limbs)), (q_t_signs, .inl (cA, n_t_signs, .inl a_t_signs)), (q_t_rows, .inl (cA, n_t_rows, .inl a_t_rows))] H → va_D A [(q_t, .inr (3, [.int i0_t, .int i1_t, .ref q_t_limbs, .ref q_t_signs, .ref q_t_rows, .int i5_t, .int i6_t, .int i7_t, .int i8_t, .int i9_t, .int i10_t, .int i11_t])), (q_t_limbs, .inl (cA, n_t_limbs, .inl a_t_limbs)), (q_t_signs, .inl (cA, n_t_signs, .inl a_t_signs)), (q_t_rows, .inl (cA, n_t_rows, .inl a_t_rows))] → va_S A H0 H locs → ∀ ls : Array Slot, lv_has ls 5 [(0, .ref q_t), (1, .int v1), (2, .int o)] → W p l e rm_X_eliminate s m args below meth c H locs 0 0 Q (F0 m 30 ls [])), W p l e rm_X_eliminate s m args below meth c H locs 0 0 Q (F0 m 2 ls []) := by
  intro j
  induction j with
  | zero =>
    intro v2 o hf
    rw [f_X_eliminate_L2] at hf
    cases hf
  | succ j ih =>
    intro v2 o hf H locs hP hD hS ls hl he
    rw [f_X_eliminate_L2] at hf
    refine lv_iload_n hx hb dX3_eliminate_2 rfl (lv_at hl 2 rfl) ?_
    refine lv_aload_n hx hb dX3_eliminate_3 rfl (lv_at hl 0 rfl) ?_
    refine va_get (D := (dC, dI)) (ci := 3) (v := .int i0_t) (C := RX3) (T := TX3) (N := 12) hx hb hts ki_X_eliminate_X3 hown hK hP 0 rfl rfl 0 (by decide) (hts (.fieldLink RX3 19 "MinorStepsModel" "n" "I") kw_X_eliminate_0) (fun _ h9 => h9) rfl dX3_eliminate_4 ?_
    refine lv_icmp_ge (tgt := 30) hx hb dX3_eliminate_7 (by decide) (fun c11 => ?_) (fun c11 => ?_)
    · have hf := og_t c11 hf
      have e9 := Option.some.inj hf
      subst e9
      exact he _ _ (hP.sub [0, 1, 2, 3] rfl) (hD.sub [0, 1, 2, 3] (by decide) rfl) hS _ (lv_sub hl [0, 1, 2] rfl)
    · have hf := og_f c11 hf
      refine lv_aload_n hx hb dX3_eliminate_10 rfl (lv_at hl 0 rfl) ?_
      refine va_get (D := (dC, dI)) (ci := 3) (v := .ref q_t_signs) (C := RX3) (T := TX3) (N := 12) hx hb hts ki_X_eliminate_X3 hown hK hP 0 rfl rfl 3 (by decide) (hts (.fieldLink RX3 13 "MinorStepsModel" "signs" "[I") kw_X_eliminate_1) (fun _ h9 => h9) rfl dX3_eliminate_11 ?_
      refine lv_aload_n hx hb dX3_eliminate_14 rfl (lv_at hl 0 rfl) ?_
      refine lv_iload_n hx hb dX3_eliminate_15 rfl (lv_at hl 2 rfl) ?_
      refine lv_iload_n hx hb dX3_eliminate_16 rfl (lv_at hl 1 rfl) ?_
      obtain ⟨x12, g13, hf⟩ := og_b hf
      refine kc_i (wr := []) (w1 := [(q_t, .inr (3, [.int i0_t, .int i1_t, .ref q_t_limbs, .ref q_t_signs, .ref q_t_rows, .int i5_t, .int i6_t, .int i7_t, .int i8_t, .int i9_t, .int i10_t, .int i11_t])), (q_t_limbs, .inl (cA, n_t_limbs, .inl a_t_limbs)), (q_t_signs, .inl (cA, n_t_signs, .inl a_t_signs)), (q_t_rows, .inl (cA, n_t_rows, .inl a_t_rows))]) [0, 1, 2, 3] [] (va_runV (As := [.int v2, .int v1]) (rest := [.ref q_t_signs]) ⟨hx, hb, hml, hown, hts⟩ (c_X_place l dC dI cA H.size q_t q_t_limbs q_t_signs q_t_rows i0_t i1_t i5_t i6_t i7_t i8_t i9_t i10_t i11_t n_t_limbs a_t_limbs n_t_signs a_t_signs n_t_rows a_t_rows v2 v1 x12 g13) (cwV 2 hts gX3_eliminate_X3_place rfl rfl rfl (by decide +kernel) ⟨Nat.le_of_ble_eq_true rfl, Nat.le_of_ble_eq_true rfl⟩) (kc_preV hP hD hK [0, 1, 2, 3] rfl rfl (by decide) (ci := 3) (q0 := 0) rfl rfl) rfl rfl hl.1 rfl (lv_room (Nat.le_of_ble_eq_true rfl)) dX3_eliminate_17 ⟨Nat.le_of_ble_eq_true rfl, Nat.le_of_ble_eq_true rfl⟩) hP hD hS hA rfl rfl (by decide) (by decide) (fun H locs hP hD hS => ?_)
      have hP : va_P (dC, dI) vwCl [(q_t, .inr (3, [.int i0_t, .int i1_t, .ref q_t_limbs, .ref q_t_signs, .ref q_t_rows, .int i5_t, .int i6_t, .int i7_t, .int i8_t, .int i9_t, .int i10_t, .int i11_t])), (q_t_limbs, .inl (cA, n_t_limbs, .inl a_t_limbs)), (q_t_signs, .inl (cA, n_t_signs, .inl a_t_signs)), (q_t_rows, .inl (cA, n_t_rows, .inl a_t_rows))] H := hP
      have hD : va_D A [(q_t, .inr (3, [.int i0_t, .int i1_t, .ref q_t_limbs, .ref q_t_signs, .ref q_t_rows, .int i5_t, .int i6_t, .int i7_t, .int i8_t, .int i9_t, .int i10_t, .int i11_t])), (q_t_limbs, .inl (cA, n_t_limbs, .inl a_t_limbs)), (q_t_signs, .inl (cA, n_t_signs, .inl a_t_signs)), (q_t_rows, .inl (cA, n_t_rows, .inl a_t_rows))] := hD
      obtain ⟨g14, hf⟩ := og_c hf
      refine va_iald hx hb hK hP 2 0 rfl rfl (og_in g14) dX3_eliminate_20 ?_
      refine lv_if_ne (tgt := 30) hx hb dX3_eliminate_21 (by decide) (fun c15 => ?_) (fun c15 => ?_)
      · have hf := og_f c15 hf
        have e9 := Option.some.inj hf
        subst e9
        exact he _ _ (hP.sub [0, 1, 2, 3] rfl) (hD.sub [0, 1, 2, 3] (by decide) rfl) hS _ (lv_sub hl [0, 1, 2] rfl)
      · have hf := og_t c15 hf
        refine lv_iinc (v := v2 + 1) (lv' := [(2, .int (v2 + 1)), (0, .ref q_t), (1, .int v1)]) hx hb dX3_eliminate_24 hl (k := 2) rfl rfl (by decide) rfl (fun ls hl => ?_)
        refine lv_goto (tgt := 2) hx hb dX3_eliminate_27 (by decide) ?_
        exact ih (v2 + 1) _ hf _ _ (hP.sub [0, 1, 2, 3] rfl) (hD.sub [0, 1, 2, 3] (by decide) rfl) hS _ (lv_sub hl [1, 2, 0] rfl) he
set_option maxHeartbeats 4000000 in
set_option maxRecDepth 100000 in
theorem w_X_eliminate_L70 {p : Program} {l : Launch} {e : Env} {s : State} {m : MethodId} {args : Array Value} {below : List Frame} {meth : Method} {c : Code} {Q : State → Prop} {A : Nat → Prop} {H0 : Heap} {dC : Nat → ClassId} {dI : Nat → Nat → Nat} {cA : ClassId} (hx : p.tables.exec = Jvm.exec) (hb : c.code = cX3_eliminate) (hown : s.vm.findClass RX3 = some m.cls) (hts : ∀ w ∈ wsX3_eliminate, w.before args s = true) (hml : c.maxLocals = 5) (hA : ∀ q, H0.size ≤ q → A q) (hK : va_K (dC, dI) vwCl [(cA, .int)] s) (k : Nat) (q_t : Nat) (q_t_limbs : Nat) (q_t_signs : Nat) (q_t_rows : Nat) (v1 : Int32) (v3 : Int32) (i0_t : Int32) (i1_t : Int32) (i5_t : Int32) (i6_t : Int32) (i7_t : Int32) (i8_t : Int32) (i9_t : Int32) (i10_t : Int32) (i11_t : Int32) (n_t_limbs : Nat) (n_t_signs : Nat) (n_t_rows : Nat) (a_t_rows : Nat → Int32) : ∀ (j : Nat) (v4 : Int32) (a_t_limbs : Nat → Int32) (a_t_signs : Nat → Int32) (o : Bool × Int32 × Int32 × (Nat → Int32) × (Nat → Int32)), f_X_eliminate_L70 k v1 v3 i0_t i1_t n_t_limbs n_t_signs j v4 a_t_limbs a_t_signs = some o → ∀ (H : Heap) (locs : List Loc), va_P (dC, dI) vwCl [(q_t, .inr (3, [.int i0_t, .int i1_t, .ref q_t_limbs, .ref q_t_signs, .ref q_t_rows, .int i5_t, .int i6_t, .int i7_t, .int i8_t, .int i9_t, .int i10_t, .int i11_t])), (q_t_limbs, .inl (cA, n_t_limbs, .inl a_t_limbs)), (q_t_signs, .inl (cA, n_t_signs, .inl a_t_signs)), (q_t_rows, .inl (cA, n_t_rows, .inl a_t_rows))] H → va_D A [(q_t, .inr (3, [.int i0_t, .int i1_t, .ref q_t_limbs, .ref q_t_signs, .ref q_t_rows, .int i5_t, .int i6_t, .int i7_t, .int i8_t, .int i9_t, .int i10_t, .int i11_t])), (q_t_limbs, .inl (cA, n_t_limbs, .inl a_t_limbs)), (q_t_signs, .inl (cA, n_t_signs, .inl a_t_signs)), (q_t_rows, .inl (cA, n_t_rows, .inl a_t_rows))] → va_S A H0 H locs → ∀ ls : Array Slot, lv_has ls 5 [(0, .ref q_t), (1, .int v1), (3, .int v3), (4, .int v4)] → ∀ (he : ¬ o.1 = true → ∀ (H : Heap) (locs : List Loc), va_P (dC, dI) vwCl [(q_t, .inr (3, [.int i0_t, .int i1_t, .ref q_t_limbs, .ref q_t_signs, .ref q_t_rows, .int i5_t, .int i6_t, .int i7_t, .int i8_t, .int i9_t, .int i10_t, .int i11_t])), (q_t_limbs, .inl (cA, n_t_limbs, .inl o.2.2.2.1)), (q_t_signs, .inl (cA, n_t_signs, .inl o.2.2.2.2)), (q_t_rows, .inl (cA, n_t_rows, .inl a_t_rows))] H → va_D A [(q_t, .inr (3, [.int i0_t, .int i1_t, .ref q_t_limbs, .ref q_t_signs, .ref q_t_rows, .int i5_t, .int i6_t, .int i7_t, .int i8_t, .int i9_t, .int i10_t, .int i11_t])), (q_t_limbs, .inl (cA, n_t_limbs, .inl o.2.2.2.1)), (q_t_signs, .inl (cA, n_t_signs, .inl o.2.2.2.2)), (q_t_rows, .inl (cA, n_t_rows, .inl a_t_rows))] → va_S A H0 H locs → ∀ ls : Array Slot, lv_has ls 5 [(0, .ref q_t), (1, .int v1), (3, .int v3)] → W p l e rm_X_eliminate s m args below meth c H locs 0 0 Q (F0 m 185 ls [])) (hrt : o.1 = true → ∀ (H : Heap) (locs : List Loc), va_P (dC, dI) vwCl [(q_t, .inr (3, [.int i0_t, .int i1_t, .ref q_t_limbs, .ref q_t_signs, .ref q_t_rows, .int i5_t, .int i6_t, .int i7_t, .int i8_t, .int i9_t, .int i10_t, .int i11_t])), (q_t_limbs, .inl (cA, n_t_limbs, .inl o.2.2.2.1)), (q_t_signs, .inl (cA, n_t_signs, .inl o.2.2.2.2)), (q_t_rows, .inl (cA, n_t_rows, .inl a_t_rows))] H → va_D A [(q_t, .inr (3, [.int i0_t, .int i1_t, .ref q_t_limbs, .ref q_t_signs, .ref q_t_rows, .int i5_t, .int i6_t, .int i7_t, .int i8_t, .int i9_t, .int i10_t, .int i11_t])), (q_t_limbs, .inl (cA, n_t_limbs, .inl o.2.2.2.1)), (q_t_signs, .inl (cA, n_t_signs, .inl o.2.2.2.2)), (q_t_rows, .inl (cA, n_t_rows, .inl a_t_rows))] → va_S A H0 H locs → ∀ ls : Array Slot, W p l e rm_X_eliminate s m args below meth c H locs 0 0 Q (F0 m 165 ls [.int o.2.1])), W p l e rm_X_eliminate s m args below meth c H locs 0 0 Q (F0 m 70 ls []) := by
  intro j
  induction j with
  | zero =>
    intro v4 a_t_limbs a_t_signs o hf
    rw [f_X_eliminate_L70] at hf
    cases hf
  | succ j ih =>
    intro v4 a_t_limbs a_t_signs o hf H locs hP hD hS ls hl he hrt
    rw [f_X_eliminate_L70] at hf
    refine lv_iload hx hb dX3_eliminate_70 (lv_at hl 3 rfl) ?_
    refine lv_aload_n hx hb dX3_eliminate_72 rfl (lv_at hl 0 rfl) ?_
    refine va_get (D := (dC, dI)) (ci := 3) (v := .int i0_t) (C := RX3) (T := TX3) (N := 12) hx hb hts ki_X_eliminate_X3 hown hK hP 0 rfl rfl 0 (by decide) (hts (.fieldLink RX3 19 "MinorStepsModel" "n" "I") kw_X_eliminate_0) (fun _ h9 => h9) rfl dX3_eliminate_73 ?_
    refine lv_icmp_gt (tgt := 185) hx hb dX3_eliminate_76 (by decide) (fun c216 => ?_) (fun c216 => ?_)
    · have hf := og_t c216 hf
      have e9 := Option.some.inj hf
      subst e9
      exact he (fun h9 => Bool.false_ne_true h9) _ _ (hP.sub [0, 1, 2, 3] rfl) (hD.sub [0, 1, 2, 3] (by decide) rfl) hS _ (lv_sub hl [0, 1, 2] rfl)
    · have hf := og_f c216 hf
      refine lv_aload_n hx hb dX3_eliminate_79 rfl (lv_at hl 0 rfl) ?_
      refine lv_aload_n hx hb dX3_eliminate_80 rfl (lv_at hl 0 rfl) ?_
      refine lv_iload_n hx hb dX3_eliminate_81 rfl (lv_at hl 1 rfl) ?_
      refine lv_iload_n hx hb dX3_eliminate_82 rfl (lv_at hl 1 rfl) ?_
      obtain ⟨x217, g218, hf⟩ := og_b hf
      refine kc_i (wr := []) (w1 := [(q_t, .inr (3, [.int i0_t, .int i1_t, .ref q_t_limbs, .ref q_t_signs, .ref q_t_rows, .int i5_t, .int i6_t, .int i7_t, .int i8_t, .int i9_t, .int i10_t, .int i11_t])), (q_t_limbs, .inl (cA, n_t_limbs, .inl a_t_limbs)), (q_t_signs, .inl (cA, n_t_signs, .inl a_t_signs)), (q_t_rows, .inl (cA, n_t_rows, .inl a_t_rows))]) [0, 1, 2, 3] [] (va_runV (As := [.int v1, .int v1]) (rest := [.ref q_t]) ⟨hx, hb, hml, hown, hts⟩ (c_X_place l dC dI cA H.size q_t q_t_limbs q_t_signs q_t_rows i0_t i1_t i5_t i6_t i7_t i8_t i9_t i10_t i11_t n_t_limbs a_t_limbs n_t_signs a_t_signs n_t_rows a_t_rows v1 v1 x217 g218) (cwV 2 hts gX3_eliminate_X3_place rfl rfl rfl (by decide +kernel) ⟨Nat.le_of_ble_eq_true rfl, Nat.le_of_ble_eq_true rfl⟩) (kc_preV hP hD hK [0, 1, 2, 3] rfl rfl (by decide) (ci := 3) (q0 := 0) rfl rfl) rfl rfl hl.1 rfl (lv_room (Nat.le_of_ble_eq_true rfl)) dX3_eliminate_83 ⟨Nat.le_of_ble_eq_true rfl, Nat.le_of_ble_eq_true rfl⟩) hP hD hS hA rfl rfl (by decide) (by decide) (fun H locs hP hD hS => ?_)
      have hP : va_P (dC, dI) vwCl [(q_t, .inr (3, [.int i0_t, .int i1_t, .ref q_t_limbs, .ref q_t_signs, .ref q_t_rows, .int i5_t, .int i6_t, .int i7_t, .int i8_t, .int i9_t, .int i10_t, .int i11_t])), (q_t_limbs, .inl (cA, n_t_limbs, .inl a_t_limbs)), (q_t_signs, .inl (cA, n_t_signs, .inl a_t_signs)), (q_t_rows, .inl (cA, n_t_rows, .inl a_t_rows))] H := hP
      have hD : va_D A [(q_t, .inr (3, [.int i0_t, .int i1_t, .ref q_t_limbs, .ref q_t_signs, .ref q_t_rows, .int i5_t, .int i6_t, .int i7_t, .int i8_t, .int i9_t, .int i10_t, .int i11_t])), (q_t_limbs, .inl (cA, n_t_limbs, .inl a_t_limbs)), (q_t_signs, .inl (cA, n_t_signs, .inl a_t_signs)), (q_t_rows, .inl (cA, n_t_rows, .inl a_t_rows))] := hD
      refine lv_aload_n hx hb dX3_eliminate_86 rfl (lv_at hl 0 rfl) ?_
      refine lv_iload_n hx hb dX3_eliminate_87 rfl (lv_at hl 2 rfl) ?_
      refine lv_iload hx hb dX3_eliminate_88 (lv_at hl 3 rfl) ?_
      obtain ⟨x219, g220, hf⟩ := og_b hf
      refine kc_i (wr := []) (w1 := [(q_t, .inr (3, [.int i0_t, .int i1_t, .ref q_t_limbs, .ref q_t_signs, .ref q_t_rows, .int i5_t, .int i6_t, .int i7_t, .int i8_t, .int i9_t, .int i10_t, .int i11_t])), (q_t_limbs, .inl (cA, n_t_limbs, .inl a_t_limbs)), (q_t_signs, .inl (cA, n_t_signs, .inl a_t_signs)), (q_t_rows, .inl (cA, n_t_rows, .inl a_t_rows))]) [0, 1, 2, 3] [] (va_runV (As := [.int v3, .int v4]) (rest := [.int x217, .ref q_t]) ⟨hx, hb, hml, hown, hts⟩ (c_X_place l dC dI cA H.size q_t q_t_limbs q_t_signs q_t_rows i0_t i1_t i5_t i6_t i7_t i8_t i9_t i10_t i11_t n_t_limbs a_t_limbs n_t_signs a_t_signs n_t_rows a_t_rows v3 v4 x219 g220) (cwV 2 hts gX3_eliminate_X3_place rfl rfl rfl (by decide +kernel) ⟨Nat.le_of_ble_eq_true rfl, Nat.le_of_ble_eq_true rfl⟩) (kc_preV hP hD hK [0, 1, 2, 3] rfl rfl (by decide) (ci := 3) (q0 := 0) rfl rfl) rfl rfl hl.1 rfl (lv_room (Nat.le_of_ble_eq_true rfl)) dX3_eliminate_90 ⟨Nat.le_of_ble_eq_true rfl, Nat.le_of_ble_eq_true rfl⟩) hP hD hS hA rfl rfl (by decide) (by decide) (fun H locs hP hD hS => ?_)
      have hP : va_P (dC, dI) vwCl [(q_t, .inr (3, [.int i0_t, .int i1_t, .ref q_t_limbs, .ref q_t_signs, .ref q_t_rows, .int i5_t, .int i6_t, .int i7_t, .int i8_t, .int i9_t, .int i10_t, .int i11_t])), (q_t_limbs, .inl (cA, n_t_limbs, .inl a_t_limbs)), (q_t_signs, .inl (cA, n_t_signs, .inl a_t_signs)), (q_t_rows, .inl (cA, n_t_rows, .inl a_t_rows))] H := hP
      have hD : va_D A [(q_t, .inr (3, [.int i0_t, .int i1_t, .ref q_t_limbs, .ref q_t_signs, .ref q_t_rows, .int i5_t, .int i6_t, .int i7_t, .int i8_t, .int i9_t, .int i10_t, .int i11_t])), (q_t_limbs, .inl (cA, n_t_limbs, .inl a_t_limbs)), (q_t_signs, .inl (cA, n_t_signs, .inl a_t_signs)), (q_t_rows, .inl (cA, n_t_rows, .inl a_t_rows))] := hD
      obtain ⟨x221, g222, hf⟩ := og_b hf
      refine kc_v (wr := []) (w1 := [(q_t, .inr (3, [.int i0_t, .int i1_t, .ref q_t_limbs, .ref q_t_signs, .ref q_t_rows, .int i5_t, .int i6_t, .int i7_t, .int i8_t, .int i9_t, .int i10_t, .int i11_t])), (q_t_limbs, .inl (cA, n_t_limbs, .inl x221.1)), (q_t_signs, .inl (cA, n_t_signs, .inl x221.2)), (q_t_rows, .inl (cA, n_t_rows, .inl a_t_rows))]) [0, 1, 2, 3] [] (va_runV (As := [.int x217, .int x219]) (rest := []) ⟨hx, hb, hml, hown, hts⟩ (c_X_multiply l dC dI cA H.size q_t q_t_limbs q_t_signs q_t_rows k i0_t i1_t i5_t i6_t i7_t i8_t i9_t i10_t i11_t n_t_limbs a_t_limbs n_t_signs a_t_signs n_t_rows a_t_rows x217 x219 x221 g222) (cwV 2 hts gX3_eliminate_X3_multiply rfl rfl rfl (by decide +kernel) ⟨Nat.le_of_ble_eq_true rfl, Nat.le_of_ble_eq_true rfl⟩) (kc_preV hP hD hK [0, 1, 2, 3] rfl rfl (by decide) (ci := 3) (q0 := 0) rfl rfl) rfl rfl hl.1 rfl (lv_room (Nat.le_of_ble_eq_true rfl)) dX3_eliminate_93 ⟨Nat.le_of_ble_eq_true rfl, Nat.le_of_ble_eq_true rfl⟩) hP hD hS hA rfl rfl (by decide) (by decide) (fun H locs hP hD hS => ?_)
      have hP : va_P (dC, dI) vwCl [(q_t, .inr (3, [.int i0_t, .int i1_t, .ref q_t_limbs, .ref q_t_signs, .ref q_t_rows, .int i5_t, .int i6_t, .int i7_t, .int i8_t, .int i9_t, .int i10_t, .int i11_t])), (q_t_limbs, .inl (cA, n_t_limbs, .inl x221.1)), (q_t_signs, .inl (cA, n_t_signs, .inl x221.2)), (q_t_rows, .inl (cA, n_t_rows, .inl a_t_rows))] H := hP
      have hD : va_D A [(q_t, .inr (3, [.int i0_t, .int i1_t, .ref q_t_limbs, .ref q_t_signs, .ref q_t_rows, .int i5_t, .int i6_t, .int i7_t, .int i8_t, .int i9_t, .int i10_t, .int i11_t])), (q_t_limbs, .inl (cA, n_t_limbs, .inl x221.1)), (q_t_signs, .inl (cA, n_t_signs, .inl x221.2)), (q_t_rows, .inl (cA, n_t_rows, .inl a_t_rows))] := hD
      refine lv_aload_n hx hb dX3_eliminate_96 rfl (lv_at hl 0 rfl) ?_
      refine lv_bipush (v := 48) hx hb dX3_eliminate_97 (by decide) ?_
      refine lv_bipush (v := 49) hx hb dX3_eliminate_99 (by decide) ?_
      obtain ⟨x223, g224, hf⟩ := og_b hf
      refine kc_v (wr := []) (w1 := [(q_t, .inr (3, [.int i0_t, .int i1_t, .ref q_t_limbs, .ref q_t_signs, .ref q_t_rows, .int i5_t, .int i6_t, .int i7_t, .int i8_t, .int i9_t, .int i10_t, .int i11_t])), (q_t_limbs, .inl (cA, n_t_limbs, .inl x223.1)), (q_t_signs, .inl (cA, n_t_signs, .inl x223.2)), (q_t_rows, .inl (cA, n_t_rows, .inl a_t_rows))]) [0, 1, 2, 3] [] (va_runV (As := [.int 48, .int 49]) (rest := []) ⟨hx, hb, hml, hown, hts⟩ (c_X_copy l dC dI cA H.size q_t q_t_limbs q_t_signs q_t_rows k i0_t i1_t i5_t i6_t i7_t i8_t i9_t i10_t i11_t n_t_limbs x221.1 n_t_signs x221.2 n_t_rows a_t_rows (48 : Int32) (49 : Int32) x223 g224) (cwV 2 hts gX3_eliminate_X3_copy rfl rfl rfl (by decide +kernel) ⟨Nat.le_of_ble_eq_true rfl, Nat.le_of_ble_eq_true rfl⟩) (kc_preV hP hD hK [0, 1, 2, 3] rfl rfl (by decide) (ci := 3) (q0 := 0) rfl rfl) rfl rfl hl.1 rfl (lv_room (Nat.le_of_ble_eq_true rfl)) dX3_eliminate_101 ⟨Nat.le_of_ble_eq_true rfl, Nat.le_of_ble_eq_true rfl⟩) hP hD hS hA rfl rfl (by decide) (by decide) (fun H locs hP hD hS => ?_)
      have hP : va_P (dC, dI) vwCl [(q_t, .inr (3, [.int i0_t, .int i1_t, .ref q_t_limbs, .ref q_t_signs, .ref q_t_rows, .int i5_t, .int i6_t, .int i7_t, .int i8_t, .int i9_t, .int i10_t, .int i11_t])), (q_t_limbs, .inl (cA, n_t_limbs, .inl x223.1)), (q_t_signs, .inl (cA, n_t_signs, .inl x223.2)), (q_t_rows, .inl (cA, n_t_rows, .inl a_t_rows))] H := hP
      have hD : va_D A [(q_t, .inr (3, [.int i0_t, .int i1_t, .ref q_t_limbs, .ref q_t_signs, .ref q_t_rows, .int i5_t, .int i6_t, .int i7_t, .int i8_t, .int i9_t, .int i10_t, .int i11_t])), (q_t_limbs, .inl (cA, n_t_limbs, .inl x223.1)), (q_t_signs, .inl (cA, n_t_signs, .inl x223.2)), (q_t_rows, .inl (cA, n_t_rows, .inl a_t_rows))] := hD
      refine lv_aload_n hx hb dX3_eliminate_104 rfl (lv_at hl 0 rfl) ?_
      refine lv_aload_n hx hb dX3_eliminate_105 rfl (lv_at hl 0 rfl) ?_
      refine lv_iload_n hx hb dX3_eliminate_106 rfl (lv_at hl 2 rfl) ?_
      refine lv_iload_n hx hb dX3_eliminate_107 rfl (lv_at hl 1 rfl) ?_
      obtain ⟨x225, g226, hf⟩ := og_b hf
      refine kc_i (wr := []) (w1 := [(q_t, .inr (3, [.int i0_t, .int i1_t, .ref q_t_limbs, .ref q_t_signs, .ref q_t_rows, .int i5_t, .int i6_t, .int i7_t, .int i8_t, .int i9_t, .int i10_t, .int i11_t])), (q_t_limbs, .inl (cA, n_t_limbs, .inl x223.1)), (q_t_signs, .inl (cA, n_t_signs, .inl x223.2)), (q_t_rows, .inl (cA, n_t_rows, .inl a_t_rows))]) [0, 1, 2, 3] [] (va_runV (As := [.int v3, .int v1]) (rest := [.ref q_t]) ⟨hx, hb, hml, hown, hts⟩ (c_X_place l dC dI cA H.size q_t q_t_limbs q_t_signs q_t_rows i0_t i1_t i5_t i6_t i7_t i8_t i9_t i10_t i11_t n_t_limbs x223.1 n_t_signs x223.2 n_t_rows a_t_rows v3 v1 x225 g226) (cwV 2 hts gX3_eliminate_X3_place rfl rfl rfl (by decide +kernel) ⟨Nat.le_of_ble_eq_true rfl, Nat.le_of_ble_eq_true rfl⟩) (kc_preV hP hD hK [0, 1, 2, 3] rfl rfl (by decide) (ci := 3) (q0 := 0) rfl rfl) rfl rfl hl.1 rfl (lv_room (Nat.le_of_ble_eq_true rfl)) dX3_eliminate_108 ⟨Nat.le_of_ble_eq_true rfl, Nat.le_of_ble_eq_true rfl⟩) hP hD hS hA rfl rfl (by decide) (by decide) (fun H locs hP hD hS => ?_)
      have hP : va_P (dC, dI) vwCl [(q_t, .inr (3, [.int i0_t, .int i1_t, .ref q_t_limbs, .ref q_t_signs, .ref q_t_rows, .int i5_t, .int i6_t, .int i7_t, .int i8_t, .int i9_t, .int i10_t, .int i11_t])), (q_t_limbs, .inl (cA, n_t_limbs, .inl x223.1)), (q_t_signs, .inl (cA, n_t_signs, .inl x223.2)), (q_t_rows, .inl (cA, n_t_rows, .inl a_t_rows))] H := hP
      have hD : va_D A [(q_t, .inr (3, [.int i0_t, .int i1_t, .ref q_t_limbs, .ref q_t_signs, .ref q_t_rows, .int i5_t, .int i6_t, .int i7_t, .int i8_t, .int i9_t, .int i10_t, .int i11_t])), (q_t_limbs, .inl (cA, n_t_limbs, .inl x223.1)), (q_t_signs, .inl (cA, n_t_signs, .inl x223.2)), (q_t_rows, .inl (cA, n_t_rows, .inl a_t_rows))] := hD
      refine lv_aload_n hx hb dX3_eliminate_111 rfl (lv_at hl 0 rfl) ?_
      refine lv_iload_n hx hb dX3_eliminate_112 rfl (lv_at hl 1 rfl) ?_
      refine lv_iload hx hb dX3_eliminate_113 (lv_at hl 3 rfl) ?_
      obtain ⟨x227, g228, hf⟩ := og_b hf
      refine kc_i (wr := []) (w1 := [(q_t, .inr (3, [.int i0_t, .int i1_t, .ref q_t_limbs, .ref q_t_signs, .ref q_t_rows, .int i5_t, .int i6_t, .int i7_t, .int i8_t, .int i9_t, .int i10_t, .int i11_t])), (q_t_limbs, .inl (cA, n_t_limbs, .inl x223.1)), (q_t_signs, .inl (cA, n_t_signs, .inl x223.2)), (q_t_rows, .inl (cA, n_t_rows, .inl a_t_rows))]) [0, 1, 2, 3] [] (va_runV (As := [.int v1, .int v4]) (rest := [.int x225, .ref q_t]) ⟨hx, hb, hml, hown, hts⟩ (c_X_place l dC dI cA H.size q_t q_t_limbs q_t_signs q_t_rows i0_t i1_t i5_t i6_t i7_t i8_t i9_t i10_t i11_t n_t_limbs x223.1 n_t_signs x223.2 n_t_rows a_t_rows v1 v4 x227 g228) (cwV 2 hts gX3_eliminate_X3_place rfl rfl rfl (by decide +kernel) ⟨Nat.le_of_ble_eq_true rfl, Nat.le_of_ble_eq_true rfl⟩) (kc_preV hP hD hK [0, 1, 2, 3] rfl rfl (by decide) (ci := 3) (q0 := 0) rfl rfl) rfl rfl hl.1 rfl (lv_room (Nat.le_of_ble_eq_true rfl)) dX3_eliminate_115 ⟨Nat.le_of_ble_eq_true rfl, Nat.le_of_ble_eq_true rfl⟩) hP hD hS hA rfl rfl (by decide) (by decide) (fun H locs hP hD hS => ?_)
      have hP : va_P (dC, dI) vwCl [(q_t, .inr (3, [.int i0_t, .int i1_t, .ref q_t_limbs, .ref q_t_signs, .ref q_t_rows, .int i5_t, .int i6_t, .int i7_t, .int i8_t, .int i9_t, .int i10_t, .int i11_t])), (q_t_limbs, .inl (cA, n_t_limbs, .inl x223.1)), (q_t_signs, .inl (cA, n_t_signs, .inl x223.2)), (q_t_rows, .inl (cA, n_t_rows, .inl a_t_rows))] H := hP
      have hD : va_D A [(q_t, .inr (3, [.int i0_t, .int i1_t, .ref q_t_limbs, .ref q_t_signs, .ref q_t_rows, .int i5_t, .int i6_t, .int i7_t, .int i8_t, .int i9_t, .int i10_t, .int i11_t])), (q_t_limbs, .inl (cA, n_t_limbs, .inl x223.1)), (q_t_signs, .inl (cA, n_t_signs, .inl x223.2)), (q_t_rows, .inl (cA, n_t_rows, .inl a_t_rows))] := hD
      obtain ⟨x229, g230, hf⟩ := og_b hf
      refine kc_v (wr := []) (w1 := [(q_t, .inr (3, [.int i0_t, .int i1_t, .ref q_t_limbs, .ref q_t_signs, .ref q_t_rows, .int i5_t, .int i6_t, .int i7_t, .int i8_t, .int i9_t, .int i10_t, .int i11_t])), (q_t_limbs, .inl (cA, n_t_limbs, .inl x229.1)), (q_t_signs, .inl (cA, n_t_signs, .inl x229.2)), (q_t_rows, .inl (cA, n_t_rows, .inl a_t_rows))]) [0, 1, 2, 3] [] (va_runV (As := [.int x225, .int x227]) (rest := []) ⟨hx, hb, hml, hown, hts⟩ (c_X_multiply l dC dI cA H.size q_t q_t_limbs q_t_signs q_t_rows k i0_t i1_t i5_t i6_t i7_t i8_t i9_t i10_t i11_t n_t_limbs x223.1 n_t_signs x223.2 n_t_rows a_t_rows x225 x227 x229 g230) (cwV 2 hts gX3_eliminate_X3_multiply rfl rfl rfl (by decide +kernel) ⟨Nat.le_of_ble_eq_true rfl, Nat.le_of_ble_eq_true rfl⟩) (kc_preV hP hD hK [0, 1, 2, 3] rfl rfl (by decide) (ci := 3) (q0 := 0) rfl rfl) rfl rfl hl.1 rfl (lv_room (Nat.le_of_ble_eq_true rfl)) dX3_eliminate_118 ⟨Nat.le_of_ble_eq_true rfl, Nat.le_of_ble_eq_true rfl⟩) hP hD hS hA rfl rfl (by decide) (by decide) (fun H locs hP hD hS => ?_)
      have hP : va_P (dC, dI) vwCl [(q_t, .inr (3, [.int i0_t, .int i1_t, .ref q_t_limbs, .ref q_t_signs, .ref q_t_rows, .int i5_t, .int i6_t, .int i7_t, .int i8_t, .int i9_t, .int i10_t, .int i11_t])), (q_t_limbs, .inl (cA, n_t_limbs, .inl x229.1)), (q_t_signs, .inl (cA, n_t_signs, .inl x229.2)), (q_t_rows, .inl (cA, n_t_rows, .inl a_t_rows))] H := hP
      have hD : va_D A [(q_t, .inr (3, [.int i0_t, .int i1_t, .ref q_t_limbs, .ref q_t_signs, .ref q_t_rows, .int i5_t, .int i6_t, .int i7_t, .int i8_t, .int i9_t, .int i10_t, .int i11_t])), (q_t_limbs, .inl (cA, n_t_limbs, .inl x229.1)), (q_t_signs, .inl (cA, n_t_signs, .inl x229.2)), (q_t_rows, .inl (cA, n_t_rows, .inl a_t_rows))] := hD
      refine lv_aload_n hx hb dX3_eliminate_121 rfl (lv_at hl 0 rfl) ?_
      obtain ⟨x231, g232, hf⟩ := og_b hf
      refine kc_v (wr := []) (w1 := [(q_t, .inr (3, [.int i0_t, .int i1_t, .ref q_t_limbs, .ref q_t_signs, .ref q_t_rows, .int i5_t, .int i6_t, .int i7_t, .int i8_t, .int i9_t, .int i10_t, .int i11_t])), (q_t_limbs, .inl (cA, n_t_limbs, .inl x231.1)), (q_t_signs, .inl (cA, n_t_signs, .inl x231.2)), (q_t_rows, .inl (cA, n_t_rows, .inl a_t_rows))]) [0, 1, 2, 3] [] (va_runV (As := []) (rest := []) ⟨hx, hb, hml, hown, hts⟩ (c_X_less l dC dI cA H.size q_t q_t_limbs q_t_signs q_t_rows k i0_t i1_t i5_t i6_t i7_t i8_t i9_t i10_t i11_t n_t_limbs x229.1 n_t_signs x229.2 n_t_rows a_t_rows x231 g232) (cwV 0 hts gX3_eliminate_X3_less rfl rfl rfl (by decide +kernel) ⟨Nat.le_of_ble_eq_true rfl, Nat.le_of_ble_eq_true rfl⟩) (kc_preV hP hD hK [0, 1, 2, 3] rfl rfl (by decide) (ci := 3) (q0 := 0) rfl rfl) rfl rfl hl.1 rfl (lv_room (Nat.le_of_ble_eq_true rfl)) dX3_eliminate_122 ⟨Nat.le_of_ble_eq_true rfl, Nat.le_of_ble_eq_true rfl⟩) hP hD hS hA rfl rfl (by decide) (by decide) (fun H locs hP hD hS => ?_)
      have hP : va_P (dC, dI) vwCl [(q_t, .inr (3, [.int i0_t, .int i1_t, .ref q_t_limbs, .ref q_t_signs, .ref q_t_rows, .int i5_t, .int i6_t, .int i7_t, .int i8_t, .int i9_t, .int i10_t, .int i11_t])), (q_t_limbs, .inl (cA, n_t_limbs, .inl x231.1)), (q_t_signs, .inl (cA, n_t_signs, .inl x231.2)), (q_t_rows, .inl (cA, n_t_rows, .inl a_t_rows))] H := hP
      have hD : va_D A [(q_t, .inr (3, [.int i0_t, .int i1_t, .ref q_t_limbs, .ref q_t_signs, .ref q_t_rows, .int i5_t, .int i6_t, .int i7_t, .int i8_t, .int i9_t, .int i10_t, .int i11_t])), (q_t_limbs, .inl (cA, n_t_limbs, .inl x231.1)), (q_t_signs, .inl (cA, n_t_signs, .inl x231.2)), (q_t_rows, .inl (cA, n_t_rows, .inl a_t_rows))] := hD
      refine lv_aload_n hx hb dX3_eliminate_125 rfl (lv_at hl 0 rfl) ?_
      refine lv_bipush (v := 49) hx hb dX3_eliminate_126 (by decide) ?_
      refine lv_bipush (v := 52) hx hb dX3_eliminate_128 (by decide) ?_
      obtain ⟨x233, g234, hf⟩ := og_b hf
      refine kc_v (wr := []) (w1 := [(q_t, .inr (3, [.int i0_t, .int i1_t, .ref q_t_limbs, .ref q_t_signs, .ref q_t_rows, .int i5_t, .int i6_t, .int i7_t, .int i8_t, .int i9_t, .int i10_t, .int i11_t])), (q_t_limbs, .inl (cA, n_t_limbs, .inl x233.1)), (q_t_signs, .inl (cA, n_t_signs, .inl x233.2)), (q_t_rows, .inl (cA, n_t_rows, .inl a_t_rows))]) [0, 1, 2, 3] [] (va_runV (As := [.int 49, .int 52]) (rest := []) ⟨hx, hb, hml, hown, hts⟩ (c_X_copy l dC dI cA H.size q_t q_t_limbs q_t_signs q_t_rows k i0_t i1_t i5_t i6_t i7_t i8_t i9_t i10_t i11_t n_t_limbs x231.1 n_t_signs x231.2 n_t_rows a_t_rows (49 : Int32) (52 : Int32) x233 g234) (cwV 2 hts gX3_eliminate_X3_copy rfl rfl rfl (by decide +kernel) ⟨Nat.le_of_ble_eq_true rfl, Nat.le_of_ble_eq_true rfl⟩) (kc_preV hP hD hK [0, 1, 2, 3] rfl rfl (by decide) (ci := 3) (q0 := 0) rfl rfl) rfl rfl hl.1 rfl (lv_room (Nat.le_of_ble_eq_true rfl)) dX3_eliminate_130 ⟨Nat.le_of_ble_eq_true rfl, Nat.le_of_ble_eq_true rfl⟩) hP hD hS hA rfl rfl (by decide) (by decide) (fun H locs hP hD hS => ?_)
      have hP : va_P (dC, dI) vwCl [(q_t, .inr (3, [.int i0_t, .int i1_t, .ref q_t_limbs, .ref q_t_signs, .ref q_t_rows, .int i5_t, .int i6_t, .int i7_t, .int i8_t, .int i9_t, .int i10_t, .int i11_t])), (q_t_limbs, .inl (cA, n_t_limbs, .inl x233.1)), (q_t_signs, .inl (cA, n_t_signs, .inl x233.2)), (q_t_rows, .inl (cA, n_t_rows, .inl a_t_rows))] H := hP
      have hD : va_D A [(q_t, .inr (3, [.int i0_t, .int i1_t, .ref q_t_limbs, .ref q_t_signs, .ref q_t_rows, .int i5_t, .int i6_t, .int i7_t, .int i8_t, .int i9_t, .int i10_t, .int i11_t])), (q_t_limbs, .inl (cA, n_t_limbs, .inl x233.1)), (q_t_signs, .inl (cA, n_t_signs, .inl x233.2)), (q_t_rows, .inl (cA, n_t_rows, .inl a_t_rows))] := hD
      refine lv_iload_n hx hb dX3_eliminate_133 rfl (lv_at hl 1 rfl) ?_
      refine lv_if_le (tgt := 151) hx hb dX3_eliminate_134 (by decide) (fun c235 => ?_) (fun c235 => ?_)
      · have hf := og_t c235 hf
        refine lv_aload_n hx hb dX3_eliminate_151 rfl (lv_at hl 0 rfl) ?_
        refine lv_bipush (v := 52) hx hb dX3_eliminate_152 (by decide) ?_
        obtain ⟨x236, g237, hf⟩ := og_b hf
        refine kc_i (wr := []) (w1 := [(q_t, .inr (3, [.int i0_t, .int i1_t, .ref q_t_limbs, .ref q_t_signs, .ref q_t_rows, .int i5_t, .int i6_t, .int i7_t, .int i8_t, .int i9_t, .int i10_t, .int i11_t])), (q_t_limbs, .inl (cA, n_t_limbs, .inl x233.1)), (q_t_signs, .inl (cA, n_t_signs, .inl x233.2)), (q_t_rows, .inl (cA, n_t_rows, .inl a_t_rows))]) [0, 1, 2, 3] [] (va_runV (As := [.int 52]) (rest := []) ⟨hx, hb, hml, hown, hts⟩ (c_X_count l dC dI cA H.size q_t q_t_limbs q_t_signs q_t_rows k i0_t i1_t i5_t i6_t i7_t i8_t i9_t i10_t i11_t n_t_limbs x233.1 n_t_signs x233.2 n_t_rows a_t_rows (52 : Int32) x236 g237) (cwV 1 hts gX3_eliminate_X3_count rfl rfl rfl (by decide +kernel) ⟨Nat.le_of_ble_eq_true rfl, Nat.le_of_ble_eq_true rfl⟩) (kc_preV hP hD hK [0, 1, 2, 3] rfl rfl (by decide) (ci := 3) (q0 := 0) rfl rfl) rfl rfl hl.1 rfl (lv_room (Nat.le_of_ble_eq_true rfl)) dX3_eliminate_154 ⟨Nat.le_of_ble_eq_true rfl, Nat.le_of_ble_eq_true rfl⟩) hP hD hS hA rfl rfl (by decide) (by decide) (fun H locs hP hD hS => ?_)
        have hP : va_P (dC, dI) vwCl [(q_t, .inr (3, [.int i0_t, .int i1_t, .ref q_t_limbs, .ref q_t_signs, .ref q_t_rows, .int i5_t, .int i6_t, .int i7_t, .int i8_t, .int i9_t, .int i10_t, .int i11_t])), (q_t_limbs, .inl (cA, n_t_limbs, .inl x233.1)), (q_t_signs, .inl (cA, n_t_signs, .inl x233.2)), (q_t_rows, .inl (cA, n_t_rows, .inl a_t_rows))] H := hP
        have hD : va_D A [(q_t, .inr (3, [.int i0_t, .int i1_t, .ref q_t_limbs, .ref q_t_signs, .ref q_t_rows, .int i5_t, .int i6_t, .int i7_t, .int i8_t, .int i9_t, .int i10_t, .int i11_t])), (q_t_limbs, .inl (cA, n_t_limbs, .inl x233.1)), (q_t_signs, .inl (cA, n_t_signs, .inl x233.2)), (q_t_rows, .inl (cA, n_t_rows, .inl a_t_rows))] := hD
        refine lv_aload_n hx hb dX3_eliminate_157 rfl (lv_at hl 0 rfl) ?_
        refine va_get (D := (dC, dI)) (ci := 3) (v := .int i1_t) (C := RX3) (T := TX3) (N := 12) hx hb hts ki_X_eliminate_X3 hown hK hP 0 rfl rfl 1 (by decide) (hts (.fieldLink RX3 23 "MinorStepsModel" "room" "I") kw_X_eliminate_3) (fun _ h9 => h9) rfl dX3_eliminate_158 ?_
        refine lv_icmp_le (tgt := 166) hx hb dX3_eliminate_161 (by decide) (fun c238 => ?_) (fun c238 => ?_)
        · have hf := og_t c238 hf
          refine lv_aload_n hx hb dX3_eliminate_166 rfl (lv_at hl 0 rfl) ?_
          refine lv_bipush (v := 52) hx hb dX3_eliminate_167 (by decide) ?_
          refine lv_aload_n hx hb dX3_eliminate_169 rfl (lv_at hl 0 rfl) ?_
          refine lv_iload_n hx hb dX3_eliminate_170 rfl (lv_at hl 2 rfl) ?_
          refine lv_iload hx hb dX3_eliminate_171 (lv_at hl 3 rfl) ?_
          obtain ⟨x239, g240, hf⟩ := og_b hf
          refine kc_i (wr := []) (w1 := [(q_t, .inr (3, [.int i0_t, .int i1_t, .ref q_t_limbs, .ref q_t_signs, .ref q_t_rows, .int i5_t, .int i6_t, .int i7_t, .int i8_t, .int i9_t, .int i10_t, .int i11_t])), (q_t_limbs, .inl (cA, n_t_limbs, .inl x233.1)), (q_t_signs, .inl (cA, n_t_signs, .inl x233.2)), (q_t_rows, .inl (cA, n_t_rows, .inl a_t_rows))]) [0, 1, 2, 3] [] (va_runV (As := [.int v3, .int v4]) (rest := [.int 52, .ref q_t]) ⟨hx, hb, hml, hown, hts⟩ (c_X_place l dC dI cA H.size q_t q_t_limbs q_t_signs q_t_rows i0_t i1_t i5_t i6_t i7_t i8_t i9_t i10_t i11_t n_t_limbs x233.1 n_t_signs x233.2 n_t_rows a_t_rows v3 v4 x239 g240) (cwV 2 hts gX3_eliminate_X3_place rfl rfl rfl (by decide +kernel) ⟨Nat.le_of_ble_eq_true rfl, Nat.le_of_ble_eq_true rfl⟩) (kc_preV hP hD hK [0, 1, 2, 3] rfl rfl (by decide) (ci := 3) (q0 := 0) rfl rfl) rfl rfl hl.1 rfl (lv_room (Nat.le_of_ble_eq_true rfl)) dX3_eliminate_173 ⟨Nat.le_of_ble_eq_true rfl, Nat.le_of_ble_eq_true rfl⟩) hP hD hS hA rfl rfl (by decide) (by decide) (fun H locs hP hD hS => ?_)
          have hP : va_P (dC, dI) vwCl [(q_t, .inr (3, [.int i0_t, .int i1_t, .ref q_t_limbs, .ref q_t_signs, .ref q_t_rows, .int i5_t, .int i6_t, .int i7_t, .int i8_t, .int i9_t, .int i10_t, .int i11_t])), (q_t_limbs, .inl (cA, n_t_limbs, .inl x233.1)), (q_t_signs, .inl (cA, n_t_signs, .inl x233.2)), (q_t_rows, .inl (cA, n_t_rows, .inl a_t_rows))] H := hP
          have hD : va_D A [(q_t, .inr (3, [.int i0_t, .int i1_t, .ref q_t_limbs, .ref q_t_signs, .ref q_t_rows, .int i5_t, .int i6_t, .int i7_t, .int i8_t, .int i9_t, .int i10_t, .int i11_t])), (q_t_limbs, .inl (cA, n_t_limbs, .inl x233.1)), (q_t_signs, .inl (cA, n_t_signs, .inl x233.2)), (q_t_rows, .inl (cA, n_t_rows, .inl a_t_rows))] := hD
          obtain ⟨x241, g242, hf⟩ := og_b hf
          refine kc_v (wr := []) (w1 := [(q_t, .inr (3, [.int i0_t, .int i1_t, .ref q_t_limbs, .ref q_t_signs, .ref q_t_rows, .int i5_t, .int i6_t, .int i7_t, .int i8_t, .int i9_t, .int i10_t, .int i11_t])), (q_t_limbs, .inl (cA, n_t_limbs, .inl x241.1)), (q_t_signs, .inl (cA, n_t_signs, .inl x241.2)), (q_t_rows, .inl (cA, n_t_rows, .inl a_t_rows))]) [0, 1, 2, 3] [] (va_runV (As := [.int 52, .int x239]) (rest := []) ⟨hx, hb, hml, hown, hts⟩ (c_X_copy l dC dI cA H.size q_t q_t_limbs q_t_signs q_t_rows k i0_t i1_t i5_t i6_t i7_t i8_t i9_t i10_t i11_t n_t_limbs x233.1 n_t_signs x233.2 n_t_rows a_t_rows (52 : Int32) x239 x241 g242) (cwV 2 hts gX3_eliminate_X3_copy rfl rfl rfl (by decide +kernel) ⟨Nat.le_of_ble_eq_true rfl, Nat.le_of_ble_eq_true rfl⟩) (kc_preV hP hD hK [0, 1, 2, 3] rfl rfl (by decide) (ci := 3) (q0 := 0) rfl rfl) rfl rfl hl.1 rfl (lv_room (Nat.le_of_ble_eq_true rfl)) dX3_eliminate_176 ⟨Nat.le_of_ble_eq_true rfl, Nat.le_of_ble_eq_true rfl⟩) hP hD hS hA rfl rfl (by decide) (by decide) (fun H locs hP hD hS => ?_)
          have hP : va_P (dC, dI) vwCl [(q_t, .inr (3, [.int i0_t, .int i1_t, .ref q_t_limbs, .ref q_t_signs, .ref q_t_rows, .int i5_t, .int i6_t, .int i7_t, .int i8_t, .int i9_t, .int i10_t, .int i11_t])), (q_t_limbs, .inl (cA, n_t_limbs, .inl x241.1)), (q_t_signs, .inl (cA, n_t_signs, .inl x241.2)), (q_t_rows, .inl (cA, n_t_rows, .inl a_t_rows))] H := hP
          have hD : va_D A [(q_t, .inr (3, [.int i0_t, .int i1_t, .ref q_t_limbs, .ref q_t_signs, .ref q_t_rows, .int i5_t, .int i6_t, .int i7_t, .int i8_t, .int i9_t, .int i10_t, .int i11_t])), (q_t_limbs, .inl (cA, n_t_limbs, .inl x241.1)), (q_t_signs, .inl (cA, n_t_signs, .inl x241.2)), (q_t_rows, .inl (cA, n_t_rows, .inl a_t_rows))] := hD
          refine lv_iinc (v := v4 + 1) (lv' := [(4, .int (v4 + 1)), (0, .ref q_t), (1, .int v1), (3, .int v3)]) hx hb dX3_eliminate_179 hl (k := 3) rfl rfl (by decide) rfl (fun ls hl => ?_)
          refine lv_goto (tgt := 70) hx hb dX3_eliminate_182 (by decide) ?_
          exact ih (v4 + 1) x241.1 x241.2 _ hf _ _ (hP.sub [0, 1, 2, 3] rfl) (hD.sub [0, 1, 2, 3] (by decide) rfl) hS _ (lv_sub hl [1, 2, 3, 0] rfl) he hrt
        · have hf := og_f c238 hf
          refine lv_iconst (v := 3) hx hb dX3_eliminate_164 (by decide) ?_
          have e9 := Option.some.inj hf
          subst e9
          exact hrt rfl _ _ (hP.sub [0, 1, 2, 3] rfl) (hD.sub [0, 1, 2, 3] (by decide) rfl) hS _
      · have hf := og_f c235 hf
        refine lv_aload_n hx hb dX3_eliminate_137 rfl (lv_at hl 0 rfl) ?_
        refine lv_aload_n hx hb dX3_eliminate_138 rfl (lv_at hl 0 rfl) ?_
        refine lv_iload_n hx hb dX3_eliminate_139 rfl (lv_at hl 1 rfl) ?_
        refine lv_iconst (v := 1) hx hb dX3_eliminate_140 (by decide) ?_
        refine lv_isub hx hb dX3_eliminate_141 ?_
        refine lv_iload_n hx hb dX3_eliminate_142 rfl (lv_at hl 1 rfl) ?_
        refine lv_iconst (v := 1) hx hb dX3_eliminate_143 (by decide) ?_
        refine lv_isub hx hb dX3_eliminate_144 ?_
        obtain ⟨x243, g244, hf⟩ := og_b hf
        refine kc_i (wr := []) (w1 := [(q_t, .inr (3, [.int i0_t, .int i1_t, .ref q_t_limbs, .ref q_t_signs, .ref q_t_rows, .int i5_t, .int i6_t, .int i7_t, .int i8_t, .int i9_t, .int i10_t, .int i11_t])), (q_t_limbs, .inl (cA, n_t_limbs, .inl x233.1)), (q_t_signs, .inl (cA, n_t_signs, .inl x233.2)), (q_t_rows, .inl (cA, n_t_rows, .inl a_t_rows))]) [0, 1, 2, 3] [] (va_runV (As := [.int (v1 - 1), .int (v1 - 1)]) (rest := [.ref q_t]) ⟨hx, hb, hml, hown, hts⟩ (c_X_place l dC dI cA H.size q_t q_t_limbs q_t_signs q_t_rows i0_t i1_t i5_t i6_t i7_t i8_t i9_t i10_t i11_t n_t_limbs x233.1 n_t_signs x233.2 n_t_rows a_t_rows (v1 - 1) (v1 - 1) x243 g244) (cwV 2 hts gX3_eliminate_X3_place rfl rfl rfl (by decide +kernel) ⟨Nat.le_of_ble_eq_true rfl, Nat.le_of_ble_eq_true rfl⟩) (kc_preV hP hD hK [0, 1, 2, 3] rfl rfl (by decide) (ci := 3) (q0 := 0) rfl rfl) rfl rfl hl.1 rfl (lv_room (Nat.le_of_ble_eq_true rfl)) dX3_eliminate_145 ⟨Nat.le_of_ble_eq_true rfl, Nat.le_of_ble_eq_true rfl⟩) hP hD hS hA rfl rfl (by decide) (by decide) (fun H locs hP hD hS => ?_)
        have hP : va_P (dC, dI) vwCl [(q_t, .inr (3, [.int i0_t, .int i1_t, .ref q_t_limbs, .ref q_t_signs, .ref q_t_rows, .int i5_t, .int i6_t, .int i7_t, .int i8_t, .int i9_t, .int i10_t, .int i11_t])), (q_t_limbs, .inl (cA, n_t_limbs, .inl x233.1)), (q_t_signs, .inl (cA, n_t_signs, .inl x233.2)), (q_t_rows, .inl (cA, n_t_rows, .inl a_t_rows))] H := hP
        have hD : va_D A [(q_t, .inr (3, [.int i0_t, .int i1_t, .ref q_t_limbs, .ref q_t_signs, .ref q_t_rows, .int i5_t, .int i6_t, .int i7_t, .int i8_t, .int i9_t, .int i10_t, .int i11_t])), (q_t_limbs, .inl (cA, n_t_limbs, .inl x233.1)), (q_t_signs, .inl (cA, n_t_signs, .inl x233.2)), (q_t_rows, .inl (cA, n_t_rows, .inl a_t_rows))] := hD
        obtain ⟨x245, g246, hf⟩ := og_b hf
        refine kc_v (wr := []) (w1 := [(q_t, .inr (3, [.int i0_t, .int i1_t, .ref q_t_limbs, .ref q_t_signs, .ref q_t_rows, .int i5_t, .int i6_t, .int i7_t, .int i8_t, .int i9_t, .int i10_t, .int i11_t])), (q_t_limbs, .inl (cA, n_t_limbs, .inl x245.1)), (q_t_signs, .inl (cA, n_t_signs, .inl x245.2)), (q_t_rows, .inl (cA, n_t_rows, .inl a_t_rows))]) [0, 1, 2, 3] [] (va_runV (As := [.int x243]) (rest := []) ⟨hx, hb, hml, hown, hts⟩ (c_X_divide l dC dI cA H.size q_t q_t_limbs q_t_signs q_t_rows k i0_t i1_t i5_t i6_t i7_t i8_t i9_t i10_t i11_t n_t_limbs x233.1 n_t_signs x233.2 n_t_rows a_t_rows x243 x245 g246) (cwV 1 hts gX3_eliminate_X3_divide rfl rfl rfl (by decide +kernel) ⟨Nat.le_of_ble_eq_true rfl, Nat.le_of_ble_eq_true rfl⟩) (kc_preV hP hD hK [0, 1, 2, 3] rfl rfl (by decide) (ci := 3) (q0 := 0) rfl rfl) rfl rfl hl.1 rfl (lv_room (Nat.le_of_ble_eq_true rfl)) dX3_eliminate_148 ⟨Nat.le_of_ble_eq_true rfl, Nat.le_of_ble_eq_true rfl⟩) hP hD hS hA rfl rfl (by decide) (by decide) (fun H locs hP hD hS => ?_)
        have hP : va_P (dC, dI) vwCl [(q_t, .inr (3, [.int i0_t, .int i1_t, .ref q_t_limbs, .ref q_t_signs, .ref q_t_rows, .int i5_t, .int i6_t, .int i7_t, .int i8_t, .int i9_t, .int i10_t, .int i11_t])), (q_t_limbs, .inl (cA, n_t_limbs, .inl x245.1)), (q_t_signs, .inl (cA, n_t_signs, .inl x245.2)), (q_t_rows, .inl (cA, n_t_rows, .inl a_t_rows))] H := hP
        have hD : va_D A [(q_t, .inr (3, [.int i0_t, .int i1_t, .ref q_t_limbs, .ref q_t_signs, .ref q_t_rows, .int i5_t, .int i6_t, .int i7_t, .int i8_t, .int i9_t, .int i10_t, .int i11_t])), (q_t_limbs, .inl (cA, n_t_limbs, .inl x245.1)), (q_t_signs, .inl (cA, n_t_signs, .inl x245.2)), (q_t_rows, .inl (cA, n_t_rows, .inl a_t_rows))] := hD
        refine lv_aload_n hx hb dX3_eliminate_151 rfl (lv_at hl 0 rfl) ?_
        refine lv_bipush (v := 52) hx hb dX3_eliminate_152 (by decide) ?_
        obtain ⟨x247, g248, hf⟩ := og_b hf
        refine kc_i (wr := []) (w1 := [(q_t, .inr (3, [.int i0_t, .int i1_t, .ref q_t_limbs, .ref q_t_signs, .ref q_t_rows, .int i5_t, .int i6_t, .int i7_t, .int i8_t, .int i9_t, .int i10_t, .int i11_t])), (q_t_limbs, .inl (cA, n_t_limbs, .inl x245.1)), (q_t_signs, .inl (cA, n_t_signs, .inl x245.2)), (q_t_rows, .inl (cA, n_t_rows, .inl a_t_rows))]) [0, 1, 2, 3] [] (va_runV (As := [.int 52]) (rest := []) ⟨hx, hb, hml, hown, hts⟩ (c_X_count l dC dI cA H.size q_t q_t_limbs q_t_signs q_t_rows k i0_t i1_t i5_t i6_t i7_t i8_t i9_t i10_t i11_t n_t_limbs x245.1 n_t_signs x245.2 n_t_rows a_t_rows (52 : Int32) x247 g248) (cwV 1 hts gX3_eliminate_X3_count rfl rfl rfl (by decide +kernel) ⟨Nat.le_of_ble_eq_true rfl, Nat.le_of_ble_eq_true rfl⟩) (kc_preV hP hD hK [0, 1, 2, 3] rfl rfl (by decide) (ci := 3) (q0 := 0) rfl rfl) rfl rfl hl.1 rfl (lv_room (Nat.le_of_ble_eq_true rfl)) dX3_eliminate_154 ⟨Nat.le_of_ble_eq_true rfl, Nat.le_of_ble_eq_true rfl⟩) hP hD hS hA rfl rfl (by decide) (by decide) (fun H locs hP hD hS => ?_)
        have hP : va_P (dC, dI) vwCl [(q_t, .inr (3, [.int i0_t, .int i1_t, .ref q_t_limbs, .ref q_t_signs, .ref q_t_rows, .int i5_t, .int i6_t, .int i7_t, .int i8_t, .int i9_t, .int i10_t, .int i11_t])), (q_t_limbs, .inl (cA, n_t_limbs, .inl x245.1)), (q_t_signs, .inl (cA, n_t_signs, .inl x245.2)), (q_t_rows, .inl (cA, n_t_rows, .inl a_t_rows))] H := hP
        have hD : va_D A [(q_t, .inr (3, [.int i0_t, .int i1_t, .ref q_t_limbs, .ref q_t_signs, .ref q_t_rows, .int i5_t, .int i6_t, .int i7_t, .int i8_t, .int i9_t, .int i10_t, .int i11_t])), (q_t_limbs, .inl (cA, n_t_limbs, .inl x245.1)), (q_t_signs, .inl (cA, n_t_signs, .inl x245.2)), (q_t_rows, .inl (cA, n_t_rows, .inl a_t_rows))] := hD
        refine lv_aload_n hx hb dX3_eliminate_157 rfl (lv_at hl 0 rfl) ?_
        refine va_get (D := (dC, dI)) (ci := 3) (v := .int i1_t) (C := RX3) (T := TX3) (N := 12) hx hb hts ki_X_eliminate_X3 hown hK hP 0 rfl rfl 1 (by decide) (hts (.fieldLink RX3 23 "MinorStepsModel" "room" "I") kw_X_eliminate_3) (fun _ h9 => h9) rfl dX3_eliminate_158 ?_
        refine lv_icmp_le (tgt := 166) hx hb dX3_eliminate_161 (by decide) (fun c249 => ?_) (fun c249 => ?_)
        · have hf := og_t c249 hf
          refine lv_aload_n hx hb dX3_eliminate_166 rfl (lv_at hl 0 rfl) ?_
          refine lv_bipush (v := 52) hx hb dX3_eliminate_167 (by decide) ?_
          refine lv_aload_n hx hb dX3_eliminate_169 rfl (lv_at hl 0 rfl) ?_
          refine lv_iload_n hx hb dX3_eliminate_170 rfl (lv_at hl 2 rfl) ?_
          refine lv_iload hx hb dX3_eliminate_171 (lv_at hl 3 rfl) ?_
          obtain ⟨x250, g251, hf⟩ := og_b hf
          refine kc_i (wr := []) (w1 := [(q_t, .inr (3, [.int i0_t, .int i1_t, .ref q_t_limbs, .ref q_t_signs, .ref q_t_rows, .int i5_t, .int i6_t, .int i7_t, .int i8_t, .int i9_t, .int i10_t, .int i11_t])), (q_t_limbs, .inl (cA, n_t_limbs, .inl x245.1)), (q_t_signs, .inl (cA, n_t_signs, .inl x245.2)), (q_t_rows, .inl (cA, n_t_rows, .inl a_t_rows))]) [0, 1, 2, 3] [] (va_runV (As := [.int v3, .int v4]) (rest := [.int 52, .ref q_t]) ⟨hx, hb, hml, hown, hts⟩ (c_X_place l dC dI cA H.size q_t q_t_limbs q_t_signs q_t_rows i0_t i1_t i5_t i6_t i7_t i8_t i9_t i10_t i11_t n_t_limbs x245.1 n_t_signs x245.2 n_t_rows a_t_rows v3 v4 x250 g251) (cwV 2 hts gX3_eliminate_X3_place rfl rfl rfl (by decide +kernel) ⟨Nat.le_of_ble_eq_true rfl, Nat.le_of_ble_eq_true rfl⟩) (kc_preV hP hD hK [0, 1, 2, 3] rfl rfl (by decide) (ci := 3) (q0 := 0) rfl rfl) rfl rfl hl.1 rfl (lv_room (Nat.le_of_ble_eq_true rfl)) dX3_eliminate_173 ⟨Nat.le_of_ble_eq_true rfl, Nat.le_of_ble_eq_true rfl⟩) hP hD hS hA rfl rfl (by decide) (by decide) (fun H locs hP hD hS => ?_)
          have hP : va_P (dC, dI) vwCl [(q_t, .inr (3, [.int i0_t, .int i1_t, .ref q_t_limbs, .ref q_t_signs, .ref q_t_rows, .int i5_t, .int i6_t, .int i7_t, .int i8_t, .int i9_t, .int i10_t, .int i11_t])), (q_t_limbs, .inl (cA, n_t_limbs, .inl x245.1)), (q_t_signs, .inl (cA, n_t_signs, .inl x245.2)), (q_t_rows, .inl (cA, n_t_rows, .inl a_t_rows))] H := hP
          have hD : va_D A [(q_t, .inr (3, [.int i0_t, .int i1_t, .ref q_t_limbs, .ref q_t_signs, .ref q_t_rows, .int i5_t, .int i6_t, .int i7_t, .int i8_t, .int i9_t, .int i10_t, .int i11_t])), (q_t_limbs, .inl (cA, n_t_limbs, .inl x245.1)), (q_t_signs, .inl (cA, n_t_signs, .inl x245.2)), (q_t_rows, .inl (cA, n_t_rows, .inl a_t_rows))] := hD
          obtain ⟨x252, g253, hf⟩ := og_b hf
          refine kc_v (wr := []) (w1 := [(q_t, .inr (3, [.int i0_t, .int i1_t, .ref q_t_limbs, .ref q_t_signs, .ref q_t_rows, .int i5_t, .int i6_t, .int i7_t, .int i8_t, .int i9_t, .int i10_t, .int i11_t])), (q_t_limbs, .inl (cA, n_t_limbs, .inl x252.1)), (q_t_signs, .inl (cA, n_t_signs, .inl x252.2)), (q_t_rows, .inl (cA, n_t_rows, .inl a_t_rows))]) [0, 1, 2, 3] [] (va_runV (As := [.int 52, .int x250]) (rest := []) ⟨hx, hb, hml, hown, hts⟩ (c_X_copy l dC dI cA H.size q_t q_t_limbs q_t_signs q_t_rows k i0_t i1_t i5_t i6_t i7_t i8_t i9_t i10_t i11_t n_t_limbs x245.1 n_t_signs x245.2 n_t_rows a_t_rows (52 : Int32) x250 x252 g253) (cwV 2 hts gX3_eliminate_X3_copy rfl rfl rfl (by decide +kernel) ⟨Nat.le_of_ble_eq_true rfl, Nat.le_of_ble_eq_true rfl⟩) (kc_preV hP hD hK [0, 1, 2, 3] rfl rfl (by decide) (ci := 3) (q0 := 0) rfl rfl) rfl rfl hl.1 rfl (lv_room (Nat.le_of_ble_eq_true rfl)) dX3_eliminate_176 ⟨Nat.le_of_ble_eq_true rfl, Nat.le_of_ble_eq_true rfl⟩) hP hD hS hA rfl rfl (by decide) (by decide) (fun H locs hP hD hS => ?_)
          have hP : va_P (dC, dI) vwCl [(q_t, .inr (3, [.int i0_t, .int i1_t, .ref q_t_limbs, .ref q_t_signs, .ref q_t_rows, .int i5_t, .int i6_t, .int i7_t, .int i8_t, .int i9_t, .int i10_t, .int i11_t])), (q_t_limbs, .inl (cA, n_t_limbs, .inl x252.1)), (q_t_signs, .inl (cA, n_t_signs, .inl x252.2)), (q_t_rows, .inl (cA, n_t_rows, .inl a_t_rows))] H := hP
          have hD : va_D A [(q_t, .inr (3, [.int i0_t, .int i1_t, .ref q_t_limbs, .ref q_t_signs, .ref q_t_rows, .int i5_t, .int i6_t, .int i7_t, .int i8_t, .int i9_t, .int i10_t, .int i11_t])), (q_t_limbs, .inl (cA, n_t_limbs, .inl x252.1)), (q_t_signs, .inl (cA, n_t_signs, .inl x252.2)), (q_t_rows, .inl (cA, n_t_rows, .inl a_t_rows))] := hD
          refine lv_iinc (v := v4 + 1) (lv' := [(4, .int (v4 + 1)), (0, .ref q_t), (1, .int v1), (3, .int v3)]) hx hb dX3_eliminate_179 hl (k := 3) rfl rfl (by decide) rfl (fun ls hl => ?_)
          refine lv_goto (tgt := 70) hx hb dX3_eliminate_182 (by decide) ?_
          exact ih (v4 + 1) x252.1 x252.2 _ hf _ _ (hP.sub [0, 1, 2, 3] rfl) (hD.sub [0, 1, 2, 3] (by decide) rfl) hS _ (lv_sub hl [1, 2, 3, 0] rfl) he hrt
        · have hf := og_f c249 hf
          refine lv_iconst (v := 3) hx hb dX3_eliminate_164 (by decide) ?_
          have e9 := Option.some.inj hf
          subst e9
          exact hrt rfl _ _ (hP.sub [0, 1, 2, 3] rfl) (hD.sub [0, 1, 2, 3] (by decide) rfl) hS _
set_option maxHeartbeats 4000000 in
set_option maxRecDepth 100000 in
theorem w_X_eliminate_L57 {p : Program} {l : Launch} {e : Env} {s : State} {m : MethodId} {args : Array Value} {below : List Frame} {meth : Method} {c : Code} {Q : State → Prop} {A : Nat → Prop} {H0 : Heap} {dC : Nat → ClassId} {dI : Nat → Nat → Nat} {cA : ClassId} (hx : p.tables.exec = Jvm.exec) (hb : c.code = cX3_eliminate) (hown : s.vm.findClass RX3 = some m.cls) (hts : ∀ w ∈ wsX3_eliminate, w.before args s = true) (hml : c.maxLocals = 5) (hA : ∀ q, H0.size ≤ q → A q) (hK : va_K (dC, dI) vwCl [(cA, .int)] s) (k : Nat) (q_t : Nat) (q_t_limbs : Nat) (q_t_signs : Nat) (q_t_rows : Nat) (v1 : Int32) (i0_t : Int32) (i1_t : Int32) (i5_t : Int32) (i6_t : Int32) (i7_t : Int32) (i8_t : Int32) (i9_t : Int32) (i10_t : Int32) (i11_t : Int32) (n_t_limbs : Nat) (n_t_signs : Nat) (n_t_rows : Nat) (a_t_rows : Nat → Int32) : ∀ (j : Nat) (v3 : Int32) (a_t_limbs : Nat → Int32) (a_t_signs : Nat → Int32) (o : Bool × Int32 × Int32 × (Nat → Int32) × (Nat → Int32)), f_X_eliminate_L57 k v1 i0_t i1_t n_t_limbs n_t_signs j v3 a_t_limbs a_t_signs = some o → ∀ (H : Heap) (locs : List Loc), va_P (dC, dI) vwCl [(q_t, .inr (3, [.int i0_t, .int i1_t, .ref q_t_limbs, .ref q_t_signs, .ref q_t_rows, .int i5_t, .int i6_t, .int i7_t, .int i8_t, .int i9_t, .int i10_t, .int i11_t])), (q_t_limbs, .inl (cA, n_t_limbs, .inl a_t_limbs)), (q_t_signs, .inl (cA, n_t_signs, .inl a_t_signs)), (q_t_rows, .inl (cA, n_t_rows, .inl a_t_rows))] H → va_D A [(q_t, .inr (3, [.int i0_t, .int i1_t, .ref q_t_limbs, .ref q_t_signs, .ref q_t_rows, .int i5_t, .int i6_t, .int i7_t, .int i8_t, .int i9_t, .int i10_t, .int i11_t])), (q_t_limbs, .inl (cA, n_t_limbs, .inl a_t_limbs)), (q_t_signs, .inl (cA, n_t_signs, .inl a_t_signs)), (q_t_rows, .inl (cA, n_t_rows, .inl a_t_rows))] → va_S A H0 H locs → ∀ ls : Array Slot, lv_has ls 5 [(0, .ref q_t), (1, .int v1), (3, .int v3)] → ∀ (he : ¬ o.1 = true → ∀ (H : Heap) (locs : List Loc), va_P (dC, dI) vwCl [(q_t, .inr (3, [.int i0_t, .int i1_t, .ref q_t_limbs, .ref q_t_signs, .ref q_t_rows, .int i5_t, .int i6_t, .int i7_t, .int i8_t, .int i9_t, .int i10_t, .int i11_t])), (q_t_limbs, .inl (cA, n_t_limbs, .inl o.2.2.2.1)), (q_t_signs, .inl (cA, n_t_signs, .inl o.2.2.2.2)), (q_t_rows, .inl (cA, n_t_rows, .inl a_t_rows))] H → va_D A [(q_t, .inr (3, [.int i0_t, .int i1_t, .ref q_t_limbs, .ref q_t_signs, .ref q_t_rows, .int i5_t, .int i6_t, .int i7_t, .int i8_t, .int i9_t, .int i10_t, .int i11_t])), (q_t_limbs, .inl (cA, n_t_limbs, .inl o.2.2.2.1)), (q_t_signs, .inl (cA, n_t_signs, .inl o.2.2.2.2)), (q_t_rows, .inl (cA, n_t_rows, .inl a_t_rows))] → va_S A H0 H locs → ∀ ls : Array Slot, lv_has ls 5 [] → W p l e rm_X_eliminate s m args below meth c H locs 0 0 Q (F0 m 191 ls [])) (hrt : o.1 = true → ∀ (H : Heap) (locs : List Loc), va_P (dC, dI) vwCl [(q_t, .inr (3, [.int i0_t, .int i1_t, .ref q_t_limbs, .ref q_t_signs, .ref q_t_rows, .int i5_t, .int i6_t, .int i7_t, .int i8_t, .int i9_t, .int i10_t, .int i11_t])), (q_t_limbs, .inl (cA, n_t_limbs, .inl o.2.2.2.1)), (q_t_signs, .inl (cA, n_t_signs, .inl o.2.2.2.2)), (q_t_rows, .inl (cA, n_t_rows, .inl a_t_rows))] H → va_D A [(q_t, .inr (3, [.int i0_t, .int i1_t, .ref q_t_limbs, .ref q_t_signs, .ref q_t_rows, .int i5_t, .int i6_t, .int i7_t, .int i8_t, .int i9_t, .int i10_t, .int i11_t])), (q_t_limbs, .inl (cA, n_t_limbs, .inl o.2.2.2.1)), (q_t_signs, .inl (cA, n_t_signs, .inl o.2.2.2.2)), (q_t_rows, .inl (cA, n_t_rows, .inl a_t_rows))] → va_S A H0 H locs → ∀ ls : Array Slot, W p l e rm_X_eliminate s m args below meth c H locs 0 0 Q (F0 m 165 ls [.int o.2.1])), W p l e rm_X_eliminate s m args below meth c H locs 0 0 Q (F0 m 57 ls []) := by
  intro j
  induction j with
  | zero =>
    intro v3 a_t_limbs a_t_signs o hf
    rw [f_X_eliminate_L57] at hf
    cases hf
  | succ j ih =>
    intro v3 a_t_limbs a_t_signs o hf H locs hP hD hS ls hl he hrt
    rw [f_X_eliminate_L57] at hf
    refine lv_iload_n hx hb dX3_eliminate_57 rfl (lv_at hl 2 rfl) ?_
    refine lv_aload_n hx hb dX3_eliminate_58 rfl (lv_at hl 0 rfl) ?_
    refine va_get (D := (dC, dI)) (ci := 3) (v := .int i0_t) (C := RX3) (T := TX3) (N := 12) hx hb hts ki_X_eliminate_X3 hown hK hP 0 rfl rfl 0 (by decide) (hts (.fieldLink RX3 19 "MinorStepsModel" "n" "I") kw_X_eliminate_0) (fun _ h9 => h9) rfl dX3_eliminate_59 ?_
    refine lv_icmp_ge (tgt := 191) hx hb dX3_eliminate_62 (by decide) (fun c257 => ?_) (fun c257 => ?_)
    · have hf := og_t c257 hf
      have e9 := Option.some.inj hf
      subst e9
      exact he (fun h9 => Bool.false_ne_true h9) _ _ (hP.sub [0, 1, 2, 3] rfl) (hD.sub [0, 1, 2, 3] (by decide) rfl) hS _ (lv_sub hl [] rfl)
    · have hf := og_f c257 hf
      refine lv_iload_n hx hb dX3_eliminate_65 rfl (lv_at hl 1 rfl) ?_
      refine lv_iconst (v := 1) hx hb dX3_eliminate_66 (by decide) ?_
      refine lv_iadd hx hb dX3_eliminate_67 ?_
      refine lv_istore (lv' := [(4, .int (v1 + 1)), (0, .ref q_t), (1, .int v1), (3, .int v3)]) hx hb dX3_eliminate_68 hl (by decide) rfl (fun ls hl => ?_)
      obtain ⟨x258, g259, hf⟩ := og_b hf
      by_cases c260 : x258.1 = true
      · have hf := og_t c260 hf
        refine w_X_eliminate_L70 hx hb hown hts hml hA hK k q_t q_t_limbs q_t_signs q_t_rows v1 v3 i0_t i1_t i5_t i6_t i7_t i8_t i9_t i10_t i11_t n_t_limbs n_t_signs n_t_rows a_t_rows k (v1 + 1) a_t_limbs a_t_signs _ g259 _ _ (hP.sub [0, 1, 2, 3] rfl) (hD.sub [0, 1, 2, 3] (by decide) rfl) hS _ (lv_sub hl [1, 2, 3, 0] rfl) (fun e9 => absurd c260 e9) (fun _ H locs hP hD hS ls => ?_)
        have e9 := Option.some.inj hf
        subst e9
        exact hrt rfl _ _ (hP.sub [0, 1, 2, 3] rfl) (hD.sub [0, 1, 2, 3] (by decide) rfl) hS _
      · have hf := og_f c260 hf
        refine w_X_eliminate_L70 hx hb hown hts hml hA hK k q_t q_t_limbs q_t_signs q_t_rows v1 v3 i0_t i1_t i5_t i6_t i7_t i8_t i9_t i10_t i11_t n_t_limbs n_t_signs n_t_rows a_t_rows k (v1 + 1) a_t_limbs a_t_signs _ g259 _ _ (hP.sub [0, 1, 2, 3] rfl) (hD.sub [0, 1, 2, 3] (by decide) rfl) hS _ (lv_sub hl [1, 2, 3, 0] rfl) (fun _ H locs hP hD hS ls hl => ?_) (fun e9 => absurd e9 c260)
        refine lv_iinc (v := v3 + 1) (lv' := [(3, .int (v3 + 1)), (0, .ref q_t), (1, .int v1)]) hx hb dX3_eliminate_185 hl (k := 2) rfl rfl (by decide) rfl (fun ls hl => ?_)
        refine lv_goto (tgt := 57) hx hb dX3_eliminate_188 (by decide) ?_
        exact ih (v3 + 1) x258.2.2.2.1 x258.2.2.2.2 _ hf _ _ (hP.sub [0, 1, 2, 3] rfl) (hD.sub [0, 1, 2, 3] (by decide) rfl) hS _ (lv_sub hl [1, 2, 0] rfl) he hrt
set_option maxHeartbeats 4000000 in
set_option maxRecDepth 100000 in
theorem c_X_eliminate (l : Launch) (dC : Nat → ClassId) (dI : Nat → Nat → Nat) (cA : ClassId) (sz : Nat) (q_t : Nat) (q_t_limbs : Nat) (q_t_signs : Nat) (q_t_rows : Nat) (k : Nat) (t_n : Int32) (t_room : Int32) (t_chosen : Int32) (t_chosenSign : Int32) (t_chosenLimbs : Int32) (t_state : Int32) (t_done : Int32) (t_pivots : Int32) (t_odd : Int32) (n_t_limbs : Nat) (a_t_limbs : Nat → Int32) (n_t_signs : Nat) (a_t_signs : Nat → Int32) (n_t_rows : Nat) (a_t_rows : Nat → Int32) (kk : Int32) (o : Int32 × Int32 × Int32 × (Nat → Int32) × (Nat → Int32) × (Nat → Int32)) (hf : f_X_eliminate k t_n t_room t_pivots t_odd n_t_limbs a_t_limbs n_t_signs a_t_signs n_t_rows a_t_rows kk = some o) : Met l yX3_eliminate wsX3_eliminate rm_X_eliminate (c_Pre (dC, dI) vwCl [(cA, .int)] [(q_t, .inr (3, [.int t_n, .int t_room, .ref q_t_limbs, .ref q_t_signs, .ref q_t_rows, .int t_chosen, .int t_chosenSign, .int t_chosenLimbs, .int t_state, .int t_done, .int t_pivots, .int t_odd])), (q_t_limbs, .inl (cA, n_t_limbs, .inl a_t_limbs)), (q_t_signs, .inl (cA, n_t_signs, .inl a_t_signs)), (q_t_rows, .inl (cA, n_t_rows, .inl a_t_rows))] sz [.ref q_t, .int kk]) (c_Qi (dC, dI) vwCl [(cA, .int)] [(q_t, .inr (3, [.int t_n, .int t_room, .ref q_t_limbs, .ref q_t_signs, .ref q_t_rows, .int t_chosen, .int t_chosenSign, .int t_chosenLimbs, .int t_state, .int t_done, .int o.2.1, .int o.2.2.1])), (q_t_limbs, .inl (cA, n_t_limbs, .inl o.2.2.2.1)), (q_t_signs, .inl (cA, n_t_signs, .inl o.2.2.2.2.1)), (q_t_rows, .inl (cA, n_t_rows, .inl o.2.2.2.2.2))] (va_A [(q_t, .inr (3, [.int t_n, .int t_room, .ref q_t_limbs, .ref q_t_signs, .ref q_t_rows, .int t_chosen, .int t_chosenSign, .int t_chosenLimbs, .int t_state, .int t_done, .int t_pivots, .int t_odd])), (q_t_limbs, .inl (cA, n_t_limbs, .inl a_t_limbs)), (q_t_signs, .inl (cA, n_t_signs, .inl a_t_signs)), (q_t_rows, .inl (cA, n_t_rows, .inl a_t_rows))] sz) o.1) 0 0 (va_A [(q_t, .inr (3, [.int t_n, .int t_room, .ref q_t_limbs, .ref q_t_signs, .ref q_t_rows, .int t_chosen, .int t_chosenSign, .int t_chosenLimbs, .int t_state, .int t_done, .int t_pivots, .int t_odd])), (q_t_limbs, .inl (cA, n_t_limbs, .inl a_t_limbs)), (q_t_signs, .inl (cA, n_t_signs, .inl a_t_signs)), (q_t_rows, .inl (cA, n_t_rows, .inl a_t_rows))] sz) := by
  unfold f_X_eliminate at hf
  refine k_ent (Qc := fun A => c_Qi (dC, dI) vwCl [(cA, .int)] [(q_t, .inr (3, [.int t_n, .int t_room, .ref q_t_limbs, .ref q_t_signs, .ref q_t_rows, .int t_chosen, .int t_chosenSign, .int t_chosenLimbs, .int t_state, .int t_done, .int o.2.1, .int o.2.2.1])), (q_t_limbs, .inl (cA, n_t_limbs, .inl o.2.2.2.1)), (q_t_signs, .inl (cA, n_t_signs, .inl o.2.2.2.2.1)), (q_t_rows, .inl (cA, n_t_rows, .inl o.2.2.2.2.2))] A o.1) (by decide) rfl (Nat.le_of_ble_eq_true rfl) ?_
  intro p e s m below meth c A hx hb hr hown hts hml hlocks hin hsz hA hK H locs hP hD hS ls hl
  have hown : s.vm.findClass RX3 = some m.cls := hown
  have hl : lv_has ls 5 [(0, .ref q_t), (1, .int kk)] := hl
  refine lv_iload_n hx hb dX3_eliminate_0 rfl (lv_at hl 1 rfl) ?_
  refine lv_istore_n (lv' := [(2, .int kk), (0, .ref q_t), (1, .int kk)]) hx hb dX3_eliminate_1 rfl hl (by decide) rfl (fun ls hl => ?_)
  obtain ⟨x16, g17, hf⟩ := og_b hf
  refine w_X_eliminate_L2 hx hb hown hts hml hA hK k q_t q_t_limbs q_t_signs q_t_rows kk t_n t_room t_chosen t_chosenSign t_chosenLimbs t_state t_done t_pivots t_odd n_t_limbs a_t_limbs n_t_signs a_t_signs n_t_rows a_t_rows k kk _ g17 _ _ (hP.sub [0, 1, 2, 3] rfl) (hD.sub [0, 1, 2, 3] (by decide) rfl) hS _ (lv_sub hl [1, 2, 0] rfl) ?_
  intro H locs hP hD hS ls hl
  refine lv_iload_n hx hb dX3_eliminate_30 rfl (lv_at hl 2 rfl) ?_
  refine lv_aload_n hx hb dX3_eliminate_31 rfl (lv_at hl 0 rfl) ?_
  refine va_get (D := (dC, dI)) (ci := 3) (v := .int t_n) (C := RX3) (T := TX3) (N := 12) hx hb hts ki_X_eliminate_X3 hown hK hP 0 rfl rfl 0 (by decide) (hts (.fieldLink RX3 19 "MinorStepsModel" "n" "I") kw_X_eliminate_0) (fun _ h9 => h9) rfl dX3_eliminate_32 ?_
  refine lv_icmp_ne (tgt := 40) hx hb dX3_eliminate_35 (by decide) (fun c18 => ?_) (fun c18 => ?_)
  · have hf := og_f c18 hf
    refine lv_aload_n hx hb dX3_eliminate_40 rfl (lv_at hl 0 rfl) ?_
    refine lv_iload_n hx hb dX3_eliminate_41 rfl (lv_at hl 2 rfl) ?_
    refine lv_iload_n hx hb dX3_eliminate_42 rfl (lv_at hl 1 rfl) ?_
    obtain ⟨x19, g20, hf⟩ := og_b hf
    refine kc_v (wr := []) (w1 := [(q_t, .inr (3, [.int t_n, .int t_room, .ref q_t_limbs, .ref q_t_signs, .ref q_t_rows, .int t_chosen, .int t_chosenSign, .int t_chosenLimbs, .int t_state, .int t_done, .int t_pivots, .int x19.1])), (q_t_limbs, .inl (cA, n_t_limbs, .inl x19.2.1)), (q_t_signs, .inl (cA, n_t_signs, .inl x19.2.2.1)), (q_t_rows, .inl (cA, n_t_rows, .inl x19.2.2.2))]) [0, 1, 2, 3] [] (va_runV (As := [.int x16, .int kk]) (rest := []) ⟨hx, hb, hml, hown, hts⟩ (c_X_swap l dC dI cA H.size q_t q_t_limbs q_t_signs q_t_rows k t_n t_room t_chosen t_chosenSign t_chosenLimbs t_state t_done t_pivots t_odd n_t_limbs a_t_limbs n_t_signs a_t_signs n_t_rows a_t_rows x16 kk x19 g20) (cwV 2 hts gX3_eliminate_X3_swap rfl rfl rfl (by decide +kernel) ⟨Nat.le_of_ble_eq_true rfl, Nat.le_of_ble_eq_true rfl⟩) (kc_preV hP hD hK [0, 1, 2, 3] rfl rfl (by decide) (ci := 3) (q0 := 0) rfl rfl) rfl rfl hl.1 rfl (lv_room (Nat.le_of_ble_eq_true rfl)) dX3_eliminate_43 ⟨Nat.le_of_ble_eq_true rfl, Nat.le_of_ble_eq_true rfl⟩) hP hD hS hA rfl rfl (by decide) (by decide) (fun H locs hP hD hS => ?_)
    have hP : va_P (dC, dI) vwCl [(q_t, .inr (3, [.int t_n, .int t_room, .ref q_t_limbs, .ref q_t_signs, .ref q_t_rows, .int t_chosen, .int t_chosenSign, .int t_chosenLimbs, .int t_state, .int t_done, .int t_pivots, .int x19.1])), (q_t_limbs, .inl (cA, n_t_limbs, .inl x19.2.1)), (q_t_signs, .inl (cA, n_t_signs, .inl x19.2.2.1)), (q_t_rows, .inl (cA, n_t_rows, .inl x19.2.2.2))] H := hP
    have hD : va_D A [(q_t, .inr (3, [.int t_n, .int t_room, .ref q_t_limbs, .ref q_t_signs, .ref q_t_rows, .int t_chosen, .int t_chosenSign, .int t_chosenLimbs, .int t_state, .int t_done, .int t_pivots, .int x19.1])), (q_t_limbs, .inl (cA, n_t_limbs, .inl x19.2.1)), (q_t_signs, .inl (cA, n_t_signs, .inl x19.2.2.1)), (q_t_rows, .inl (cA, n_t_rows, .inl x19.2.2.2))] := hD
    refine lv_aload_n hx hb dX3_eliminate_46 rfl (lv_at hl 0 rfl) ?_
    refine lv_iload_n hx hb dX3_eliminate_47 rfl (lv_at hl 1 rfl) ?_
    refine lv_iconst (v := 1) hx hb dX3_eliminate_48 (by decide) ?_
    refine lv_iadd hx hb dX3_eliminate_49 ?_
    refine va_put (D := (dC, dI)) (ci := 3) (v := .int (kk + 1)) (ty := .int) (C := RX3) (T := TX3) (N := 12) hx hb hts ki_X_eliminate_X3 tyX3 tyX3_ok nmX3 hown hK hP hD hS 0 rfl rfl 10 (by decide) (hts (.fieldLink RX3 38 "MinorStepsModel" "pivots" "I") kw_X_eliminate_2) (fun _ h9 => h9) rfl (by decide +kernel) rfl rfl (Nat.le_of_ble_eq_true rfl) dX3_eliminate_50 (fun H locs hP hD hS => ?_)
    have hP : va_P (dC, dI) vwCl [(q_t, .inr (3, [.int t_n, .int t_room, .ref q_t_limbs, .ref q_t_signs, .ref q_t_rows, .int t_chosen, .int t_chosenSign, .int t_chosenLimbs, .int t_state, .int t_done, .int (kk + 1), .int x19.1])), (q_t_limbs, .inl (cA, n_t_limbs, .inl x19.2.1)), (q_t_signs, .inl (cA, n_t_signs, .inl x19.2.2.1)), (q_t_rows, .inl (cA, n_t_rows, .inl x19.2.2.2))] H := hP
    have hD : va_D A [(q_t, .inr (3, [.int t_n, .int t_room, .ref q_t_limbs, .ref q_t_signs, .ref q_t_rows, .int t_chosen, .int t_chosenSign, .int t_chosenLimbs, .int t_state, .int t_done, .int (kk + 1), .int x19.1])), (q_t_limbs, .inl (cA, n_t_limbs, .inl x19.2.1)), (q_t_signs, .inl (cA, n_t_signs, .inl x19.2.2.1)), (q_t_rows, .inl (cA, n_t_rows, .inl x19.2.2.2))] := hD
    refine lv_iload_n hx hb dX3_eliminate_53 rfl (lv_at hl 1 rfl) ?_
    refine lv_iconst (v := 1) hx hb dX3_eliminate_54 (by decide) ?_
    refine lv_iadd hx hb dX3_eliminate_55 ?_
    refine lv_istore_n (lv' := [(3, .int (kk + 1)), (0, .ref q_t), (1, .int kk), (2, .int x16)]) hx hb dX3_eliminate_56 rfl hl (by decide) rfl (fun ls hl => ?_)
    obtain ⟨x261, g262, hf⟩ := og_b hf
    by_cases c263 : x261.1 = true
    · have hf := og_t c263 hf
      refine w_X_eliminate_L57 hx hb hown hts hml hA hK k q_t q_t_limbs q_t_signs q_t_rows kk t_n t_room t_chosen t_chosenSign t_chosenLimbs t_state t_done (kk + 1) x19.1 n_t_limbs n_t_signs n_t_rows x19.2.2.2 k (kk + 1) x19.2.1 x19.2.2.1 _ g262 _ _ (hP.sub [0, 1, 2, 3] rfl) (hD.sub [0, 1, 2, 3] (by decide) rfl) hS _ (lv_sub hl [1, 2, 0] rfl) (fun e9 => absurd c263 e9) (fun _ H locs hP hD hS ls => ?_)
      have e9 := Option.some.inj hf
      subst e9
      exact kr_i hx hb hr hlocks hK hS (hP.sub [0, 1, 2, 3] rfl) (hD.sub [0, 1, 2, 3] (by decide) rfl) dX3_eliminate_165
    · have hf := og_f c263 hf
      refine w_X_eliminate_L57 hx hb hown hts hml hA hK k q_t q_t_limbs q_t_signs q_t_rows kk t_n t_room t_chosen t_chosenSign t_chosenLimbs t_state t_done (kk + 1) x19.1 n_t_limbs n_t_signs n_t_rows x19.2.2.2 k (kk + 1) x19.2.1 x19.2.2.1 _ g262 _ _ (hP.sub [0, 1, 2, 3] rfl) (hD.sub [0, 1, 2, 3] (by decide) rfl) hS _ (lv_sub hl [1, 2, 0] rfl) (fun _ H locs hP hD hS ls hl => ?_) (fun e9 => absurd e9 c263)
      refine lv_iconst (v := 0) hx hb dX3_eliminate_191 (by decide) ?_
      have e9 := Option.some.inj hf
      subst e9
      exact kr_i hx hb hr hlocks hK hS (hP.sub [0, 1, 2, 3] rfl) (hD.sub [0, 1, 2, 3] (by decide) rfl) dX3_eliminate_192
  · have hf := og_t c18 hf
    refine lv_iconst (v := 2) hx hb dX3_eliminate_38 (by decide) ?_
    have e9 := Option.some.inj hf
    subst e9
    exact kr_i hx hb hr hlocks hK hS (hP.sub [0, 1, 2, 3] rfl) (hD.sub [0, 1, 2, 3] (by decide) rfl) dX3_eliminate_39
def rm_X_insert : Room := { frames := 2, cells := 0, slots := 0, locals := 65 }
theorem kw_X_insert_0 : (.fieldLink RX3 19 "MinorStepsModel" "n" "I" : Cond) ∈ wsX3_insert := by decide +kernel
theorem kw_X_insert_1 : (.fieldLink RX3 23 "MinorStepsModel" "room" "I" : Cond) ∈ wsX3_insert := by decide +kernel
theorem ki_X_insert_X3 : ∀ w ∈ u_ws RX3 TX3 12, w ∈ wsX3_insert := by decide +kernel
set_option maxHeartbeats 4000000 in
set_option maxRecDepth 100000 in
theorem w_X_insert_L41 {p : Program} {l : Launch} {e : Env} {s : State} {m : MethodId} {args : Array Value} {below : List Frame} {meth : Method} {c : Code} {Q : State → Prop} {A : Nat → Prop} {H0 : Heap} {dC : Nat → ClassId} {dI : Nat → Nat → Nat} {cA : ClassId} (hx : p.tables.exec = Jvm.exec) (hb : c.code = cX3_insert) (hown : s.vm.findClass RX3 = some m.cls) (hts : ∀ w ∈ wsX3_insert, w.before args s = true) (hml : c.maxLocals = 3) (hA : ∀ q, H0.size ≤ q → A q) (hK : va_K (dC, dI) vwCl [(cA, .int)] s) (k : Nat) (q_t : Nat) (q_t_limbs : Nat) (q_t_signs : Nat) (q_t_rows : Nat) (v1 : Int32) (i0_t : Int32) (i1_t : Int32) (i5_t : Int32) (i6_t : Int32) (i7_t : Int32) (i8_t : Int32) (i9_t : Int32) (i10_t : Int32) (i11_t : Int32) (n_t_limbs : Nat) (n_t_signs : Nat) (n_t_rows : Nat) (a_t_rows : Nat → Int32) : ∀ (j : Nat) (v2 : Int32) (a_t_limbs : Nat → Int32) (a_t_signs : Nat → Int32) (o : Int32 × (Nat → Int32) × (Nat → Int32)), f_X_insert_L41 k v1 i0_t n_t_limbs n_t_signs j v2 a_t_limbs a_t_signs = some o → ∀ (H : Heap) (locs : List Loc), va_P (dC, dI) vwCl [(q_t, .inr (3, [.int i0_t, .int i1_t, .ref q_t_limbs, .ref q_t_signs, .ref q_t_rows, .int i5_t, .int i6_t, .int i7_t, .int i8_t, .int i9_t, .int i10_t, .int i11_t])), (q_t_limbs, .inl (cA, n_t_limbs, .inl a_t_limbs)), (q_t_signs, .inl (cA, n_t_signs, .inl a_t_signs)), (q_t_rows, .inl (cA, n_t_rows, .inl a_t_rows))] H → va_D A [(q_t, .inr (3, [.int i0_t, .int i1_t, .ref q_t_limbs, .ref q_t_signs, .ref q_t_rows, .int i5_t, .int i6_t, .int i7_t, .int i8_t, .int i9_t, .int i10_t, .int i11_t])), (q_t_limbs, .inl (cA, n_t_limbs, .inl a_t_limbs)), (q_t_signs, .inl (cA, n_t_signs, .inl a_t_signs)), (q_t_rows, .inl (cA, n_t_rows, .inl a_t_rows))] → va_S A H0 H locs → ∀ ls : Array Slot, lv_has ls 3 [(0, .ref q_t), (1, .int v1), (2, .int v2)] → ∀ (he : ∀ (H : Heap) (locs : List Loc), va_P (dC, dI) vwCl [(q_t, .inr (3, [.int i0_t, .int i1_t, .ref q_t_limbs, .ref q_t_signs, .ref q_t_rows, .int i5_t, .int i6_t, .int i7_t, .int i8_t, .int i9_t, .int i10_t, .int i11_t])), (q_t_limbs, .inl (cA, n_t_limbs, .inl o.2.1)), (q_t_signs, .inl (cA, n_t_signs, .inl o.2.2)), (q_t_rows, .inl (cA, n_t_rows, .inl a_t_rows))] H → va_D A [(q_t, .inr (3, [.int i0_t, .int i1_t, .ref q_t_limbs, .ref q_t_signs, .ref q_t_rows, .int i5_t, .int i6_t, .int i7_t, .int i8_t, .int i9_t, .int i10_t, .int i11_t])), (q_t_limbs, .inl (cA, n_t_limbs, .inl o.2.1)), (q_t_signs, .inl (cA, n_t_signs, .inl o.2.2)), (q_t_rows, .inl (cA, n_t_rows, .inl a_t_rows))] → va_S A H0 H locs → ∀ ls : Array Slot, lv_has ls 3 [(0, .ref q_t), (1, .int v1)] → W p l e rm_X_insert s m args below meth c H locs 0 0 Q (F0 m 73 ls [])), W p l e rm_X_insert s m args below meth c H locs 0 0 Q (F0 m 41 ls []) := by
  intro j
  induction j with
  | zero =>
    intro v2 a_t_limbs a_t_signs o hf
    rw [f_X_insert_L41] at hf
    cases hf
  | succ j ih =>
    intro v2 a_t_limbs a_t_signs o hf H locs hP hD hS ls hl he
    rw [f_X_insert_L41] at hf
    refine lv_iload_n hx hb dX3_insert_41 rfl (lv_at hl 2 rfl) ?_
    refine lv_aload_n hx hb dX3_insert_42 rfl (lv_at hl 0 rfl) ?_
    refine va_get (D := (dC, dI)) (ci := 3) (v := .int i0_t) (C := RX3) (T := TX3) (N := 12) hx hb hts ki_X_insert_X3 hown hK hP 0 rfl rfl 0 (by decide) (hts (.fieldLink RX3 19 "MinorStepsModel" "n" "I") kw_X_insert_0) (fun _ h9 => h9) rfl dX3_insert_43 ?_
    refine lv_icmp_ge (tgt := 73) hx hb dX3_insert_46 (by decide) (fun c23 => ?_) (fun c23 => ?_)
    · have hf := og_t c23 hf
      have e9 := Option.some.inj hf
      subst e9
      exact he _ _ (hP.sub [0, 1, 2, 3] rfl) (hD.sub [0, 1, 2, 3] (by decide) rfl) hS _ (lv_sub hl [0, 1] rfl)
    · have hf := og_f c23 hf
      refine lv_aload_n hx hb dX3_insert_49 rfl (lv_at hl 0 rfl) ?_
      refine lv_aload_n hx hb dX3_insert_50 rfl (lv_at hl 0 rfl) ?_
      refine lv_iload_n hx hb dX3_insert_51 rfl (lv_at hl 1 rfl) ?_
      refine lv_iload_n hx hb dX3_insert_52 rfl (lv_at hl 2 rfl) ?_
      obtain ⟨x24, g25, hf⟩ := og_b hf
      refine kc_i (wr := []) (w1 := [(q_t, .inr (3, [.int i0_t, .int i1_t, .ref q_t_limbs, .ref q_t_signs, .ref q_t_rows, .int i5_t, .int i6_t, .int i7_t, .int i8_t, .int i9_t, .int i10_t, .int i11_t])), (q_t_limbs, .inl (cA, n_t_limbs, .inl a_t_limbs)), (q_t_signs, .inl (cA, n_t_signs, .inl a_t_signs)), (q_t_rows, .inl (cA, n_t_rows, .inl a_t_rows))]) [0, 1, 2, 3] [] (va_runV (As := [.int v1, .int v2]) (rest := [.ref q_t]) ⟨hx, hb, hml, hown, hts⟩ (c_X_place l dC dI cA H.size q_t q_t_limbs q_t_signs q_t_rows i0_t i1_t i5_t i6_t i7_t i8_t i9_t i10_t i11_t n_t_limbs a_t_limbs n_t_signs a_t_signs n_t_rows a_t_rows v1 v2 x24 g25) (cwV 2 hts gX3_insert_X3_place rfl rfl rfl (by decide +kernel) ⟨Nat.le_of_ble_eq_true rfl, Nat.le_of_ble_eq_true rfl⟩) (kc_preV hP hD hK [0, 1, 2, 3] rfl rfl (by decide) (ci := 3) (q0 := 0) rfl rfl) rfl rfl hl.1 rfl (lv_room (Nat.le_of_ble_eq_true rfl)) dX3_insert_53 ⟨Nat.le_of_ble_eq_true rfl, Nat.le_of_ble_eq_true rfl⟩) hP hD hS hA rfl rfl (by decide) (by decide) (fun H locs hP hD hS => ?_)
      have hP : va_P (dC, dI) vwCl [(q_t, .inr (3, [.int i0_t, .int i1_t, .ref q_t_limbs, .ref q_t_signs, .ref q_t_rows, .int i5_t, .int i6_t, .int i7_t, .int i8_t, .int i9_t, .int i10_t, .int i11_t])), (q_t_limbs, .inl (cA, n_t_limbs, .inl a_t_limbs)), (q_t_signs, .inl (cA, n_t_signs, .inl a_t_signs)), (q_t_rows, .inl (cA, n_t_rows, .inl a_t_rows))] H := hP
      have hD : va_D A [(q_t, .inr (3, [.int i0_t, .int i1_t, .ref q_t_limbs, .ref q_t_signs, .ref q_t_rows, .int i5_t, .int i6_t, .int i7_t, .int i8_t, .int i9_t, .int i10_t, .int i11_t])), (q_t_limbs, .inl (cA, n_t_limbs, .inl a_t_limbs)), (q_t_signs, .inl (cA, n_t_signs, .inl a_t_signs)), (q_t_rows, .inl (cA, n_t_rows, .inl a_t_rows))] := hD
      refine lv_bipush (v := 42) hx hb dX3_insert_56 (by decide) ?_
      refine lv_iload_n hx hb dX3_insert_58 rfl (lv_at hl 2 rfl) ?_
      refine lv_iadd hx hb dX3_insert_59 ?_
      obtain ⟨x26, g27, hf⟩ := og_b hf
      refine kc_v (wr := []) (w1 := [(q_t, .inr (3, [.int i0_t, .int i1_t, .ref q_t_limbs, .ref q_t_signs, .ref q_t_rows, .int i5_t, .int i6_t, .int i7_t, .int i8_t, .int i9_t, .int i10_t, .int i11_t])), (q_t_limbs, .inl (cA, n_t_limbs, .inl x26.1)), (q_t_signs, .inl (cA, n_t_signs, .inl x26.2)), (q_t_rows, .inl (cA, n_t_rows, .inl a_t_rows))]) [0, 1, 2, 3] [] (va_runV (As := [.int x24, .int (42 + v2)]) (rest := []) ⟨hx, hb, hml, hown, hts⟩ (c_X_multiply l dC dI cA H.size q_t q_t_limbs q_t_signs q_t_rows k i0_t i1_t i5_t i6_t i7_t i8_t i9_t i10_t i11_t n_t_limbs a_t_limbs n_t_signs a_t_signs n_t_rows a_t_rows x24 (42 + v2) x26 g27) (cwV 2 hts gX3_insert_X3_multiply rfl rfl rfl (by decide +kernel) ⟨Nat.le_of_ble_eq_true rfl, Nat.le_of_ble_eq_true rfl⟩) (kc_preV hP hD hK [0, 1, 2, 3] rfl rfl (by decide) (ci := 3) (q0 := 0) rfl rfl) rfl rfl hl.1 rfl (lv_room (Nat.le_of_ble_eq_true rfl)) dX3_insert_60 ⟨Nat.le_of_ble_eq_true rfl, Nat.le_of_ble_eq_true rfl⟩) hP hD hS hA rfl rfl (by decide) (by decide) (fun H locs hP hD hS => ?_)
      have hP : va_P (dC, dI) vwCl [(q_t, .inr (3, [.int i0_t, .int i1_t, .ref q_t_limbs, .ref q_t_signs, .ref q_t_rows, .int i5_t, .int i6_t, .int i7_t, .int i8_t, .int i9_t, .int i10_t, .int i11_t])), (q_t_limbs, .inl (cA, n_t_limbs, .inl x26.1)), (q_t_signs, .inl (cA, n_t_signs, .inl x26.2)), (q_t_rows, .inl (cA, n_t_rows, .inl a_t_rows))] H := hP
      have hD : va_D A [(q_t, .inr (3, [.int i0_t, .int i1_t, .ref q_t_limbs, .ref q_t_signs, .ref q_t_rows, .int i5_t, .int i6_t, .int i7_t, .int i8_t, .int i9_t, .int i10_t, .int i11_t])), (q_t_limbs, .inl (cA, n_t_limbs, .inl x26.1)), (q_t_signs, .inl (cA, n_t_signs, .inl x26.2)), (q_t_rows, .inl (cA, n_t_rows, .inl a_t_rows))] := hD
      refine lv_aload_n hx hb dX3_insert_63 rfl (lv_at hl 0 rfl) ?_
      obtain ⟨x28, g29, hf⟩ := og_b hf
      refine kc_v (wr := []) (w1 := [(q_t, .inr (3, [.int i0_t, .int i1_t, .ref q_t_limbs, .ref q_t_signs, .ref q_t_rows, .int i5_t, .int i6_t, .int i7_t, .int i8_t, .int i9_t, .int i10_t, .int i11_t])), (q_t_limbs, .inl (cA, n_t_limbs, .inl x28.1)), (q_t_signs, .inl (cA, n_t_signs, .inl x28.2)), (q_t_rows, .inl (cA, n_t_rows, .inl a_t_rows))]) [0, 1, 2, 3] [] (va_runV (As := []) (rest := []) ⟨hx, hb, hml, hown, hts⟩ (c_X_less l dC dI cA H.size q_t q_t_limbs q_t_signs q_t_rows k i0_t i1_t i5_t i6_t i7_t i8_t i9_t i10_t i11_t n_t_limbs x26.1 n_t_signs x26.2 n_t_rows a_t_rows x28 g29) (cwV 0 hts gX3_insert_X3_less rfl rfl rfl (by decide +kernel) ⟨Nat.le_of_ble_eq_true rfl, Nat.le_of_ble_eq_true rfl⟩) (kc_preV hP hD hK [0, 1, 2, 3] rfl rfl (by decide) (ci := 3) (q0 := 0) rfl rfl) rfl rfl hl.1 rfl (lv_room (Nat.le_of_ble_eq_true rfl)) dX3_insert_64 ⟨Nat.le_of_ble_eq_true rfl, Nat.le_of_ble_eq_true rfl⟩) hP hD hS hA rfl rfl (by decide) (by decide) (fun H locs hP hD hS => ?_)
      have hP : va_P (dC, dI) vwCl [(q_t, .inr (3, [.int i0_t, .int i1_t, .ref q_t_limbs, .ref q_t_signs, .ref q_t_rows, .int i5_t, .int i6_t, .int i7_t, .int i8_t, .int i9_t, .int i10_t, .int i11_t])), (q_t_limbs, .inl (cA, n_t_limbs, .inl x28.1)), (q_t_signs, .inl (cA, n_t_signs, .inl x28.2)), (q_t_rows, .inl (cA, n_t_rows, .inl a_t_rows))] H := hP
      have hD : va_D A [(q_t, .inr (3, [.int i0_t, .int i1_t, .ref q_t_limbs, .ref q_t_signs, .ref q_t_rows, .int i5_t, .int i6_t, .int i7_t, .int i8_t, .int i9_t, .int i10_t, .int i11_t])), (q_t_limbs, .inl (cA, n_t_limbs, .inl x28.1)), (q_t_signs, .inl (cA, n_t_signs, .inl x28.2)), (q_t_rows, .inl (cA, n_t_rows, .inl a_t_rows))] := hD
      refine lv_iinc (v := v2 + 1) (lv' := [(2, .int (v2 + 1)), (0, .ref q_t), (1, .int v1)]) hx hb dX3_insert_67 hl (k := 2) rfl rfl (by decide) rfl (fun ls hl => ?_)
      refine lv_goto (tgt := 41) hx hb dX3_insert_70 (by decide) ?_
      exact ih (v2 + 1) x28.1 x28.2 _ hf _ _ (hP.sub [0, 1, 2, 3] rfl) (hD.sub [0, 1, 2, 3] (by decide) rfl) hS _ (lv_sub hl [1, 2, 0] rfl) he
set_option maxHeartbeats 4000000 in
set_option maxRecDepth 100000 in
theorem c_X_insert (l : Launch) (dC : Nat → ClassId) (dI : Nat → Nat → Nat) (cA : ClassId) (sz : Nat) (q_t : Nat) (q_t_limbs : Nat) (q_t_signs : Nat) (q_t_rows : Nat) (k : Nat) (t_n : Int32) (t_room : Int32) (t_chosen : Int32) (t_chosenSign : Int32) (t_chosenLimbs : Int32) (t_state : Int32) (t_done : Int32) (t_pivots : Int32) (t_odd : Int32) (n_t_limbs : Nat) (a_t_limbs : Nat → Int32) (n_t_signs : Nat) (a_t_signs : Nat → Int32) (n_t_rows : Nat) (a_t_rows : Nat → Int32) (ii : Int32) (o : Int32 × (Nat → Int32) × (Nat → Int32)) (hf : f_X_insert k t_n t_room n_t_limbs a_t_limbs n_t_signs a_t_signs ii = some o) : Met l yX3_insert wsX3_insert rm_X_insert (c_Pre (dC, dI) vwCl [(cA, .int)] [(q_t, .inr (3, [.int t_n, .int t_room, .ref q_t_limbs, .ref q_t_signs, .ref q_t_rows, .int t_chosen, .int t_chosenSign, .int t_chosenLimbs, .int t_state, .int t_done, .int t_pivots, .int t_odd])), (q_t_limbs, .inl (cA, n_t_limbs, .inl a_t_limbs)), (q_t_signs, .inl (cA, n_t_signs, .inl a_t_signs)), (q_t_rows, .inl (cA, n_t_rows, .inl a_t_rows))] sz [.ref q_t, .int ii]) (c_Qi (dC, dI) vwCl [(cA, .int)] [(q_t, .inr (3, [.int t_n, .int t_room, .ref q_t_limbs, .ref q_t_signs, .ref q_t_rows, .int t_chosen, .int t_chosenSign, .int t_chosenLimbs, .int t_state, .int t_done, .int t_pivots, .int t_odd])), (q_t_limbs, .inl (cA, n_t_limbs, .inl o.2.1)), (q_t_signs, .inl (cA, n_t_signs, .inl o.2.2)), (q_t_rows, .inl (cA, n_t_rows, .inl a_t_rows))] (va_A [(q_t, .inr (3, [.int t_n, .int t_room, .ref q_t_limbs, .ref q_t_signs, .ref q_t_rows, .int t_chosen, .int t_chosenSign, .int t_chosenLimbs, .int t_state, .int t_done, .int t_pivots, .int t_odd])), (q_t_limbs, .inl (cA, n_t_limbs, .inl a_t_limbs)), (q_t_signs, .inl (cA, n_t_signs, .inl a_t_signs)), (q_t_rows, .inl (cA, n_t_rows, .inl a_t_rows))] sz) o.1) 0 0 (va_A [(q_t, .inr (3, [.int t_n, .int t_room, .ref q_t_limbs, .ref q_t_signs, .ref q_t_rows, .int t_chosen, .int t_chosenSign, .int t_chosenLimbs, .int t_state, .int t_done, .int t_pivots, .int t_odd])), (q_t_limbs, .inl (cA, n_t_limbs, .inl a_t_limbs)), (q_t_signs, .inl (cA, n_t_signs, .inl a_t_signs)), (q_t_rows, .inl (cA, n_t_rows, .inl a_t_rows))] sz) := by
  unfold f_X_insert at hf
  refine k_ent (Qc := fun A => c_Qi (dC, dI) vwCl [(cA, .int)] [(q_t, .inr (3, [.int t_n, .int t_room, .ref q_t_limbs, .ref q_t_signs, .ref q_t_rows, .int t_chosen, .int t_chosenSign, .int t_chosenLimbs, .int t_state, .int t_done, .int t_pivots, .int t_odd])), (q_t_limbs, .inl (cA, n_t_limbs, .inl o.2.1)), (q_t_signs, .inl (cA, n_t_signs, .inl o.2.2)), (q_t_rows, .inl (cA, n_t_rows, .inl a_t_rows))] A o.1) (by decide) rfl (Nat.le_of_ble_eq_true rfl) ?_
  intro p e s m below meth c A hx hb hr hown hts hml hlocks hin hsz hA hK H locs hP hD hS ls hl
  have hown : s.vm.findClass RX3 = some m.cls := hown
  have hl : lv_has ls 3 [(0, .ref q_t), (1, .int ii)] := hl
  refine lv_aload_n hx hb dX3_insert_0 rfl (lv_at hl 0 rfl) ?_
  refine lv_aload_n hx hb dX3_insert_1 rfl (lv_at hl 0 rfl) ?_
  refine lv_aload_n hx hb dX3_insert_2 rfl (lv_at hl 0 rfl) ?_
  refine va_get (D := (dC, dI)) (ci := 3) (v := .int t_n) (C := RX3) (T := TX3) (N := 12) hx hb hts ki_X_insert_X3 hown hK hP 0 rfl rfl 0 (by decide) (hts (.fieldLink RX3 19 "MinorStepsModel" "n" "I") kw_X_insert_0) (fun _ h9 => h9) rfl dX3_insert_3 ?_
  refine lv_iconst (v := 1) hx hb dX3_insert_6 (by decide) ?_
  refine lv_isub hx hb dX3_insert_7 ?_
  refine lv_aload_n hx hb dX3_insert_8 rfl (lv_at hl 0 rfl) ?_
  refine va_get (D := (dC, dI)) (ci := 3) (v := .int t_n) (C := RX3) (T := TX3) (N := 12) hx hb hts ki_X_insert_X3 hown hK hP 0 rfl rfl 0 (by decide) (hts (.fieldLink RX3 19 "MinorStepsModel" "n" "I") kw_X_insert_0) (fun _ h9 => h9) rfl dX3_insert_9 ?_
  refine lv_iconst (v := 1) hx hb dX3_insert_12 (by decide) ?_
  refine lv_isub hx hb dX3_insert_13 ?_
  obtain ⟨x1, g2, hf⟩ := og_b hf
  refine kc_i (wr := []) (w1 := [(q_t, .inr (3, [.int t_n, .int t_room, .ref q_t_limbs, .ref q_t_signs, .ref q_t_rows, .int t_chosen, .int t_chosenSign, .int t_chosenLimbs, .int t_state, .int t_done, .int t_pivots, .int t_odd])), (q_t_limbs, .inl (cA, n_t_limbs, .inl a_t_limbs)), (q_t_signs, .inl (cA, n_t_signs, .inl a_t_signs)), (q_t_rows, .inl (cA, n_t_rows, .inl a_t_rows))]) [0, 1, 2, 3] [] (va_runV (As := [.int (t_n - 1), .int (t_n - 1)]) (rest := [.ref q_t]) ⟨hx, hb, hml, hown, hts⟩ (c_X_place l dC dI cA H.size q_t q_t_limbs q_t_signs q_t_rows t_n t_room t_chosen t_chosenSign t_chosenLimbs t_state t_done t_pivots t_odd n_t_limbs a_t_limbs n_t_signs a_t_signs n_t_rows a_t_rows (t_n - 1) (t_n - 1) x1 g2) (cwV 2 hts gX3_insert_X3_place rfl rfl rfl (by decide +kernel) ⟨Nat.le_of_ble_eq_true rfl, Nat.le_of_ble_eq_true rfl⟩) (kc_preV hP hD hK [0, 1, 2, 3] rfl rfl (by decide) (ci := 3) (q0 := 0) rfl rfl) rfl rfl hl.1 rfl (lv_room (Nat.le_of_ble_eq_true rfl)) dX3_insert_14 ⟨Nat.le_of_ble_eq_true rfl, Nat.le_of_ble_eq_true rfl⟩) hP hD hS hA rfl rfl (by decide) (by decide) (fun H locs hP hD hS => ?_)
  have hP : va_P (dC, dI) vwCl [(q_t, .inr (3, [.int t_n, .int t_room, .ref q_t_limbs, .ref q_t_signs, .ref q_t_rows, .int t_chosen, .int t_chosenSign, .int t_chosenLimbs, .int t_state, .int t_done, .int t_pivots, .int t_odd])), (q_t_limbs, .inl (cA, n_t_limbs, .inl a_t_limbs)), (q_t_signs, .inl (cA, n_t_signs, .inl a_t_signs)), (q_t_rows, .inl (cA, n_t_rows, .inl a_t_rows))] H := hP
  have hD : va_D A [(q_t, .inr (3, [.int t_n, .int t_room, .ref q_t_limbs, .ref q_t_signs, .ref q_t_rows, .int t_chosen, .int t_chosenSign, .int t_chosenLimbs, .int t_state, .int t_done, .int t_pivots, .int t_odd])), (q_t_limbs, .inl (cA, n_t_limbs, .inl a_t_limbs)), (q_t_signs, .inl (cA, n_t_signs, .inl a_t_signs)), (q_t_rows, .inl (cA, n_t_rows, .inl a_t_rows))] := hD
  refine lv_aload_n hx hb dX3_insert_17 rfl (lv_at hl 0 rfl) ?_
  refine lv_iload_n hx hb dX3_insert_18 rfl (lv_at hl 1 rfl) ?_
  refine lv_aload_n hx hb dX3_insert_19 rfl (lv_at hl 0 rfl) ?_
  refine va_get (D := (dC, dI)) (ci := 3) (v := .int t_n) (C := RX3) (T := TX3) (N := 12) hx hb hts ki_X_insert_X3 hown hK hP 0 rfl rfl 0 (by decide) (hts (.fieldLink RX3 19 "MinorStepsModel" "n" "I") kw_X_insert_0) (fun _ h9 => h9) rfl dX3_insert_20 ?_
  obtain ⟨x3, g4, hf⟩ := og_b hf
  refine kc_i (wr := []) (w1 := [(q_t, .inr (3, [.int t_n, .int t_room, .ref q_t_limbs, .ref q_t_signs, .ref q_t_rows, .int t_chosen, .int t_chosenSign, .int t_chosenLimbs, .int t_state, .int t_done, .int t_pivots, .int t_odd])), (q_t_limbs, .inl (cA, n_t_limbs, .inl a_t_limbs)), (q_t_signs, .inl (cA, n_t_signs, .inl a_t_signs)), (q_t_rows, .inl (cA, n_t_rows, .inl a_t_rows))]) [0, 1, 2, 3] [] (va_runV (As := [.int ii, .int t_n]) (rest := [.int x1, .ref q_t]) ⟨hx, hb, hml, hown, hts⟩ (c_X_place l dC dI cA H.size q_t q_t_limbs q_t_signs q_t_rows t_n t_room t_chosen t_chosenSign t_chosenLimbs t_state t_done t_pivots t_odd n_t_limbs a_t_limbs n_t_signs a_t_signs n_t_rows a_t_rows ii t_n x3 g4) (cwV 2 hts gX3_insert_X3_place rfl rfl rfl (by decide +kernel) ⟨Nat.le_of_ble_eq_true rfl, Nat.le_of_ble_eq_true rfl⟩) (kc_preV hP hD hK [0, 1, 2, 3] rfl rfl (by decide) (ci := 3) (q0 := 0) rfl rfl) rfl rfl hl.1 rfl (lv_room (Nat.le_of_ble_eq_true rfl)) dX3_insert_23 ⟨Nat.le_of_ble_eq_true rfl, Nat.le_of_ble_eq_true rfl⟩) hP hD hS hA rfl rfl (by decide) (by decide) (fun H locs hP hD hS => ?_)
  have hP : va_P (dC, dI) vwCl [(q_t, .inr (3, [.int t_n, .int t_room, .ref q_t_limbs, .ref q_t_signs, .ref q_t_rows, .int t_chosen, .int t_chosenSign, .int t_chosenLimbs, .int t_state, .int t_done, .int t_pivots, .int t_odd])), (q_t_limbs, .inl (cA, n_t_limbs, .inl a_t_limbs)), (q_t_signs, .inl (cA, n_t_signs, .inl a_t_signs)), (q_t_rows, .inl (cA, n_t_rows, .inl a_t_rows))] H := hP
  have hD : va_D A [(q_t, .inr (3, [.int t_n, .int t_room, .ref q_t_limbs, .ref q_t_signs, .ref q_t_rows, .int t_chosen, .int t_chosenSign, .int t_chosenLimbs, .int t_state, .int t_done, .int t_pivots, .int t_odd])), (q_t_limbs, .inl (cA, n_t_limbs, .inl a_t_limbs)), (q_t_signs, .inl (cA, n_t_signs, .inl a_t_signs)), (q_t_rows, .inl (cA, n_t_rows, .inl a_t_rows))] := hD
  obtain ⟨x5, g6, hf⟩ := og_b hf
  refine kc_v (wr := []) (w1 := [(q_t, .inr (3, [.int t_n, .int t_room, .ref q_t_limbs, .ref q_t_signs, .ref q_t_rows, .int t_chosen, .int t_chosenSign, .int t_chosenLimbs, .int t_state, .int t_done, .int t_pivots, .int t_odd])), (q_t_limbs, .inl (cA, n_t_limbs, .inl x5.1)), (q_t_signs, .inl (cA, n_t_signs, .inl x5.2)), (q_t_rows, .inl (cA, n_t_rows, .inl a_t_rows))]) [0, 1, 2, 3] [] (va_runV (As := [.int x1, .int x3]) (rest := []) ⟨hx, hb, hml, hown, hts⟩ (c_X_multiply l dC dI cA H.size q_t q_t_limbs q_t_signs q_t_rows k t_n t_room t_chosen t_chosenSign t_chosenLimbs t_state t_done t_pivots t_odd n_t_limbs a_t_limbs n_t_signs a_t_signs n_t_rows a_t_rows x1 x3 x5 g6) (cwV 2 hts gX3_insert_X3_multiply rfl rfl rfl (by decide +kernel) ⟨Nat.le_of_ble_eq_true rfl, Nat.le_of_ble_eq_true rfl⟩) (kc_preV hP hD hK [0, 1, 2, 3] rfl rfl (by decide) (ci := 3) (q0 := 0) rfl rfl) rfl rfl hl.1 rfl (lv_room (Nat.le_of_ble_eq_true rfl)) dX3_insert_26 ⟨Nat.le_of_ble_eq_true rfl, Nat.le_of_ble_eq_true rfl⟩) hP hD hS hA rfl rfl (by decide) (by decide) (fun H locs hP hD hS => ?_)
  have hP : va_P (dC, dI) vwCl [(q_t, .inr (3, [.int t_n, .int t_room, .ref q_t_limbs, .ref q_t_signs, .ref q_t_rows, .int t_chosen, .int t_chosenSign, .int t_chosenLimbs, .int t_state, .int t_done, .int t_pivots, .int t_odd])), (q_t_limbs, .inl (cA, n_t_limbs, .inl x5.1)), (q_t_signs, .inl (cA, n_t_signs, .inl x5.2)), (q_t_rows, .inl (cA, n_t_rows, .inl a_t_rows))] H := hP
  have hD : va_D A [(q_t, .inr (3, [.int t_n, .int t_room, .ref q_t_limbs, .ref q_t_signs, .ref q_t_rows, .int t_chosen, .int t_chosenSign, .int t_chosenLimbs, .int t_state, .int t_done, .int t_pivots, .int t_odd])), (q_t_limbs, .inl (cA, n_t_limbs, .inl x5.1)), (q_t_signs, .inl (cA, n_t_signs, .inl x5.2)), (q_t_rows, .inl (cA, n_t_rows, .inl a_t_rows))] := hD
  refine lv_aload_n hx hb dX3_insert_29 rfl (lv_at hl 0 rfl) ?_
  refine lv_bipush (v := 48) hx hb dX3_insert_30 (by decide) ?_
  refine lv_bipush (v := 49) hx hb dX3_insert_32 (by decide) ?_
  obtain ⟨x7, g8, hf⟩ := og_b hf
  refine kc_v (wr := []) (w1 := [(q_t, .inr (3, [.int t_n, .int t_room, .ref q_t_limbs, .ref q_t_signs, .ref q_t_rows, .int t_chosen, .int t_chosenSign, .int t_chosenLimbs, .int t_state, .int t_done, .int t_pivots, .int t_odd])), (q_t_limbs, .inl (cA, n_t_limbs, .inl x7.1)), (q_t_signs, .inl (cA, n_t_signs, .inl x7.2)), (q_t_rows, .inl (cA, n_t_rows, .inl a_t_rows))]) [0, 1, 2, 3] [] (va_runV (As := [.int 48, .int 49]) (rest := []) ⟨hx, hb, hml, hown, hts⟩ (c_X_copy l dC dI cA H.size q_t q_t_limbs q_t_signs q_t_rows k t_n t_room t_chosen t_chosenSign t_chosenLimbs t_state t_done t_pivots t_odd n_t_limbs x5.1 n_t_signs x5.2 n_t_rows a_t_rows (48 : Int32) (49 : Int32) x7 g8) (cwV 2 hts gX3_insert_X3_copy rfl rfl rfl (by decide +kernel) ⟨Nat.le_of_ble_eq_true rfl, Nat.le_of_ble_eq_true rfl⟩) (kc_preV hP hD hK [0, 1, 2, 3] rfl rfl (by decide) (ci := 3) (q0 := 0) rfl rfl) rfl rfl hl.1 rfl (lv_room (Nat.le_of_ble_eq_true rfl)) dX3_insert_34 ⟨Nat.le_of_ble_eq_true rfl, Nat.le_of_ble_eq_true rfl⟩) hP hD hS hA rfl rfl (by decide) (by decide) (fun H locs hP hD hS => ?_)
  have hP : va_P (dC, dI) vwCl [(q_t, .inr (3, [.int t_n, .int t_room, .ref q_t_limbs, .ref q_t_signs, .ref q_t_rows, .int t_chosen, .int t_chosenSign, .int t_chosenLimbs, .int t_state, .int t_done, .int t_pivots, .int t_odd])), (q_t_limbs, .inl (cA, n_t_limbs, .inl x7.1)), (q_t_signs, .inl (cA, n_t_signs, .inl x7.2)), (q_t_rows, .inl (cA, n_t_rows, .inl a_t_rows))] H := hP
  have hD : va_D A [(q_t, .inr (3, [.int t_n, .int t_room, .ref q_t_limbs, .ref q_t_signs, .ref q_t_rows, .int t_chosen, .int t_chosenSign, .int t_chosenLimbs, .int t_state, .int t_done, .int t_pivots, .int t_odd])), (q_t_limbs, .inl (cA, n_t_limbs, .inl x7.1)), (q_t_signs, .inl (cA, n_t_signs, .inl x7.2)), (q_t_rows, .inl (cA, n_t_rows, .inl a_t_rows))] := hD
  refine lv_iload_n hx hb dX3_insert_37 rfl (lv_at hl 1 rfl) ?_
  refine lv_iconst (v := 1) hx hb dX3_insert_38 (by decide) ?_
  refine lv_iadd hx hb dX3_insert_39 ?_
  refine lv_istore_n (lv' := [(2, .int (ii + 1)), (0, .ref q_t), (1, .int ii)]) hx hb dX3_insert_40 rfl hl (by decide) rfl (fun ls hl => ?_)
  obtain ⟨x30, g31, hf⟩ := og_b hf
  refine w_X_insert_L41 hx hb hown hts hml hA hK k q_t q_t_limbs q_t_signs q_t_rows ii t_n t_room t_chosen t_chosenSign t_chosenLimbs t_state t_done t_pivots t_odd n_t_limbs n_t_signs n_t_rows a_t_rows k (ii + 1) x7.1 x7.2 _ g31 _ _ (hP.sub [0, 1, 2, 3] rfl) (hD.sub [0, 1, 2, 3] (by decide) rfl) hS _ (lv_sub hl [1, 2, 0] rfl) ?_
  intro H locs hP hD hS ls hl
  refine lv_aload_n hx hb dX3_insert_73 rfl (lv_at hl 0 rfl) ?_
  refine lv_aload_n hx hb dX3_insert_74 rfl (lv_at hl 0 rfl) ?_
  refine lv_iload_n hx hb dX3_insert_75 rfl (lv_at hl 1 rfl) ?_
  refine lv_iload_n hx hb dX3_insert_76 rfl (lv_at hl 1 rfl) ?_
  obtain ⟨x32, g33, hf⟩ := og_b hf
  refine kc_i (wr := []) (w1 := [(q_t, .inr (3, [.int t_n, .int t_room, .ref q_t_limbs, .ref q_t_signs, .ref q_t_rows, .int t_chosen, .int t_chosenSign, .int t_chosenLimbs, .int t_state, .int t_done, .int t_pivots, .int t_odd])), (q_t_limbs, .inl (cA, n_t_limbs, .inl x30.2.1)), (q_t_signs, .inl (cA, n_t_signs, .inl x30.2.2)), (q_t_rows, .inl (cA, n_t_rows, .inl a_t_rows))]) [0, 1, 2, 3] [] (va_runV (As := [.int ii, .int ii]) (rest := [.ref q_t]) ⟨hx, hb, hml, hown, hts⟩ (c_X_place l dC dI cA H.size q_t q_t_limbs q_t_signs q_t_rows t_n t_room t_chosen t_chosenSign t_chosenLimbs t_state t_done t_pivots t_odd n_t_limbs x30.2.1 n_t_signs x30.2.2 n_t_rows a_t_rows ii ii x32 g33) (cwV 2 hts gX3_insert_X3_place rfl rfl rfl (by decide +kernel) ⟨Nat.le_of_ble_eq_true rfl, Nat.le_of_ble_eq_true rfl⟩) (kc_preV hP hD hK [0, 1, 2, 3] rfl rfl (by decide) (ci := 3) (q0 := 0) rfl rfl) rfl rfl hl.1 rfl (lv_room (Nat.le_of_ble_eq_true rfl)) dX3_insert_77 ⟨Nat.le_of_ble_eq_true rfl, Nat.le_of_ble_eq_true rfl⟩) hP hD hS hA rfl rfl (by decide) (by decide) (fun H locs hP hD hS => ?_)
  have hP : va_P (dC, dI) vwCl [(q_t, .inr (3, [.int t_n, .int t_room, .ref q_t_limbs, .ref q_t_signs, .ref q_t_rows, .int t_chosen, .int t_chosenSign, .int t_chosenLimbs, .int t_state, .int t_done, .int t_pivots, .int t_odd])), (q_t_limbs, .inl (cA, n_t_limbs, .inl x30.2.1)), (q_t_signs, .inl (cA, n_t_signs, .inl x30.2.2)), (q_t_rows, .inl (cA, n_t_rows, .inl a_t_rows))] H := hP
  have hD : va_D A [(q_t, .inr (3, [.int t_n, .int t_room, .ref q_t_limbs, .ref q_t_signs, .ref q_t_rows, .int t_chosen, .int t_chosenSign, .int t_chosenLimbs, .int t_state, .int t_done, .int t_pivots, .int t_odd])), (q_t_limbs, .inl (cA, n_t_limbs, .inl x30.2.1)), (q_t_signs, .inl (cA, n_t_signs, .inl x30.2.2)), (q_t_rows, .inl (cA, n_t_rows, .inl a_t_rows))] := hD
  obtain ⟨x34, g35, hf⟩ := og_b hf
  refine kc_v (wr := []) (w1 := [(q_t, .inr (3, [.int t_n, .int t_room, .ref q_t_limbs, .ref q_t_signs, .ref q_t_rows, .int t_chosen, .int t_chosenSign, .int t_chosenLimbs, .int t_state, .int t_done, .int t_pivots, .int t_odd])), (q_t_limbs, .inl (cA, n_t_limbs, .inl x34.1)), (q_t_signs, .inl (cA, n_t_signs, .inl x34.2)), (q_t_rows, .inl (cA, n_t_rows, .inl a_t_rows))]) [0, 1, 2, 3] [] (va_runV (As := [.int x32]) (rest := []) ⟨hx, hb, hml, hown, hts⟩ (c_X_divide l dC dI cA H.size q_t q_t_limbs q_t_signs q_t_rows k t_n t_room t_chosen t_chosenSign t_chosenLimbs t_state t_done t_pivots t_odd n_t_limbs x30.2.1 n_t_signs x30.2.2 n_t_rows a_t_rows x32 x34 g35) (cwV 1 hts gX3_insert_X3_divide rfl rfl rfl (by decide +kernel) ⟨Nat.le_of_ble_eq_true rfl, Nat.le_of_ble_eq_true rfl⟩) (kc_preV hP hD hK [0, 1, 2, 3] rfl rfl (by decide) (ci := 3) (q0 := 0) rfl rfl) rfl rfl hl.1 rfl (lv_room (Nat.le_of_ble_eq_true rfl)) dX3_insert_80 ⟨Nat.le_of_ble_eq_true rfl, Nat.le_of_ble_eq_true rfl⟩) hP hD hS hA rfl rfl (by decide) (by decide) (fun H locs hP hD hS => ?_)
  have hP : va_P (dC, dI) vwCl [(q_t, .inr (3, [.int t_n, .int t_room, .ref q_t_limbs, .ref q_t_signs, .ref q_t_rows, .int t_chosen, .int t_chosenSign, .int t_chosenLimbs, .int t_state, .int t_done, .int t_pivots, .int t_odd])), (q_t_limbs, .inl (cA, n_t_limbs, .inl x34.1)), (q_t_signs, .inl (cA, n_t_signs, .inl x34.2)), (q_t_rows, .inl (cA, n_t_rows, .inl a_t_rows))] H := hP
  have hD : va_D A [(q_t, .inr (3, [.int t_n, .int t_room, .ref q_t_limbs, .ref q_t_signs, .ref q_t_rows, .int t_chosen, .int t_chosenSign, .int t_chosenLimbs, .int t_state, .int t_done, .int t_pivots, .int t_odd])), (q_t_limbs, .inl (cA, n_t_limbs, .inl x34.1)), (q_t_signs, .inl (cA, n_t_signs, .inl x34.2)), (q_t_rows, .inl (cA, n_t_rows, .inl a_t_rows))] := hD
  refine lv_aload_n hx hb dX3_insert_83 rfl (lv_at hl 0 rfl) ?_
  refine lv_bipush (v := 52) hx hb dX3_insert_84 (by decide) ?_
  obtain ⟨x36, g37, hf⟩ := og_b hf
  refine kc_i (wr := []) (w1 := [(q_t, .inr (3, [.int t_n, .int t_room, .ref q_t_limbs, .ref q_t_signs, .ref q_t_rows, .int t_chosen, .int t_chosenSign, .int t_chosenLimbs, .int t_state, .int t_done, .int t_pivots, .int t_odd])), (q_t_limbs, .inl (cA, n_t_limbs, .inl x34.1)), (q_t_signs, .inl (cA, n_t_signs, .inl x34.2)), (q_t_rows, .inl (cA, n_t_rows, .inl a_t_rows))]) [0, 1, 2, 3] [] (va_runV (As := [.int 52]) (rest := []) ⟨hx, hb, hml, hown, hts⟩ (c_X_count l dC dI cA H.size q_t q_t_limbs q_t_signs q_t_rows k t_n t_room t_chosen t_chosenSign t_chosenLimbs t_state t_done t_pivots t_odd n_t_limbs x34.1 n_t_signs x34.2 n_t_rows a_t_rows (52 : Int32) x36 g37) (cwV 1 hts gX3_insert_X3_count rfl rfl rfl (by decide +kernel) ⟨Nat.le_of_ble_eq_true rfl, Nat.le_of_ble_eq_true rfl⟩) (kc_preV hP hD hK [0, 1, 2, 3] rfl rfl (by decide) (ci := 3) (q0 := 0) rfl rfl) rfl rfl hl.1 rfl (lv_room (Nat.le_of_ble_eq_true rfl)) dX3_insert_86 ⟨Nat.le_of_ble_eq_true rfl, Nat.le_of_ble_eq_true rfl⟩) hP hD hS hA rfl rfl (by decide) (by decide) (fun H locs hP hD hS => ?_)
  have hP : va_P (dC, dI) vwCl [(q_t, .inr (3, [.int t_n, .int t_room, .ref q_t_limbs, .ref q_t_signs, .ref q_t_rows, .int t_chosen, .int t_chosenSign, .int t_chosenLimbs, .int t_state, .int t_done, .int t_pivots, .int t_odd])), (q_t_limbs, .inl (cA, n_t_limbs, .inl x34.1)), (q_t_signs, .inl (cA, n_t_signs, .inl x34.2)), (q_t_rows, .inl (cA, n_t_rows, .inl a_t_rows))] H := hP
  have hD : va_D A [(q_t, .inr (3, [.int t_n, .int t_room, .ref q_t_limbs, .ref q_t_signs, .ref q_t_rows, .int t_chosen, .int t_chosenSign, .int t_chosenLimbs, .int t_state, .int t_done, .int t_pivots, .int t_odd])), (q_t_limbs, .inl (cA, n_t_limbs, .inl x34.1)), (q_t_signs, .inl (cA, n_t_signs, .inl x34.2)), (q_t_rows, .inl (cA, n_t_rows, .inl a_t_rows))] := hD
  refine lv_aload_n hx hb dX3_insert_89 rfl (lv_at hl 0 rfl) ?_
  refine va_get (D := (dC, dI)) (ci := 3) (v := .int t_room) (C := RX3) (T := TX3) (N := 12) hx hb hts ki_X_insert_X3 hown hK hP 0 rfl rfl 1 (by decide) (hts (.fieldLink RX3 23 "MinorStepsModel" "room" "I") kw_X_insert_1) (fun _ h9 => h9) rfl dX3_insert_90 ?_
  refine lv_icmp_le (tgt := 98) hx hb dX3_insert_93 (by decide) (fun c38 => ?_) (fun c38 => ?_)
  · have hf := og_t c38 hf
    refine lv_aload_n hx hb dX3_insert_98 rfl (lv_at hl 0 rfl) ?_
    refine lv_bipush (v := 52) hx hb dX3_insert_99 (by decide) ?_
    refine lv_bipush (v := 42) hx hb dX3_insert_101 (by decide) ?_
    refine lv_iload_n hx hb dX3_insert_103 rfl (lv_at hl 1 rfl) ?_
    refine lv_iadd hx hb dX3_insert_104 ?_
    obtain ⟨x39, g40, hf⟩ := og_b hf
    refine kc_v (wr := []) (w1 := [(q_t, .inr (3, [.int t_n, .int t_room, .ref q_t_limbs, .ref q_t_signs, .ref q_t_rows, .int t_chosen, .int t_chosenSign, .int t_chosenLimbs, .int t_state, .int t_done, .int t_pivots, .int t_odd])), (q_t_limbs, .inl (cA, n_t_limbs, .inl x39.1)), (q_t_signs, .inl (cA, n_t_signs, .inl x39.2)), (q_t_rows, .inl (cA, n_t_rows, .inl a_t_rows))]) [0, 1, 2, 3] [] (va_runV (As := [.int 52, .int (42 + ii)]) (rest := []) ⟨hx, hb, hml, hown, hts⟩ (c_X_copy l dC dI cA H.size q_t q_t_limbs q_t_signs q_t_rows k t_n t_room t_chosen t_chosenSign t_chosenLimbs t_state t_done t_pivots t_odd n_t_limbs x34.1 n_t_signs x34.2 n_t_rows a_t_rows (52 : Int32) (42 + ii) x39 g40) (cwV 2 hts gX3_insert_X3_copy rfl rfl rfl (by decide +kernel) ⟨Nat.le_of_ble_eq_true rfl, Nat.le_of_ble_eq_true rfl⟩) (kc_preV hP hD hK [0, 1, 2, 3] rfl rfl (by decide) (ci := 3) (q0 := 0) rfl rfl) rfl rfl hl.1 rfl (lv_room (Nat.le_of_ble_eq_true rfl)) dX3_insert_105 ⟨Nat.le_of_ble_eq_true rfl, Nat.le_of_ble_eq_true rfl⟩) hP hD hS hA rfl rfl (by decide) (by decide) (fun H locs hP hD hS => ?_)
    have hP : va_P (dC, dI) vwCl [(q_t, .inr (3, [.int t_n, .int t_room, .ref q_t_limbs, .ref q_t_signs, .ref q_t_rows, .int t_chosen, .int t_chosenSign, .int t_chosenLimbs, .int t_state, .int t_done, .int t_pivots, .int t_odd])), (q_t_limbs, .inl (cA, n_t_limbs, .inl x39.1)), (q_t_signs, .inl (cA, n_t_signs, .inl x39.2)), (q_t_rows, .inl (cA, n_t_rows, .inl a_t_rows))] H := hP
    have hD : va_D A [(q_t, .inr (3, [.int t_n, .int t_room, .ref q_t_limbs, .ref q_t_signs, .ref q_t_rows, .int t_chosen, .int t_chosenSign, .int t_chosenLimbs, .int t_state, .int t_done, .int t_pivots, .int t_odd])), (q_t_limbs, .inl (cA, n_t_limbs, .inl x39.1)), (q_t_signs, .inl (cA, n_t_signs, .inl x39.2)), (q_t_rows, .inl (cA, n_t_rows, .inl a_t_rows))] := hD
    refine lv_iload_n hx hb dX3_insert_108 rfl (lv_at hl 1 rfl) ?_
    refine lv_if_le (tgt := 116) hx hb dX3_insert_109 (by decide) (fun c41 => ?_) (fun c41 => ?_)
    · have hf := og_t c41 hf
      refine lv_iconst (v := 1) hx hb dX3_insert_116 (by decide) ?_
      have e9 := Option.some.inj hf
      subst e9
      exact kr_i hx hb hr hlocks hK hS (hP.sub [0, 1, 2, 3] rfl) (hD.sub [0, 1, 2, 3] (by decide) rfl) dX3_insert_117
    · have hf := og_f c41 hf
      refine lv_iconst (v := 0) hx hb dX3_insert_112 (by decide) ?_
      refine lv_goto (tgt := 117) hx hb dX3_insert_113 (by decide) ?_
      have e9 := Option.some.inj hf
      subst e9
      exact kr_i hx hb hr hlocks hK hS (hP.sub [0, 1, 2, 3] rfl) (hD.sub [0, 1, 2, 3] (by decide) rfl) dX3_insert_117
  · have hf := og_f c38 hf
    refine lv_iconst (v := 3) hx hb dX3_insert_96 (by decide) ?_
    have e9 := Option.some.inj hf
    subst e9
    exact kr_i hx hb hr hlocks hK hS (hP.sub [0, 1, 2, 3] rfl) (hD.sub [0, 1, 2, 3] (by decide) rfl) dX3_insert_97
def rm_X_step : Room := { frames := 3, cells := 0, slots := 0, locals := 89 }
theorem kw_X_step_0 : (.fieldLink RX3 32 "MinorStepsModel" "state" "I" : Cond) ∈ wsX3_step := by decide +kernel
theorem kw_X_step_1 : (.fieldLink RX3 35 "MinorStepsModel" "done" "I" : Cond) ∈ wsX3_step := by decide +kernel
theorem kw_X_step_2 : (.fieldLink RX3 19 "MinorStepsModel" "n" "I" : Cond) ∈ wsX3_step := by decide +kernel
theorem ki_X_step_X3 : ∀ w ∈ u_ws RX3 TX3 12, w ∈ wsX3_step := by decide +kernel
set_option maxHeartbeats 4000000 in
set_option maxRecDepth 100000 in
theorem c_X_step (l : Launch) (dC : Nat → ClassId) (dI : Nat → Nat → Nat) (cA : ClassId) (sz : Nat) (q_t : Nat) (q_t_limbs : Nat) (q_t_signs : Nat) (q_t_rows : Nat) (k : Nat) (t_n : Int32) (t_room : Int32) (t_chosen : Int32) (t_chosenSign : Int32) (t_chosenLimbs : Int32) (t_state : Int32) (t_done : Int32) (t_pivots : Int32) (t_odd : Int32) (n_t_limbs : Nat) (a_t_limbs : Nat → Int32) (n_t_signs : Nat) (a_t_signs : Nat → Int32) (n_t_rows : Nat) (a_t_rows : Nat → Int32) (o : Int32 × Int32 × Int32 × Int32 × Int32 × (Nat → Int32) × (Nat → Int32) × (Nat → Int32)) (hf : f_X_step k t_n t_room t_state t_done t_pivots t_odd n_t_limbs a_t_limbs n_t_signs a_t_signs n_t_rows a_t_rows = some o) : Met l yX3_step wsX3_step rm_X_step (c_Pre (dC, dI) vwCl [(cA, .int)] [(q_t, .inr (3, [.int t_n, .int t_room, .ref q_t_limbs, .ref q_t_signs, .ref q_t_rows, .int t_chosen, .int t_chosenSign, .int t_chosenLimbs, .int t_state, .int t_done, .int t_pivots, .int t_odd])), (q_t_limbs, .inl (cA, n_t_limbs, .inl a_t_limbs)), (q_t_signs, .inl (cA, n_t_signs, .inl a_t_signs)), (q_t_rows, .inl (cA, n_t_rows, .inl a_t_rows))] sz [.ref q_t]) (c_Qi (dC, dI) vwCl [(cA, .int)] [(q_t, .inr (3, [.int t_n, .int t_room, .ref q_t_limbs, .ref q_t_signs, .ref q_t_rows, .int t_chosen, .int t_chosenSign, .int t_chosenLimbs, .int o.2.1, .int o.2.2.1, .int o.2.2.2.1, .int o.2.2.2.2.1])), (q_t_limbs, .inl (cA, n_t_limbs, .inl o.2.2.2.2.2.1)), (q_t_signs, .inl (cA, n_t_signs, .inl o.2.2.2.2.2.2.1)), (q_t_rows, .inl (cA, n_t_rows, .inl o.2.2.2.2.2.2.2))] (va_A [(q_t, .inr (3, [.int t_n, .int t_room, .ref q_t_limbs, .ref q_t_signs, .ref q_t_rows, .int t_chosen, .int t_chosenSign, .int t_chosenLimbs, .int t_state, .int t_done, .int t_pivots, .int t_odd])), (q_t_limbs, .inl (cA, n_t_limbs, .inl a_t_limbs)), (q_t_signs, .inl (cA, n_t_signs, .inl a_t_signs)), (q_t_rows, .inl (cA, n_t_rows, .inl a_t_rows))] sz) o.1) 0 0 (va_A [(q_t, .inr (3, [.int t_n, .int t_room, .ref q_t_limbs, .ref q_t_signs, .ref q_t_rows, .int t_chosen, .int t_chosenSign, .int t_chosenLimbs, .int t_state, .int t_done, .int t_pivots, .int t_odd])), (q_t_limbs, .inl (cA, n_t_limbs, .inl a_t_limbs)), (q_t_signs, .inl (cA, n_t_signs, .inl a_t_signs)), (q_t_rows, .inl (cA, n_t_rows, .inl a_t_rows))] sz) := by
  unfold f_X_step at hf
  refine k_ent (Qc := fun A => c_Qi (dC, dI) vwCl [(cA, .int)] [(q_t, .inr (3, [.int t_n, .int t_room, .ref q_t_limbs, .ref q_t_signs, .ref q_t_rows, .int t_chosen, .int t_chosenSign, .int t_chosenLimbs, .int o.2.1, .int o.2.2.1, .int o.2.2.2.1, .int o.2.2.2.2.1])), (q_t_limbs, .inl (cA, n_t_limbs, .inl o.2.2.2.2.2.1)), (q_t_signs, .inl (cA, n_t_signs, .inl o.2.2.2.2.2.2.1)), (q_t_rows, .inl (cA, n_t_rows, .inl o.2.2.2.2.2.2.2))] A o.1) (by decide) rfl (Nat.le_of_ble_eq_true rfl) ?_
  intro p e s m below meth c A hx hb hr hown hts hml hlocks hin hsz hA hK H locs hP hD hS ls hl
  have hown : s.vm.findClass RX3 = some m.cls := hown
  have hl : lv_has ls 1 [(0, .ref q_t)] := hl
  refine lv_aload_n hx hb dX3_step_0 rfl (lv_at hl 0 rfl) ?_
  refine va_get (D := (dC, dI)) (ci := 3) (v := .int t_state) (C := RX3) (T := TX3) (N := 12) hx hb hts ki_X_step_X3 hown hK hP 0 rfl rfl 8 (by decide) (hts (.fieldLink RX3 32 "MinorStepsModel" "state" "I") kw_X_step_0) (fun _ h9 => h9) rfl dX3_step_1 ?_
  refine lv_iconst (v := 4) hx hb dX3_step_4 (by decide) ?_
  refine lv_icmp_eq (tgt := 20) hx hb dX3_step_5 (by decide) (fun c1 => ?_) (fun c1 => ?_)
  · have hf := og_t c1 hf
    refine lv_aload_n hx hb dX3_step_20 rfl (lv_at hl 0 rfl) ?_
    refine lv_aload_n hx hb dX3_step_21 rfl (lv_at hl 0 rfl) ?_
    refine va_get (D := (dC, dI)) (ci := 3) (v := .int t_done) (C := RX3) (T := TX3) (N := 12) hx hb hts ki_X_step_X3 hown hK hP 0 rfl rfl 9 (by decide) (hts (.fieldLink RX3 35 "MinorStepsModel" "done" "I") kw_X_step_1) (fun _ h9 => h9) rfl dX3_step_22 ?_
    refine lv_aload_n hx hb dX3_step_25 rfl (lv_at hl 0 rfl) ?_
    refine va_get (D := (dC, dI)) (ci := 3) (v := .int t_n) (C := RX3) (T := TX3) (N := 12) hx hb hts ki_X_step_X3 hown hK hP 0 rfl rfl 0 (by decide) (hts (.fieldLink RX3 19 "MinorStepsModel" "n" "I") kw_X_step_2) (fun _ h9 => h9) rfl dX3_step_26 ?_
    refine lv_icmp_ge (tgt := 43) hx hb dX3_step_29 (by decide) (fun c2 => ?_) (fun c2 => ?_)
    · have hf := og_t c2 hf
      refine lv_aload_n hx hb dX3_step_43 rfl (lv_at hl 0 rfl) ?_
      refine lv_iconst (v := 2) hx hb dX3_step_44 (by decide) ?_
      refine lv_aload_n hx hb dX3_step_45 rfl (lv_at hl 0 rfl) ?_
      refine va_get (D := (dC, dI)) (ci := 3) (v := .int t_n) (C := RX3) (T := TX3) (N := 12) hx hb hts ki_X_step_X3 hown hK hP 0 rfl rfl 0 (by decide) (hts (.fieldLink RX3 19 "MinorStepsModel" "n" "I") kw_X_step_2) (fun _ h9 => h9) rfl dX3_step_46 ?_
      refine lv_imul hx hb dX3_step_49 ?_
      refine lv_iconst (v := 1) hx hb dX3_step_50 (by decide) ?_
      refine lv_isub hx hb dX3_step_51 ?_
      refine lv_aload_n hx hb dX3_step_52 rfl (lv_at hl 0 rfl) ?_
      refine va_get (D := (dC, dI)) (ci := 3) (v := .int t_done) (C := RX3) (T := TX3) (N := 12) hx hb hts ki_X_step_X3 hown hK hP 0 rfl rfl 9 (by decide) (hts (.fieldLink RX3 35 "MinorStepsModel" "done" "I") kw_X_step_1) (fun _ h9 => h9) rfl dX3_step_53 ?_
      refine lv_isub hx hb dX3_step_56 ?_
      obtain ⟨x3, g4, hf⟩ := og_b hf
      refine kc_i (wr := []) (w1 := [(q_t, .inr (3, [.int t_n, .int t_room, .ref q_t_limbs, .ref q_t_signs, .ref q_t_rows, .int t_chosen, .int t_chosenSign, .int t_chosenLimbs, .int t_state, .int t_done, .int t_pivots, .int t_odd])), (q_t_limbs, .inl (cA, n_t_limbs, .inl x3.2.1)), (q_t_signs, .inl (cA, n_t_signs, .inl x3.2.2)), (q_t_rows, .inl (cA, n_t_rows, .inl a_t_rows))]) [0, 1, 2, 3] [] (va_runV (As := [.int (((2 * t_n) - 1) - t_done)]) (rest := [.ref q_t]) ⟨hx, hb, hml, hown, hts⟩ (c_X_insert l dC dI cA H.size q_t q_t_limbs q_t_signs q_t_rows k t_n t_room t_chosen t_chosenSign t_chosenLimbs t_state t_done t_pivots t_odd n_t_limbs a_t_limbs n_t_signs a_t_signs n_t_rows a_t_rows (((2 * t_n) - 1) - t_done) x3 g4) (cwV 1 hts gX3_step_X3_insert rfl rfl rfl (by decide +kernel) ⟨Nat.le_of_ble_eq_true rfl, Nat.le_of_ble_eq_true rfl⟩) (kc_preV hP hD hK [0, 1, 2, 3] rfl rfl (by decide) (ci := 3) (q0 := 0) rfl rfl) rfl rfl hl.1 rfl (lv_room (Nat.le_of_ble_eq_true rfl)) dX3_step_57 ⟨Nat.le_of_ble_eq_true rfl, Nat.le_of_ble_eq_true rfl⟩) hP hD hS hA rfl rfl (by decide) (by decide) (fun H locs hP hD hS => ?_)
      have hP : va_P (dC, dI) vwCl [(q_t, .inr (3, [.int t_n, .int t_room, .ref q_t_limbs, .ref q_t_signs, .ref q_t_rows, .int t_chosen, .int t_chosenSign, .int t_chosenLimbs, .int t_state, .int t_done, .int t_pivots, .int t_odd])), (q_t_limbs, .inl (cA, n_t_limbs, .inl x3.2.1)), (q_t_signs, .inl (cA, n_t_signs, .inl x3.2.2)), (q_t_rows, .inl (cA, n_t_rows, .inl a_t_rows))] H := hP
      have hD : va_D A [(q_t, .inr (3, [.int t_n, .int t_room, .ref q_t_limbs, .ref q_t_signs, .ref q_t_rows, .int t_chosen, .int t_chosenSign, .int t_chosenLimbs, .int t_state, .int t_done, .int t_pivots, .int t_odd])), (q_t_limbs, .inl (cA, n_t_limbs, .inl x3.2.1)), (q_t_signs, .inl (cA, n_t_signs, .inl x3.2.2)), (q_t_rows, .inl (cA, n_t_rows, .inl a_t_rows))] := hD
      refine va_put (D := (dC, dI)) (ci := 3) (v := .int x3.1) (ty := .int) (C := RX3) (T := TX3) (N := 12) hx hb hts ki_X_step_X3 tyX3 tyX3_ok nmX3 hown hK hP hD hS 0 rfl rfl 8 (by decide) (hts (.fieldLink RX3 32 "MinorStepsModel" "state" "I") kw_X_step_0) (fun _ h9 => h9) rfl (by decide +kernel) rfl rfl (Nat.le_of_ble_eq_true rfl) dX3_step_60 (fun H locs hP hD hS => ?_)
      have hP : va_P (dC, dI) vwCl [(q_t, .inr (3, [.int t_n, .int t_room, .ref q_t_limbs, .ref q_t_signs, .ref q_t_rows, .int t_chosen, .int t_chosenSign, .int t_chosenLimbs, .int x3.1, .int t_done, .int t_pivots, .int t_odd])), (q_t_limbs, .inl (cA, n_t_limbs, .inl x3.2.1)), (q_t_signs, .inl (cA, n_t_signs, .inl x3.2.2)), (q_t_rows, .inl (cA, n_t_rows, .inl a_t_rows))] H := hP
      have hD : va_D A [(q_t, .inr (3, [.int t_n, .int t_room, .ref q_t_limbs, .ref q_t_signs, .ref q_t_rows, .int t_chosen, .int t_chosenSign, .int t_chosenLimbs, .int x3.1, .int t_done, .int t_pivots, .int t_odd])), (q_t_limbs, .inl (cA, n_t_limbs, .inl x3.2.1)), (q_t_signs, .inl (cA, n_t_signs, .inl x3.2.2)), (q_t_rows, .inl (cA, n_t_rows, .inl a_t_rows))] := hD
      refine lv_aload_n hx hb dX3_step_63 rfl (lv_at hl 0 rfl) ?_
      refine lv_dup hx hb dX3_step_64 rfl ?_
      refine va_get (D := (dC, dI)) (ci := 3) (v := .int t_done) (C := RX3) (T := TX3) (N := 12) hx hb hts ki_X_step_X3 hown hK hP 0 rfl rfl 9 (by decide) (hts (.fieldLink RX3 35 "MinorStepsModel" "done" "I") kw_X_step_1) (fun _ h9 => h9) rfl dX3_step_65 ?_
      refine lv_iconst (v := 1) hx hb dX3_step_68 (by decide) ?_
      refine lv_iadd hx hb dX3_step_69 ?_
      refine va_put (D := (dC, dI)) (ci := 3) (v := .int (t_done + 1)) (ty := .int) (C := RX3) (T := TX3) (N := 12) hx hb hts ki_X_step_X3 tyX3 tyX3_ok nmX3 hown hK hP hD hS 0 rfl rfl 9 (by decide) (hts (.fieldLink RX3 35 "MinorStepsModel" "done" "I") kw_X_step_1) (fun _ h9 => h9) rfl (by decide +kernel) rfl rfl (Nat.le_of_ble_eq_true rfl) dX3_step_70 (fun H locs hP hD hS => ?_)
      have hP : va_P (dC, dI) vwCl [(q_t, .inr (3, [.int t_n, .int t_room, .ref q_t_limbs, .ref q_t_signs, .ref q_t_rows, .int t_chosen, .int t_chosenSign, .int t_chosenLimbs, .int x3.1, .int (t_done + 1), .int t_pivots, .int t_odd])), (q_t_limbs, .inl (cA, n_t_limbs, .inl x3.2.1)), (q_t_signs, .inl (cA, n_t_signs, .inl x3.2.2)), (q_t_rows, .inl (cA, n_t_rows, .inl a_t_rows))] H := hP
      have hD : va_D A [(q_t, .inr (3, [.int t_n, .int t_room, .ref q_t_limbs, .ref q_t_signs, .ref q_t_rows, .int t_chosen, .int t_chosenSign, .int t_chosenLimbs, .int x3.1, .int (t_done + 1), .int t_pivots, .int t_odd])), (q_t_limbs, .inl (cA, n_t_limbs, .inl x3.2.1)), (q_t_signs, .inl (cA, n_t_signs, .inl x3.2.2)), (q_t_rows, .inl (cA, n_t_rows, .inl a_t_rows))] := hD
      refine lv_aload_n hx hb dX3_step_73 rfl (lv_at hl 0 rfl) ?_
      refine va_get (D := (dC, dI)) (ci := 3) (v := .int x3.1) (C := RX3) (T := TX3) (N := 12) hx hb hts ki_X_step_X3 hown hK hP 0 rfl rfl 8 (by decide) (hts (.fieldLink RX3 32 "MinorStepsModel" "state" "I") kw_X_step_0) (fun _ h9 => h9) rfl dX3_step_74 ?_
      have e9 := Option.some.inj hf
      subst e9
      exact kr_i hx hb hr hlocks hK hS (hP.sub [0, 1, 2, 3] rfl) (hD.sub [0, 1, 2, 3] (by decide) rfl) dX3_step_77
    · have hf := og_f c2 hf
      refine lv_aload_n hx hb dX3_step_32 rfl (lv_at hl 0 rfl) ?_
      refine lv_aload_n hx hb dX3_step_33 rfl (lv_at hl 0 rfl) ?_
      refine va_get (D := (dC, dI)) (ci := 3) (v := .int t_done) (C := RX3) (T := TX3) (N := 12) hx hb hts ki_X_step_X3 hown hK hP 0 rfl rfl 9 (by decide) (hts (.fieldLink RX3 35 "MinorStepsModel" "done" "I") kw_X_step_1) (fun _ h9 => h9) rfl dX3_step_34 ?_
      obtain ⟨x5, g6, hf⟩ := og_b hf
      refine kc_i (wr := []) (w1 := [(q_t, .inr (3, [.int t_n, .int t_room, .ref q_t_limbs, .ref q_t_signs, .ref q_t_rows, .int t_chosen, .int t_chosenSign, .int t_chosenLimbs, .int t_state, .int t_done, .int x5.2.1, .int x5.2.2.1])), (q_t_limbs, .inl (cA, n_t_limbs, .inl x5.2.2.2.1)), (q_t_signs, .inl (cA, n_t_signs, .inl x5.2.2.2.2.1)), (q_t_rows, .inl (cA, n_t_rows, .inl x5.2.2.2.2.2))]) [0, 1, 2, 3] [] (va_runV (As := [.int t_done]) (rest := [.ref q_t]) ⟨hx, hb, hml, hown, hts⟩ (c_X_eliminate l dC dI cA H.size q_t q_t_limbs q_t_signs q_t_rows k t_n t_room t_chosen t_chosenSign t_chosenLimbs t_state t_done t_pivots t_odd n_t_limbs a_t_limbs n_t_signs a_t_signs n_t_rows a_t_rows t_done x5 g6) (cwV 1 hts gX3_step_X3_eliminate rfl rfl rfl (by decide +kernel) ⟨Nat.le_of_ble_eq_true rfl, Nat.le_of_ble_eq_true rfl⟩) (kc_preV hP hD hK [0, 1, 2, 3] rfl rfl (by decide) (ci := 3) (q0 := 0) rfl rfl) rfl rfl hl.1 rfl (lv_room (Nat.le_of_ble_eq_true rfl)) dX3_step_37 ⟨Nat.le_of_ble_eq_true rfl, Nat.le_of_ble_eq_true rfl⟩) hP hD hS hA rfl rfl (by decide) (by decide) (fun H locs hP hD hS => ?_)
      have hP : va_P (dC, dI) vwCl [(q_t, .inr (3, [.int t_n, .int t_room, .ref q_t_limbs, .ref q_t_signs, .ref q_t_rows, .int t_chosen, .int t_chosenSign, .int t_chosenLimbs, .int t_state, .int t_done, .int x5.2.1, .int x5.2.2.1])), (q_t_limbs, .inl (cA, n_t_limbs, .inl x5.2.2.2.1)), (q_t_signs, .inl (cA, n_t_signs, .inl x5.2.2.2.2.1)), (q_t_rows, .inl (cA, n_t_rows, .inl x5.2.2.2.2.2))] H := hP
      have hD : va_D A [(q_t, .inr (3, [.int t_n, .int t_room, .ref q_t_limbs, .ref q_t_signs, .ref q_t_rows, .int t_chosen, .int t_chosenSign, .int t_chosenLimbs, .int t_state, .int t_done, .int x5.2.1, .int x5.2.2.1])), (q_t_limbs, .inl (cA, n_t_limbs, .inl x5.2.2.2.1)), (q_t_signs, .inl (cA, n_t_signs, .inl x5.2.2.2.2.1)), (q_t_rows, .inl (cA, n_t_rows, .inl x5.2.2.2.2.2))] := hD
      refine lv_goto (tgt := 60) hx hb dX3_step_40 (by decide) ?_
      refine va_put (D := (dC, dI)) (ci := 3) (v := .int x5.1) (ty := .int) (C := RX3) (T := TX3) (N := 12) hx hb hts ki_X_step_X3 tyX3 tyX3_ok nmX3 hown hK hP hD hS 0 rfl rfl 8 (by decide) (hts (.fieldLink RX3 32 "MinorStepsModel" "state" "I") kw_X_step_0) (fun _ h9 => h9) rfl (by decide +kernel) rfl rfl (Nat.le_of_ble_eq_true rfl) dX3_step_60 (fun H locs hP hD hS => ?_)
      have hP : va_P (dC, dI) vwCl [(q_t, .inr (3, [.int t_n, .int t_room, .ref q_t_limbs, .ref q_t_signs, .ref q_t_rows, .int t_chosen, .int t_chosenSign, .int t_chosenLimbs, .int x5.1, .int t_done, .int x5.2.1, .int x5.2.2.1])), (q_t_limbs, .inl (cA, n_t_limbs, .inl x5.2.2.2.1)), (q_t_signs, .inl (cA, n_t_signs, .inl x5.2.2.2.2.1)), (q_t_rows, .inl (cA, n_t_rows, .inl x5.2.2.2.2.2))] H := hP
      have hD : va_D A [(q_t, .inr (3, [.int t_n, .int t_room, .ref q_t_limbs, .ref q_t_signs, .ref q_t_rows, .int t_chosen, .int t_chosenSign, .int t_chosenLimbs, .int x5.1, .int t_done, .int x5.2.1, .int x5.2.2.1])), (q_t_limbs, .inl (cA, n_t_limbs, .inl x5.2.2.2.1)), (q_t_signs, .inl (cA, n_t_signs, .inl x5.2.2.2.2.1)), (q_t_rows, .inl (cA, n_t_rows, .inl x5.2.2.2.2.2))] := hD
      refine lv_aload_n hx hb dX3_step_63 rfl (lv_at hl 0 rfl) ?_
      refine lv_dup hx hb dX3_step_64 rfl ?_
      refine va_get (D := (dC, dI)) (ci := 3) (v := .int t_done) (C := RX3) (T := TX3) (N := 12) hx hb hts ki_X_step_X3 hown hK hP 0 rfl rfl 9 (by decide) (hts (.fieldLink RX3 35 "MinorStepsModel" "done" "I") kw_X_step_1) (fun _ h9 => h9) rfl dX3_step_65 ?_
      refine lv_iconst (v := 1) hx hb dX3_step_68 (by decide) ?_
      refine lv_iadd hx hb dX3_step_69 ?_
      refine va_put (D := (dC, dI)) (ci := 3) (v := .int (t_done + 1)) (ty := .int) (C := RX3) (T := TX3) (N := 12) hx hb hts ki_X_step_X3 tyX3 tyX3_ok nmX3 hown hK hP hD hS 0 rfl rfl 9 (by decide) (hts (.fieldLink RX3 35 "MinorStepsModel" "done" "I") kw_X_step_1) (fun _ h9 => h9) rfl (by decide +kernel) rfl rfl (Nat.le_of_ble_eq_true rfl) dX3_step_70 (fun H locs hP hD hS => ?_)
      have hP : va_P (dC, dI) vwCl [(q_t, .inr (3, [.int t_n, .int t_room, .ref q_t_limbs, .ref q_t_signs, .ref q_t_rows, .int t_chosen, .int t_chosenSign, .int t_chosenLimbs, .int x5.1, .int (t_done + 1), .int x5.2.1, .int x5.2.2.1])), (q_t_limbs, .inl (cA, n_t_limbs, .inl x5.2.2.2.1)), (q_t_signs, .inl (cA, n_t_signs, .inl x5.2.2.2.2.1)), (q_t_rows, .inl (cA, n_t_rows, .inl x5.2.2.2.2.2))] H := hP
      have hD : va_D A [(q_t, .inr (3, [.int t_n, .int t_room, .ref q_t_limbs, .ref q_t_signs, .ref q_t_rows, .int t_chosen, .int t_chosenSign, .int t_chosenLimbs, .int x5.1, .int (t_done + 1), .int x5.2.1, .int x5.2.2.1])), (q_t_limbs, .inl (cA, n_t_limbs, .inl x5.2.2.2.1)), (q_t_signs, .inl (cA, n_t_signs, .inl x5.2.2.2.2.1)), (q_t_rows, .inl (cA, n_t_rows, .inl x5.2.2.2.2.2))] := hD
      refine lv_aload_n hx hb dX3_step_73 rfl (lv_at hl 0 rfl) ?_
      refine va_get (D := (dC, dI)) (ci := 3) (v := .int x5.1) (C := RX3) (T := TX3) (N := 12) hx hb hts ki_X_step_X3 hown hK hP 0 rfl rfl 8 (by decide) (hts (.fieldLink RX3 32 "MinorStepsModel" "state" "I") kw_X_step_0) (fun _ h9 => h9) rfl dX3_step_74 ?_
      have e9 := Option.some.inj hf
      subst e9
      exact kr_i hx hb hr hlocks hK hS (hP.sub [0, 1, 2, 3] rfl) (hD.sub [0, 1, 2, 3] (by decide) rfl) dX3_step_77
  · have hf := og_f c1 hf
    refine lv_aload_n hx hb dX3_step_8 rfl (lv_at hl 0 rfl) ?_
    refine va_get (D := (dC, dI)) (ci := 3) (v := .int t_state) (C := RX3) (T := TX3) (N := 12) hx hb hts ki_X_step_X3 hown hK hP 0 rfl rfl 8 (by decide) (hts (.fieldLink RX3 32 "MinorStepsModel" "state" "I") kw_X_step_0) (fun _ h9 => h9) rfl dX3_step_9 ?_
    refine lv_if_eq (tgt := 20) hx hb dX3_step_12 (by decide) (fun c7 => ?_) (fun c7 => ?_)
    · have hf := og_t c7 hf
      refine lv_aload_n hx hb dX3_step_20 rfl (lv_at hl 0 rfl) ?_
      refine lv_aload_n hx hb dX3_step_21 rfl (lv_at hl 0 rfl) ?_
      refine va_get (D := (dC, dI)) (ci := 3) (v := .int t_done) (C := RX3) (T := TX3) (N := 12) hx hb hts ki_X_step_X3 hown hK hP 0 rfl rfl 9 (by decide) (hts (.fieldLink RX3 35 "MinorStepsModel" "done" "I") kw_X_step_1) (fun _ h9 => h9) rfl dX3_step_22 ?_
      refine lv_aload_n hx hb dX3_step_25 rfl (lv_at hl 0 rfl) ?_
      refine va_get (D := (dC, dI)) (ci := 3) (v := .int t_n) (C := RX3) (T := TX3) (N := 12) hx hb hts ki_X_step_X3 hown hK hP 0 rfl rfl 0 (by decide) (hts (.fieldLink RX3 19 "MinorStepsModel" "n" "I") kw_X_step_2) (fun _ h9 => h9) rfl dX3_step_26 ?_
      refine lv_icmp_ge (tgt := 43) hx hb dX3_step_29 (by decide) (fun c8 => ?_) (fun c8 => ?_)
      · have hf := og_t c8 hf
        refine lv_aload_n hx hb dX3_step_43 rfl (lv_at hl 0 rfl) ?_
        refine lv_iconst (v := 2) hx hb dX3_step_44 (by decide) ?_
        refine lv_aload_n hx hb dX3_step_45 rfl (lv_at hl 0 rfl) ?_
        refine va_get (D := (dC, dI)) (ci := 3) (v := .int t_n) (C := RX3) (T := TX3) (N := 12) hx hb hts ki_X_step_X3 hown hK hP 0 rfl rfl 0 (by decide) (hts (.fieldLink RX3 19 "MinorStepsModel" "n" "I") kw_X_step_2) (fun _ h9 => h9) rfl dX3_step_46 ?_
        refine lv_imul hx hb dX3_step_49 ?_
        refine lv_iconst (v := 1) hx hb dX3_step_50 (by decide) ?_
        refine lv_isub hx hb dX3_step_51 ?_
        refine lv_aload_n hx hb dX3_step_52 rfl (lv_at hl 0 rfl) ?_
        refine va_get (D := (dC, dI)) (ci := 3) (v := .int t_done) (C := RX3) (T := TX3) (N := 12) hx hb hts ki_X_step_X3 hown hK hP 0 rfl rfl 9 (by decide) (hts (.fieldLink RX3 35 "MinorStepsModel" "done" "I") kw_X_step_1) (fun _ h9 => h9) rfl dX3_step_53 ?_
        refine lv_isub hx hb dX3_step_56 ?_
        obtain ⟨x9, g10, hf⟩ := og_b hf
        refine kc_i (wr := []) (w1 := [(q_t, .inr (3, [.int t_n, .int t_room, .ref q_t_limbs, .ref q_t_signs, .ref q_t_rows, .int t_chosen, .int t_chosenSign, .int t_chosenLimbs, .int t_state, .int t_done, .int t_pivots, .int t_odd])), (q_t_limbs, .inl (cA, n_t_limbs, .inl x9.2.1)), (q_t_signs, .inl (cA, n_t_signs, .inl x9.2.2)), (q_t_rows, .inl (cA, n_t_rows, .inl a_t_rows))]) [0, 1, 2, 3] [] (va_runV (As := [.int (((2 * t_n) - 1) - t_done)]) (rest := [.ref q_t]) ⟨hx, hb, hml, hown, hts⟩ (c_X_insert l dC dI cA H.size q_t q_t_limbs q_t_signs q_t_rows k t_n t_room t_chosen t_chosenSign t_chosenLimbs t_state t_done t_pivots t_odd n_t_limbs a_t_limbs n_t_signs a_t_signs n_t_rows a_t_rows (((2 * t_n) - 1) - t_done) x9 g10) (cwV 1 hts gX3_step_X3_insert rfl rfl rfl (by decide +kernel) ⟨Nat.le_of_ble_eq_true rfl, Nat.le_of_ble_eq_true rfl⟩) (kc_preV hP hD hK [0, 1, 2, 3] rfl rfl (by decide) (ci := 3) (q0 := 0) rfl rfl) rfl rfl hl.1 rfl (lv_room (Nat.le_of_ble_eq_true rfl)) dX3_step_57 ⟨Nat.le_of_ble_eq_true rfl, Nat.le_of_ble_eq_true rfl⟩) hP hD hS hA rfl rfl (by decide) (by decide) (fun H locs hP hD hS => ?_)
        have hP : va_P (dC, dI) vwCl [(q_t, .inr (3, [.int t_n, .int t_room, .ref q_t_limbs, .ref q_t_signs, .ref q_t_rows, .int t_chosen, .int t_chosenSign, .int t_chosenLimbs, .int t_state, .int t_done, .int t_pivots, .int t_odd])), (q_t_limbs, .inl (cA, n_t_limbs, .inl x9.2.1)), (q_t_signs, .inl (cA, n_t_signs, .inl x9.2.2)), (q_t_rows, .inl (cA, n_t_rows, .inl a_t_rows))] H := hP
        have hD : va_D A [(q_t, .inr (3, [.int t_n, .int t_room, .ref q_t_limbs, .ref q_t_signs, .ref q_t_rows, .int t_chosen, .int t_chosenSign, .int t_chosenLimbs, .int t_state, .int t_done, .int t_pivots, .int t_odd])), (q_t_limbs, .inl (cA, n_t_limbs, .inl x9.2.1)), (q_t_signs, .inl (cA, n_t_signs, .inl x9.2.2)), (q_t_rows, .inl (cA, n_t_rows, .inl a_t_rows))] := hD
        refine va_put (D := (dC, dI)) (ci := 3) (v := .int x9.1) (ty := .int) (C := RX3) (T := TX3) (N := 12) hx hb hts ki_X_step_X3 tyX3 tyX3_ok nmX3 hown hK hP hD hS 0 rfl rfl 8 (by decide) (hts (.fieldLink RX3 32 "MinorStepsModel" "state" "I") kw_X_step_0) (fun _ h9 => h9) rfl (by decide +kernel) rfl rfl (Nat.le_of_ble_eq_true rfl) dX3_step_60 (fun H locs hP hD hS => ?_)
        have hP : va_P (dC, dI) vwCl [(q_t, .inr (3, [.int t_n, .int t_room, .ref q_t_limbs, .ref q_t_signs, .ref q_t_rows, .int t_chosen, .int t_chosenSign, .int t_chosenLimbs, .int x9.1, .int t_done, .int t_pivots, .int t_odd])), (q_t_limbs, .inl (cA, n_t_limbs, .inl x9.2.1)), (q_t_signs, .inl (cA, n_t_signs, .inl x9.2.2)), (q_t_rows, .inl (cA, n_t_rows, .inl a_t_rows))] H := hP
        have hD : va_D A [(q_t, .inr (3, [.int t_n, .int t_room, .ref q_t_limbs, .ref q_t_signs, .ref q_t_rows, .int t_chosen, .int t_chosenSign, .int t_chosenLimbs, .int x9.1, .int t_done, .int t_pivots, .int t_odd])), (q_t_limbs, .inl (cA, n_t_limbs, .inl x9.2.1)), (q_t_signs, .inl (cA, n_t_signs, .inl x9.2.2)), (q_t_rows, .inl (cA, n_t_rows, .inl a_t_rows))] := hD
        refine lv_aload_n hx hb dX3_step_63 rfl (lv_at hl 0 rfl) ?_
        refine lv_dup hx hb dX3_step_64 rfl ?_
        refine va_get (D := (dC, dI)) (ci := 3) (v := .int t_done) (C := RX3) (T := TX3) (N := 12) hx hb hts ki_X_step_X3 hown hK hP 0 rfl rfl 9 (by decide) (hts (.fieldLink RX3 35 "MinorStepsModel" "done" "I") kw_X_step_1) (fun _ h9 => h9) rfl dX3_step_65 ?_
        refine lv_iconst (v := 1) hx hb dX3_step_68 (by decide) ?_
        refine lv_iadd hx hb dX3_step_69 ?_
        refine va_put (D := (dC, dI)) (ci := 3) (v := .int (t_done + 1)) (ty := .int) (C := RX3) (T := TX3) (N := 12) hx hb hts ki_X_step_X3 tyX3 tyX3_ok nmX3 hown hK hP hD hS 0 rfl rfl 9 (by decide) (hts (.fieldLink RX3 35 "MinorStepsModel" "done" "I") kw_X_step_1) (fun _ h9 => h9) rfl (by decide +kernel) rfl rfl (Nat.le_of_ble_eq_true rfl) dX3_step_70 (fun H locs hP hD hS => ?_)
        have hP : va_P (dC, dI) vwCl [(q_t, .inr (3, [.int t_n, .int t_room, .ref q_t_limbs, .ref q_t_signs, .ref q_t_rows, .int t_chosen, .int t_chosenSign, .int t_chosenLimbs, .int x9.1, .int (t_done + 1), .int t_pivots, .int t_odd])), (q_t_limbs, .inl (cA, n_t_limbs, .inl x9.2.1)), (q_t_signs, .inl (cA, n_t_signs, .inl x9.2.2)), (q_t_rows, .inl (cA, n_t_rows, .inl a_t_rows))] H := hP
        have hD : va_D A [(q_t, .inr (3, [.int t_n, .int t_room, .ref q_t_limbs, .ref q_t_signs, .ref q_t_rows, .int t_chosen, .int t_chosenSign, .int t_chosenLimbs, .int x9.1, .int (t_done + 1), .int t_pivots, .int t_odd])), (q_t_limbs, .inl (cA, n_t_limbs, .inl x9.2.1)), (q_t_signs, .inl (cA, n_t_signs, .inl x9.2.2)), (q_t_rows, .inl (cA, n_t_rows, .inl a_t_rows))] := hD
        refine lv_aload_n hx hb dX3_step_73 rfl (lv_at hl 0 rfl) ?_
        refine va_get (D := (dC, dI)) (ci := 3) (v := .int x9.1) (C := RX3) (T := TX3) (N := 12) hx hb hts ki_X_step_X3 hown hK hP 0 rfl rfl 8 (by decide) (hts (.fieldLink RX3 32 "MinorStepsModel" "state" "I") kw_X_step_0) (fun _ h9 => h9) rfl dX3_step_74 ?_
        have e9 := Option.some.inj hf
        subst e9
        exact kr_i hx hb hr hlocks hK hS (hP.sub [0, 1, 2, 3] rfl) (hD.sub [0, 1, 2, 3] (by decide) rfl) dX3_step_77
      · have hf := og_f c8 hf
        refine lv_aload_n hx hb dX3_step_32 rfl (lv_at hl 0 rfl) ?_
        refine lv_aload_n hx hb dX3_step_33 rfl (lv_at hl 0 rfl) ?_
        refine va_get (D := (dC, dI)) (ci := 3) (v := .int t_done) (C := RX3) (T := TX3) (N := 12) hx hb hts ki_X_step_X3 hown hK hP 0 rfl rfl 9 (by decide) (hts (.fieldLink RX3 35 "MinorStepsModel" "done" "I") kw_X_step_1) (fun _ h9 => h9) rfl dX3_step_34 ?_
        obtain ⟨x11, g12, hf⟩ := og_b hf
        refine kc_i (wr := []) (w1 := [(q_t, .inr (3, [.int t_n, .int t_room, .ref q_t_limbs, .ref q_t_signs, .ref q_t_rows, .int t_chosen, .int t_chosenSign, .int t_chosenLimbs, .int t_state, .int t_done, .int x11.2.1, .int x11.2.2.1])), (q_t_limbs, .inl (cA, n_t_limbs, .inl x11.2.2.2.1)), (q_t_signs, .inl (cA, n_t_signs, .inl x11.2.2.2.2.1)), (q_t_rows, .inl (cA, n_t_rows, .inl x11.2.2.2.2.2))]) [0, 1, 2, 3] [] (va_runV (As := [.int t_done]) (rest := [.ref q_t]) ⟨hx, hb, hml, hown, hts⟩ (c_X_eliminate l dC dI cA H.size q_t q_t_limbs q_t_signs q_t_rows k t_n t_room t_chosen t_chosenSign t_chosenLimbs t_state t_done t_pivots t_odd n_t_limbs a_t_limbs n_t_signs a_t_signs n_t_rows a_t_rows t_done x11 g12) (cwV 1 hts gX3_step_X3_eliminate rfl rfl rfl (by decide +kernel) ⟨Nat.le_of_ble_eq_true rfl, Nat.le_of_ble_eq_true rfl⟩) (kc_preV hP hD hK [0, 1, 2, 3] rfl rfl (by decide) (ci := 3) (q0 := 0) rfl rfl) rfl rfl hl.1 rfl (lv_room (Nat.le_of_ble_eq_true rfl)) dX3_step_37 ⟨Nat.le_of_ble_eq_true rfl, Nat.le_of_ble_eq_true rfl⟩) hP hD hS hA rfl rfl (by decide) (by decide) (fun H locs hP hD hS => ?_)
        have hP : va_P (dC, dI) vwCl [(q_t, .inr (3, [.int t_n, .int t_room, .ref q_t_limbs, .ref q_t_signs, .ref q_t_rows, .int t_chosen, .int t_chosenSign, .int t_chosenLimbs, .int t_state, .int t_done, .int x11.2.1, .int x11.2.2.1])), (q_t_limbs, .inl (cA, n_t_limbs, .inl x11.2.2.2.1)), (q_t_signs, .inl (cA, n_t_signs, .inl x11.2.2.2.2.1)), (q_t_rows, .inl (cA, n_t_rows, .inl x11.2.2.2.2.2))] H := hP
        have hD : va_D A [(q_t, .inr (3, [.int t_n, .int t_room, .ref q_t_limbs, .ref q_t_signs, .ref q_t_rows, .int t_chosen, .int t_chosenSign, .int t_chosenLimbs, .int t_state, .int t_done, .int x11.2.1, .int x11.2.2.1])), (q_t_limbs, .inl (cA, n_t_limbs, .inl x11.2.2.2.1)), (q_t_signs, .inl (cA, n_t_signs, .inl x11.2.2.2.2.1)), (q_t_rows, .inl (cA, n_t_rows, .inl x11.2.2.2.2.2))] := hD
        refine lv_goto (tgt := 60) hx hb dX3_step_40 (by decide) ?_
        refine va_put (D := (dC, dI)) (ci := 3) (v := .int x11.1) (ty := .int) (C := RX3) (T := TX3) (N := 12) hx hb hts ki_X_step_X3 tyX3 tyX3_ok nmX3 hown hK hP hD hS 0 rfl rfl 8 (by decide) (hts (.fieldLink RX3 32 "MinorStepsModel" "state" "I") kw_X_step_0) (fun _ h9 => h9) rfl (by decide +kernel) rfl rfl (Nat.le_of_ble_eq_true rfl) dX3_step_60 (fun H locs hP hD hS => ?_)
        have hP : va_P (dC, dI) vwCl [(q_t, .inr (3, [.int t_n, .int t_room, .ref q_t_limbs, .ref q_t_signs, .ref q_t_rows, .int t_chosen, .int t_chosenSign, .int t_chosenLimbs, .int x11.1, .int t_done, .int x11.2.1, .int x11.2.2.1])), (q_t_limbs, .inl (cA, n_t_limbs, .inl x11.2.2.2.1)), (q_t_signs, .inl (cA, n_t_signs, .inl x11.2.2.2.2.1)), (q_t_rows, .inl (cA, n_t_rows, .inl x11.2.2.2.2.2))] H := hP
        have hD : va_D A [(q_t, .inr (3, [.int t_n, .int t_room, .ref q_t_limbs, .ref q_t_signs, .ref q_t_rows, .int t_chosen, .int t_chosenSign, .int t_chosenLimbs, .int x11.1, .int t_done, .int x11.2.1, .int x11.2.2.1])), (q_t_limbs, .inl (cA, n_t_limbs, .inl x11.2.2.2.1)), (q_t_signs, .inl (cA, n_t_signs, .inl x11.2.2.2.2.1)), (q_t_rows, .inl (cA, n_t_rows, .inl x11.2.2.2.2.2))] := hD
        refine lv_aload_n hx hb dX3_step_63 rfl (lv_at hl 0 rfl) ?_
        refine lv_dup hx hb dX3_step_64 rfl ?_
        refine va_get (D := (dC, dI)) (ci := 3) (v := .int t_done) (C := RX3) (T := TX3) (N := 12) hx hb hts ki_X_step_X3 hown hK hP 0 rfl rfl 9 (by decide) (hts (.fieldLink RX3 35 "MinorStepsModel" "done" "I") kw_X_step_1) (fun _ h9 => h9) rfl dX3_step_65 ?_
        refine lv_iconst (v := 1) hx hb dX3_step_68 (by decide) ?_
        refine lv_iadd hx hb dX3_step_69 ?_
        refine va_put (D := (dC, dI)) (ci := 3) (v := .int (t_done + 1)) (ty := .int) (C := RX3) (T := TX3) (N := 12) hx hb hts ki_X_step_X3 tyX3 tyX3_ok nmX3 hown hK hP hD hS 0 rfl rfl 9 (by decide) (hts (.fieldLink RX3 35 "MinorStepsModel" "done" "I") kw_X_step_1) (fun _ h9 => h9) rfl (by decide +kernel) rfl rfl (Nat.le_of_ble_eq_true rfl) dX3_step_70 (fun H locs hP hD hS => ?_)
        have hP : va_P (dC, dI) vwCl [(q_t, .inr (3, [.int t_n, .int t_room, .ref q_t_limbs, .ref q_t_signs, .ref q_t_rows, .int t_chosen, .int t_chosenSign, .int t_chosenLimbs, .int x11.1, .int (t_done + 1), .int x11.2.1, .int x11.2.2.1])), (q_t_limbs, .inl (cA, n_t_limbs, .inl x11.2.2.2.1)), (q_t_signs, .inl (cA, n_t_signs, .inl x11.2.2.2.2.1)), (q_t_rows, .inl (cA, n_t_rows, .inl x11.2.2.2.2.2))] H := hP
        have hD : va_D A [(q_t, .inr (3, [.int t_n, .int t_room, .ref q_t_limbs, .ref q_t_signs, .ref q_t_rows, .int t_chosen, .int t_chosenSign, .int t_chosenLimbs, .int x11.1, .int (t_done + 1), .int x11.2.1, .int x11.2.2.1])), (q_t_limbs, .inl (cA, n_t_limbs, .inl x11.2.2.2.1)), (q_t_signs, .inl (cA, n_t_signs, .inl x11.2.2.2.2.1)), (q_t_rows, .inl (cA, n_t_rows, .inl x11.2.2.2.2.2))] := hD
        refine lv_aload_n hx hb dX3_step_73 rfl (lv_at hl 0 rfl) ?_
        refine va_get (D := (dC, dI)) (ci := 3) (v := .int x11.1) (C := RX3) (T := TX3) (N := 12) hx hb hts ki_X_step_X3 hown hK hP 0 rfl rfl 8 (by decide) (hts (.fieldLink RX3 32 "MinorStepsModel" "state" "I") kw_X_step_0) (fun _ h9 => h9) rfl dX3_step_74 ?_
        have e9 := Option.some.inj hf
        subst e9
        exact kr_i hx hb hr hlocks hK hS (hP.sub [0, 1, 2, 3] rfl) (hD.sub [0, 1, 2, 3] (by decide) rfl) dX3_step_77
    · have hf := og_f c7 hf
      refine lv_aload_n hx hb dX3_step_15 rfl (lv_at hl 0 rfl) ?_
      refine va_get (D := (dC, dI)) (ci := 3) (v := .int t_state) (C := RX3) (T := TX3) (N := 12) hx hb hts ki_X_step_X3 hown hK hP 0 rfl rfl 8 (by decide) (hts (.fieldLink RX3 32 "MinorStepsModel" "state" "I") kw_X_step_0) (fun _ h9 => h9) rfl dX3_step_16 ?_
      have e9 := Option.some.inj hf
      subst e9
      exact kr_i hx hb hr hlocks hK hS (hP.sub [0, 1, 2, 3] rfl) (hD.sub [0, 1, 2, 3] (by decide) rfl) dX3_step_19
def rm_X_status : Room := { frames := 0, cells := 0, slots := 0, locals := 0 }
theorem kw_X_status_0 : (.fieldLink RX3 32 "MinorStepsModel" "state" "I" : Cond) ∈ wsX3_status := by decide +kernel
theorem ki_X_status_X3 : ∀ w ∈ u_ws RX3 TX3 12, w ∈ wsX3_status := by decide +kernel
set_option maxHeartbeats 4000000 in
set_option maxRecDepth 100000 in
theorem c_X_status (l : Launch) (dC : Nat → ClassId) (dI : Nat → Nat → Nat) (cA : ClassId) (sz : Nat) (q_t : Nat) (q_t_limbs : Nat) (q_t_signs : Nat) (q_t_rows : Nat) (t_n : Int32) (t_room : Int32) (t_chosen : Int32) (t_chosenSign : Int32) (t_chosenLimbs : Int32) (t_state : Int32) (t_done : Int32) (t_pivots : Int32) (t_odd : Int32) (n_t_limbs : Nat) (a_t_limbs : Nat → Int32) (n_t_signs : Nat) (a_t_signs : Nat → Int32) (n_t_rows : Nat) (a_t_rows : Nat → Int32) (o : Int32) (hf : f_X_status t_state = some o) : Met l yX3_status wsX3_status rm_X_status (c_Pre (dC, dI) vwCl [(cA, .int)] [(q_t, .inr (3, [.int t_n, .int t_room, .ref q_t_limbs, .ref q_t_signs, .ref q_t_rows, .int t_chosen, .int t_chosenSign, .int t_chosenLimbs, .int t_state, .int t_done, .int t_pivots, .int t_odd])), (q_t_limbs, .inl (cA, n_t_limbs, .inl a_t_limbs)), (q_t_signs, .inl (cA, n_t_signs, .inl a_t_signs)), (q_t_rows, .inl (cA, n_t_rows, .inl a_t_rows))] sz [.ref q_t]) (c_Qi (dC, dI) vwCl [(cA, .int)] [(q_t, .inr (3, [.int t_n, .int t_room, .ref q_t_limbs, .ref q_t_signs, .ref q_t_rows, .int t_chosen, .int t_chosenSign, .int t_chosenLimbs, .int t_state, .int t_done, .int t_pivots, .int t_odd])), (q_t_limbs, .inl (cA, n_t_limbs, .inl a_t_limbs)), (q_t_signs, .inl (cA, n_t_signs, .inl a_t_signs)), (q_t_rows, .inl (cA, n_t_rows, .inl a_t_rows))] (va_A [(q_t, .inr (3, [.int t_n, .int t_room, .ref q_t_limbs, .ref q_t_signs, .ref q_t_rows, .int t_chosen, .int t_chosenSign, .int t_chosenLimbs, .int t_state, .int t_done, .int t_pivots, .int t_odd])), (q_t_limbs, .inl (cA, n_t_limbs, .inl a_t_limbs)), (q_t_signs, .inl (cA, n_t_signs, .inl a_t_signs)), (q_t_rows, .inl (cA, n_t_rows, .inl a_t_rows))] sz) o) 0 0 (va_A [(q_t, .inr (3, [.int t_n, .int t_room, .ref q_t_limbs, .ref q_t_signs, .ref q_t_rows, .int t_chosen, .int t_chosenSign, .int t_chosenLimbs, .int t_state, .int t_done, .int t_pivots, .int t_odd])), (q_t_limbs, .inl (cA, n_t_limbs, .inl a_t_limbs)), (q_t_signs, .inl (cA, n_t_signs, .inl a_t_signs)), (q_t_rows, .inl (cA, n_t_rows, .inl a_t_rows))] sz) := by
  unfold f_X_status at hf
  refine k_ent (Qc := fun A => c_Qi (dC, dI) vwCl [(cA, .int)] [(q_t, .inr (3, [.int t_n, .int t_room, .ref q_t_limbs, .ref q_t_signs, .ref q_t_rows, .int t_chosen, .int t_chosenSign, .int t_chosenLimbs, .int t_state, .int t_done, .int t_pivots, .int t_odd])), (q_t_limbs, .inl (cA, n_t_limbs, .inl a_t_limbs)), (q_t_signs, .inl (cA, n_t_signs, .inl a_t_signs)), (q_t_rows, .inl (cA, n_t_rows, .inl a_t_rows))] A o) (by decide) rfl (Nat.le_of_ble_eq_true rfl) ?_
  intro p e s m below meth c A hx hb hr hown hts hml hlocks hin hsz hA hK H locs hP hD hS ls hl
  have hown : s.vm.findClass RX3 = some m.cls := hown
  have hl : lv_has ls 1 [(0, .ref q_t)] := hl
  refine lv_aload_n hx hb dX3_status_0 rfl (lv_at hl 0 rfl) ?_
  refine va_get (D := (dC, dI)) (ci := 3) (v := .int t_state) (C := RX3) (T := TX3) (N := 12) hx hb hts ki_X_status_X3 hown hK hP 0 rfl rfl 8 (by decide) (hts (.fieldLink RX3 32 "MinorStepsModel" "state" "I") kw_X_status_0) (fun _ h9 => h9) rfl dX3_status_1 ?_
  have e9 := Option.some.inj hf
  subst e9
  exact kr_i hx hb hr hlocks hK hS (hP.sub [0, 1, 2, 3] rfl) (hD.sub [0, 1, 2, 3] (by decide) rfl) dX3_status_4
def rm_X_steps : Room := { frames := 0, cells := 0, slots := 0, locals := 0 }
theorem kw_X_steps_0 : (.fieldLink RX3 35 "MinorStepsModel" "done" "I" : Cond) ∈ wsX3_steps := by decide +kernel
theorem ki_X_steps_X3 : ∀ w ∈ u_ws RX3 TX3 12, w ∈ wsX3_steps := by decide +kernel
set_option maxHeartbeats 4000000 in
set_option maxRecDepth 100000 in
theorem c_X_steps (l : Launch) (dC : Nat → ClassId) (dI : Nat → Nat → Nat) (cA : ClassId) (sz : Nat) (q_t : Nat) (q_t_limbs : Nat) (q_t_signs : Nat) (q_t_rows : Nat) (t_n : Int32) (t_room : Int32) (t_chosen : Int32) (t_chosenSign : Int32) (t_chosenLimbs : Int32) (t_state : Int32) (t_done : Int32) (t_pivots : Int32) (t_odd : Int32) (n_t_limbs : Nat) (a_t_limbs : Nat → Int32) (n_t_signs : Nat) (a_t_signs : Nat → Int32) (n_t_rows : Nat) (a_t_rows : Nat → Int32) (o : Int32) (hf : f_X_steps t_done = some o) : Met l yX3_steps wsX3_steps rm_X_steps (c_Pre (dC, dI) vwCl [(cA, .int)] [(q_t, .inr (3, [.int t_n, .int t_room, .ref q_t_limbs, .ref q_t_signs, .ref q_t_rows, .int t_chosen, .int t_chosenSign, .int t_chosenLimbs, .int t_state, .int t_done, .int t_pivots, .int t_odd])), (q_t_limbs, .inl (cA, n_t_limbs, .inl a_t_limbs)), (q_t_signs, .inl (cA, n_t_signs, .inl a_t_signs)), (q_t_rows, .inl (cA, n_t_rows, .inl a_t_rows))] sz [.ref q_t]) (c_Qi (dC, dI) vwCl [(cA, .int)] [(q_t, .inr (3, [.int t_n, .int t_room, .ref q_t_limbs, .ref q_t_signs, .ref q_t_rows, .int t_chosen, .int t_chosenSign, .int t_chosenLimbs, .int t_state, .int t_done, .int t_pivots, .int t_odd])), (q_t_limbs, .inl (cA, n_t_limbs, .inl a_t_limbs)), (q_t_signs, .inl (cA, n_t_signs, .inl a_t_signs)), (q_t_rows, .inl (cA, n_t_rows, .inl a_t_rows))] (va_A [(q_t, .inr (3, [.int t_n, .int t_room, .ref q_t_limbs, .ref q_t_signs, .ref q_t_rows, .int t_chosen, .int t_chosenSign, .int t_chosenLimbs, .int t_state, .int t_done, .int t_pivots, .int t_odd])), (q_t_limbs, .inl (cA, n_t_limbs, .inl a_t_limbs)), (q_t_signs, .inl (cA, n_t_signs, .inl a_t_signs)), (q_t_rows, .inl (cA, n_t_rows, .inl a_t_rows))] sz) o) 0 0 (va_A [(q_t, .inr (3, [.int t_n, .int t_room, .ref q_t_limbs, .ref q_t_signs, .ref q_t_rows, .int t_chosen, .int t_chosenSign, .int t_chosenLimbs, .int t_state, .int t_done, .int t_pivots, .int t_odd])), (q_t_limbs, .inl (cA, n_t_limbs, .inl a_t_limbs)), (q_t_signs, .inl (cA, n_t_signs, .inl a_t_signs)), (q_t_rows, .inl (cA, n_t_rows, .inl a_t_rows))] sz) := by
  unfold f_X_steps at hf
  refine k_ent (Qc := fun A => c_Qi (dC, dI) vwCl [(cA, .int)] [(q_t, .inr (3, [.int t_n, .int t_room, .ref q_t_limbs, .ref q_t_signs, .ref q_t_rows, .int t_chosen, .int t_chosenSign, .int t_chosenLimbs, .int t_state, .int t_done, .int t_pivots, .int t_odd])), (q_t_limbs, .inl (cA, n_t_limbs, .inl a_t_limbs)), (q_t_signs, .inl (cA, n_t_signs, .inl a_t_signs)), (q_t_rows, .inl (cA, n_t_rows, .inl a_t_rows))] A o) (by decide) rfl (Nat.le_of_ble_eq_true rfl) ?_
  intro p e s m below meth c A hx hb hr hown hts hml hlocks hin hsz hA hK H locs hP hD hS ls hl
  have hown : s.vm.findClass RX3 = some m.cls := hown
  have hl : lv_has ls 1 [(0, .ref q_t)] := hl
  refine lv_aload_n hx hb dX3_steps_0 rfl (lv_at hl 0 rfl) ?_
  refine va_get (D := (dC, dI)) (ci := 3) (v := .int t_done) (C := RX3) (T := TX3) (N := 12) hx hb hts ki_X_steps_X3 hown hK hP 0 rfl rfl 9 (by decide) (hts (.fieldLink RX3 35 "MinorStepsModel" "done" "I") kw_X_steps_0) (fun _ h9 => h9) rfl dX3_steps_1 ?_
  have e9 := Option.some.inj hf
  subst e9
  exact kr_i hx hb hr hlocks hK hS (hP.sub [0, 1, 2, 3] rfl) (hD.sub [0, 1, 2, 3] (by decide) rfl) dX3_steps_4
def rm_X_told : Room := { frames := 1, cells := 0, slots := 0, locals := 22 }
theorem kw_X_told_0 : (.fieldLink RX3 7 "MinorStepsModel" "limbs" "[I" : Cond) ∈ wsX3_told := by decide +kernel
theorem kw_X_told_1 : (.fieldLink RX3 13 "MinorStepsModel" "signs" "[I" : Cond) ∈ wsX3_told := by decide +kernel
theorem ki_X_told_X3 : ∀ w ∈ u_ws RX3 TX3 12, w ∈ wsX3_told := by decide +kernel
set_option maxHeartbeats 4000000 in
set_option maxRecDepth 100000 in
theorem c_X_told (l : Launch) (dC : Nat → ClassId) (dI : Nat → Nat → Nat) (cA : ClassId) (sz : Nat) (q_t : Nat) (q_t_limbs : Nat) (q_t_signs : Nat) (q_t_rows : Nat) (k : Nat) (t_n : Int32) (t_room : Int32) (t_chosen : Int32) (t_chosenSign : Int32) (t_chosenLimbs : Int32) (t_state : Int32) (t_done : Int32) (t_pivots : Int32) (t_odd : Int32) (n_t_limbs : Nat) (a_t_limbs : Nat → Int32) (n_t_signs : Nat) (a_t_signs : Nat → Int32) (n_t_rows : Nat) (a_t_rows : Nat → Int32) (pp : Int32) (what : Int32) (turn : Int32) (o : Int32) (hf : f_X_told k n_t_limbs a_t_limbs n_t_signs a_t_signs pp what turn = some o) : Met l yX3_told wsX3_told rm_X_told (c_Pre (dC, dI) vwCl [(cA, .int)] [(q_t, .inr (3, [.int t_n, .int t_room, .ref q_t_limbs, .ref q_t_signs, .ref q_t_rows, .int t_chosen, .int t_chosenSign, .int t_chosenLimbs, .int t_state, .int t_done, .int t_pivots, .int t_odd])), (q_t_limbs, .inl (cA, n_t_limbs, .inl a_t_limbs)), (q_t_signs, .inl (cA, n_t_signs, .inl a_t_signs)), (q_t_rows, .inl (cA, n_t_rows, .inl a_t_rows))] sz [.ref q_t, .int pp, .int what, .int turn]) (c_Qi (dC, dI) vwCl [(cA, .int)] [(q_t, .inr (3, [.int t_n, .int t_room, .ref q_t_limbs, .ref q_t_signs, .ref q_t_rows, .int t_chosen, .int t_chosenSign, .int t_chosenLimbs, .int t_state, .int t_done, .int t_pivots, .int t_odd])), (q_t_limbs, .inl (cA, n_t_limbs, .inl a_t_limbs)), (q_t_signs, .inl (cA, n_t_signs, .inl a_t_signs)), (q_t_rows, .inl (cA, n_t_rows, .inl a_t_rows))] (va_A [(q_t, .inr (3, [.int t_n, .int t_room, .ref q_t_limbs, .ref q_t_signs, .ref q_t_rows, .int t_chosen, .int t_chosenSign, .int t_chosenLimbs, .int t_state, .int t_done, .int t_pivots, .int t_odd])), (q_t_limbs, .inl (cA, n_t_limbs, .inl a_t_limbs)), (q_t_signs, .inl (cA, n_t_signs, .inl a_t_signs)), (q_t_rows, .inl (cA, n_t_rows, .inl a_t_rows))] sz) o) 0 0 (va_A [(q_t, .inr (3, [.int t_n, .int t_room, .ref q_t_limbs, .ref q_t_signs, .ref q_t_rows, .int t_chosen, .int t_chosenSign, .int t_chosenLimbs, .int t_state, .int t_done, .int t_pivots, .int t_odd])), (q_t_limbs, .inl (cA, n_t_limbs, .inl a_t_limbs)), (q_t_signs, .inl (cA, n_t_signs, .inl a_t_signs)), (q_t_rows, .inl (cA, n_t_rows, .inl a_t_rows))] sz) := by
  unfold f_X_told at hf
  refine k_ent (Qc := fun A => c_Qi (dC, dI) vwCl [(cA, .int)] [(q_t, .inr (3, [.int t_n, .int t_room, .ref q_t_limbs, .ref q_t_signs, .ref q_t_rows, .int t_chosen, .int t_chosenSign, .int t_chosenLimbs, .int t_state, .int t_done, .int t_pivots, .int t_odd])), (q_t_limbs, .inl (cA, n_t_limbs, .inl a_t_limbs)), (q_t_signs, .inl (cA, n_t_signs, .inl a_t_signs)), (q_t_rows, .inl (cA, n_t_rows, .inl a_t_rows))] A o) (by decide) rfl (Nat.le_of_ble_eq_true rfl) ?_
  intro p e s m below meth c A hx hb hr hown hts hml hlocks hin hsz hA hK H locs hP hD hS ls hl
  have hown : s.vm.findClass RX3 = some m.cls := hown
  have hl : lv_has ls 5 [(0, .ref q_t), (1, .int pp), (2, .int what), (3, .int turn)] := hl
  refine lv_aload_n hx hb dX3_told_0 rfl (lv_at hl 0 rfl) ?_
  refine lv_iload_n hx hb dX3_told_1 rfl (lv_at hl 1 rfl) ?_
  obtain ⟨x1, g2, hf⟩ := og_b hf
  refine kc_i (wr := []) (w1 := [(q_t, .inr (3, [.int t_n, .int t_room, .ref q_t_limbs, .ref q_t_signs, .ref q_t_rows, .int t_chosen, .int t_chosenSign, .int t_chosenLimbs, .int t_state, .int t_done, .int t_pivots, .int t_odd])), (q_t_limbs, .inl (cA, n_t_limbs, .inl a_t_limbs)), (q_t_signs, .inl (cA, n_t_signs, .inl a_t_signs)), (q_t_rows, .inl (cA, n_t_rows, .inl a_t_rows))]) [0, 1, 2, 3] [] (va_runV (As := [.int pp]) (rest := []) ⟨hx, hb, hml, hown, hts⟩ (c_X_count l dC dI cA H.size q_t q_t_limbs q_t_signs q_t_rows k t_n t_room t_chosen t_chosenSign t_chosenLimbs t_state t_done t_pivots t_odd n_t_limbs a_t_limbs n_t_signs a_t_signs n_t_rows a_t_rows pp x1 g2) (cwV 1 hts gX3_told_X3_count rfl rfl rfl (by decide +kernel) ⟨Nat.le_of_ble_eq_true rfl, Nat.le_of_ble_eq_true rfl⟩) (kc_preV hP hD hK [0, 1, 2, 3] rfl rfl (by decide) (ci := 3) (q0 := 0) rfl rfl) rfl rfl hl.1 rfl (lv_room (Nat.le_of_ble_eq_true rfl)) dX3_told_2 ⟨Nat.le_of_ble_eq_true rfl, Nat.le_of_ble_eq_true rfl⟩) hP hD hS hA rfl rfl (by decide) (by decide) (fun H locs hP hD hS => ?_)
  have hP : va_P (dC, dI) vwCl [(q_t, .inr (3, [.int t_n, .int t_room, .ref q_t_limbs, .ref q_t_signs, .ref q_t_rows, .int t_chosen, .int t_chosenSign, .int t_chosenLimbs, .int t_state, .int t_done, .int t_pivots, .int t_odd])), (q_t_limbs, .inl (cA, n_t_limbs, .inl a_t_limbs)), (q_t_signs, .inl (cA, n_t_signs, .inl a_t_signs)), (q_t_rows, .inl (cA, n_t_rows, .inl a_t_rows))] H := hP
  have hD : va_D A [(q_t, .inr (3, [.int t_n, .int t_room, .ref q_t_limbs, .ref q_t_signs, .ref q_t_rows, .int t_chosen, .int t_chosenSign, .int t_chosenLimbs, .int t_state, .int t_done, .int t_pivots, .int t_odd])), (q_t_limbs, .inl (cA, n_t_limbs, .inl a_t_limbs)), (q_t_signs, .inl (cA, n_t_signs, .inl a_t_signs)), (q_t_rows, .inl (cA, n_t_rows, .inl a_t_rows))] := hD
  refine lv_istore (lv' := [(4, .int x1), (0, .ref q_t), (1, .int pp), (2, .int what), (3, .int turn)]) hx hb dX3_told_5 hl (by decide) rfl (fun ls hl => ?_)
  refine lv_iload_n hx hb dX3_told_7 rfl (lv_at hl 3 rfl) ?_
  refine lv_bipush (v := (-2)) hx hb dX3_told_8 (by decide) ?_
  refine lv_icmp_ne (tgt := 24) hx hb dX3_told_10 (by decide) (fun c3 => ?_) (fun c3 => ?_)
  · have hf := og_f c3 hf
    refine lv_iload_n hx hb dX3_told_24 rfl (lv_at hl 3 rfl) ?_
    refine lv_iconst (v := (-1)) hx hb dX3_told_25 (by decide) ?_
    refine lv_icmp_ne (tgt := 34) hx hb dX3_told_26 (by decide) (fun c4 => ?_) (fun c4 => ?_)
    · have hf := og_f c4 hf
      refine lv_iload_n hx hb dX3_told_34 rfl (lv_at hl 3 rfl) ?_
      refine lv_if_lt (tgt := 58) hx hb dX3_told_35 (by decide) (fun c5 => ?_) (fun c5 => ?_)
      · have hf := og_t c5 hf
        refine lv_iconst (v := (-1)) hx hb dX3_told_58 (by decide) ?_
        have e9 := Option.some.inj hf
        subst e9
        exact kr_i hx hb hr hlocks hK hS (hP.sub [0, 1, 2, 3] rfl) (hD.sub [0, 1, 2, 3] (by decide) rfl) dX3_told_59
      · have hf := og_f c5 hf
        refine lv_iload_n hx hb dX3_told_38 rfl (lv_at hl 3 rfl) ?_
        refine lv_iload hx hb dX3_told_39 (lv_at hl 0 rfl) ?_
        refine lv_icmp_ge (tgt := 58) hx hb dX3_told_41 (by decide) (fun c6 => ?_) (fun c6 => ?_)
        · have hf := og_t c6 hf
          refine lv_iconst (v := (-1)) hx hb dX3_told_58 (by decide) ?_
          have e9 := Option.some.inj hf
          subst e9
          exact kr_i hx hb hr hlocks hK hS (hP.sub [0, 1, 2, 3] rfl) (hD.sub [0, 1, 2, 3] (by decide) rfl) dX3_told_59
        · have hf := og_f c6 hf
          refine lv_aload_n hx hb dX3_told_44 rfl (lv_at hl 1 rfl) ?_
          refine va_get (D := (dC, dI)) (ci := 3) (v := .ref q_t_limbs) (C := RX3) (T := TX3) (N := 12) hx hb hts ki_X_told_X3 hown hK hP 0 rfl rfl 2 (by decide) (hts (.fieldLink RX3 7 "MinorStepsModel" "limbs" "[I") kw_X_told_0) (fun _ h9 => h9) rfl dX3_told_45 ?_
          refine lv_bipush (v := 40) hx hb dX3_told_48 (by decide) ?_
          refine lv_iload_n hx hb dX3_told_50 rfl (lv_at hl 2 rfl) ?_
          refine lv_imul hx hb dX3_told_51 ?_
          refine lv_iload_n hx hb dX3_told_52 rfl (lv_at hl 3 rfl) ?_
          refine lv_iadd hx hb dX3_told_53 ?_
          obtain ⟨g7, hf⟩ := og_c hf
          refine va_iald hx hb hK hP 1 0 rfl rfl (og_in g7) dX3_told_54 ?_
          refine lv_goto (tgt := 59) hx hb dX3_told_55 (by decide) ?_
          have e9 := Option.some.inj hf
          subst e9
          exact kr_i hx hb hr hlocks hK hS (hP.sub [0, 1, 2, 3] rfl) (hD.sub [0, 1, 2, 3] (by decide) rfl) dX3_told_59
    · have hf := og_t c4 hf
      refine lv_iload hx hb dX3_told_29 (lv_at hl 0 rfl) ?_
      refine lv_goto (tgt := 59) hx hb dX3_told_31 (by decide) ?_
      have e9 := Option.some.inj hf
      subst e9
      exact kr_i hx hb hr hlocks hK hS (hP.sub [0, 1, 2, 3] rfl) (hD.sub [0, 1, 2, 3] (by decide) rfl) dX3_told_59
  · have hf := og_t c3 hf
    refine lv_iload_n hx hb dX3_told_13 rfl (lv_at hl 4 rfl) ?_
    refine lv_aload_n hx hb dX3_told_14 rfl (lv_at hl 1 rfl) ?_
    refine va_get (D := (dC, dI)) (ci := 3) (v := .ref q_t_signs) (C := RX3) (T := TX3) (N := 12) hx hb hts ki_X_told_X3 hown hK hP 0 rfl rfl 3 (by decide) (hts (.fieldLink RX3 13 "MinorStepsModel" "signs" "[I") kw_X_told_1) (fun _ h9 => h9) rfl dX3_told_15 ?_
    refine lv_iload_n hx hb dX3_told_18 rfl (lv_at hl 2 rfl) ?_
    obtain ⟨g8, hf⟩ := og_c hf
    refine va_iald hx hb hK hP 2 0 rfl rfl (og_in g8) dX3_told_19 ?_
    refine lv_imul hx hb dX3_told_20 ?_
    refine lv_goto (tgt := 59) hx hb dX3_told_21 (by decide) ?_
    have e9 := Option.some.inj hf
    subst e9
    exact kr_i hx hb hr hlocks hK hS (hP.sub [0, 1, 2, 3] rfl) (hD.sub [0, 1, 2, 3] (by decide) rfl) dX3_told_59
def rm_X_determinant : Room := { frames := 2, cells := 0, slots := 0, locals := 46 }
theorem kw_X_determinant_0 : (.fieldLink RX3 32 "MinorStepsModel" "state" "I" : Cond) ∈ wsX3_determinant := by decide +kernel
theorem kw_X_determinant_1 : (.fieldLink RX3 19 "MinorStepsModel" "n" "I" : Cond) ∈ wsX3_determinant := by decide +kernel
theorem kw_X_determinant_2 : (.fieldLink RX3 41 "MinorStepsModel" "odd" "Z" : Cond) ∈ wsX3_determinant := by decide +kernel
theorem ki_X_determinant_X3 : ∀ w ∈ u_ws RX3 TX3 12, w ∈ wsX3_determinant := by decide +kernel
set_option maxHeartbeats 4000000 in
set_option maxRecDepth 100000 in
theorem c_X_determinant (l : Launch) (dC : Nat → ClassId) (dI : Nat → Nat → Nat) (cA : ClassId) (sz : Nat) (q_t : Nat) (q_t_limbs : Nat) (q_t_signs : Nat) (q_t_rows : Nat) (k : Nat) (t_n : Int32) (t_room : Int32) (t_chosen : Int32) (t_chosenSign : Int32) (t_chosenLimbs : Int32) (t_state : Int32) (t_done : Int32) (t_pivots : Int32) (t_odd : Int32) (n_t_limbs : Nat) (a_t_limbs : Nat → Int32) (n_t_signs : Nat) (a_t_signs : Nat → Int32) (n_t_rows : Nat) (a_t_rows : Nat → Int32) (what : Int32) (o : Int32) (hf : f_X_determinant k t_n t_state t_odd n_t_limbs a_t_limbs n_t_signs a_t_signs what = some o) : Met l yX3_determinant wsX3_determinant rm_X_determinant (c_Pre (dC, dI) vwCl [(cA, .int)] [(q_t, .inr (3, [.int t_n, .int t_room, .ref q_t_limbs, .ref q_t_signs, .ref q_t_rows, .int t_chosen, .int t_chosenSign, .int t_chosenLimbs, .int t_state, .int t_done, .int t_pivots, .int t_odd])), (q_t_limbs, .inl (cA, n_t_limbs, .inl a_t_limbs)), (q_t_signs, .inl (cA, n_t_signs, .inl a_t_signs)), (q_t_rows, .inl (cA, n_t_rows, .inl a_t_rows))] sz [.ref q_t, .int what]) (c_Qi (dC, dI) vwCl [(cA, .int)] [(q_t, .inr (3, [.int t_n, .int t_room, .ref q_t_limbs, .ref q_t_signs, .ref q_t_rows, .int t_chosen, .int t_chosenSign, .int t_chosenLimbs, .int t_state, .int t_done, .int t_pivots, .int t_odd])), (q_t_limbs, .inl (cA, n_t_limbs, .inl a_t_limbs)), (q_t_signs, .inl (cA, n_t_signs, .inl a_t_signs)), (q_t_rows, .inl (cA, n_t_rows, .inl a_t_rows))] (va_A [(q_t, .inr (3, [.int t_n, .int t_room, .ref q_t_limbs, .ref q_t_signs, .ref q_t_rows, .int t_chosen, .int t_chosenSign, .int t_chosenLimbs, .int t_state, .int t_done, .int t_pivots, .int t_odd])), (q_t_limbs, .inl (cA, n_t_limbs, .inl a_t_limbs)), (q_t_signs, .inl (cA, n_t_signs, .inl a_t_signs)), (q_t_rows, .inl (cA, n_t_rows, .inl a_t_rows))] sz) o) 0 0 (va_A [(q_t, .inr (3, [.int t_n, .int t_room, .ref q_t_limbs, .ref q_t_signs, .ref q_t_rows, .int t_chosen, .int t_chosenSign, .int t_chosenLimbs, .int t_state, .int t_done, .int t_pivots, .int t_odd])), (q_t_limbs, .inl (cA, n_t_limbs, .inl a_t_limbs)), (q_t_signs, .inl (cA, n_t_signs, .inl a_t_signs)), (q_t_rows, .inl (cA, n_t_rows, .inl a_t_rows))] sz) := by
  unfold f_X_determinant at hf
  refine k_ent (Qc := fun A => c_Qi (dC, dI) vwCl [(cA, .int)] [(q_t, .inr (3, [.int t_n, .int t_room, .ref q_t_limbs, .ref q_t_signs, .ref q_t_rows, .int t_chosen, .int t_chosenSign, .int t_chosenLimbs, .int t_state, .int t_done, .int t_pivots, .int t_odd])), (q_t_limbs, .inl (cA, n_t_limbs, .inl a_t_limbs)), (q_t_signs, .inl (cA, n_t_signs, .inl a_t_signs)), (q_t_rows, .inl (cA, n_t_rows, .inl a_t_rows))] A o) (by decide) rfl (Nat.le_of_ble_eq_true rfl) ?_
  intro p e s m below meth c A hx hb hr hown hts hml hlocks hin hsz hA hK H locs hP hD hS ls hl
  have hown : s.vm.findClass RX3 = some m.cls := hown
  have hl : lv_has ls 2 [(0, .ref q_t), (1, .int what)] := hl
  refine lv_aload_n hx hb dX3_determinant_0 rfl (lv_at hl 0 rfl) ?_
  refine va_get (D := (dC, dI)) (ci := 3) (v := .int t_state) (C := RX3) (T := TX3) (N := 12) hx hb hts ki_X_determinant_X3 hown hK hP 0 rfl rfl 8 (by decide) (hts (.fieldLink RX3 32 "MinorStepsModel" "state" "I") kw_X_determinant_0) (fun _ h9 => h9) rfl dX3_determinant_1 ?_
  refine lv_iconst (v := 2) hx hb dX3_determinant_4 (by decide) ?_
  refine lv_icmp_ne (tgt := 25) hx hb dX3_determinant_5 (by decide) (fun c1 => ?_) (fun c1 => ?_)
  · have hf := og_f c1 hf
    refine lv_aload_n hx hb dX3_determinant_25 rfl (lv_at hl 0 rfl) ?_
    refine va_get (D := (dC, dI)) (ci := 3) (v := .int t_state) (C := RX3) (T := TX3) (N := 12) hx hb hts ki_X_determinant_X3 hown hK hP 0 rfl rfl 8 (by decide) (hts (.fieldLink RX3 32 "MinorStepsModel" "state" "I") kw_X_determinant_0) (fun _ h9 => h9) rfl dX3_determinant_26 ?_
    refine lv_iconst (v := 1) hx hb dX3_determinant_29 (by decide) ?_
    refine lv_icmp_ne (tgt := 69) hx hb dX3_determinant_30 (by decide) (fun c2 => ?_) (fun c2 => ?_)
    · have hf := og_f c2 hf
      refine lv_iconst (v := (-1)) hx hb dX3_determinant_69 (by decide) ?_
      have e9 := Option.some.inj hf
      subst e9
      exact kr_i hx hb hr hlocks hK hS (hP.sub [0, 1, 2, 3] rfl) (hD.sub [0, 1, 2, 3] (by decide) rfl) dX3_determinant_70
    · have hf := og_t c2 hf
      refine lv_aload_n hx hb dX3_determinant_33 rfl (lv_at hl 0 rfl) ?_
      refine lv_aload_n hx hb dX3_determinant_34 rfl (lv_at hl 0 rfl) ?_
      refine lv_aload_n hx hb dX3_determinant_35 rfl (lv_at hl 0 rfl) ?_
      refine va_get (D := (dC, dI)) (ci := 3) (v := .int t_n) (C := RX3) (T := TX3) (N := 12) hx hb hts ki_X_determinant_X3 hown hK hP 0 rfl rfl 0 (by decide) (hts (.fieldLink RX3 19 "MinorStepsModel" "n" "I") kw_X_determinant_1) (fun _ h9 => h9) rfl dX3_determinant_36 ?_
      refine lv_iconst (v := 1) hx hb dX3_determinant_39 (by decide) ?_
      refine lv_isub hx hb dX3_determinant_40 ?_
      refine lv_aload_n hx hb dX3_determinant_41 rfl (lv_at hl 0 rfl) ?_
      refine va_get (D := (dC, dI)) (ci := 3) (v := .int t_n) (C := RX3) (T := TX3) (N := 12) hx hb hts ki_X_determinant_X3 hown hK hP 0 rfl rfl 0 (by decide) (hts (.fieldLink RX3 19 "MinorStepsModel" "n" "I") kw_X_determinant_1) (fun _ h9 => h9) rfl dX3_determinant_42 ?_
      refine lv_iconst (v := 1) hx hb dX3_determinant_45 (by decide) ?_
      refine lv_isub hx hb dX3_determinant_46 ?_
      obtain ⟨x3, g4, hf⟩ := og_b hf
      refine kc_i (wr := []) (w1 := [(q_t, .inr (3, [.int t_n, .int t_room, .ref q_t_limbs, .ref q_t_signs, .ref q_t_rows, .int t_chosen, .int t_chosenSign, .int t_chosenLimbs, .int t_state, .int t_done, .int t_pivots, .int t_odd])), (q_t_limbs, .inl (cA, n_t_limbs, .inl a_t_limbs)), (q_t_signs, .inl (cA, n_t_signs, .inl a_t_signs)), (q_t_rows, .inl (cA, n_t_rows, .inl a_t_rows))]) [0, 1, 2, 3] [] (va_runV (As := [.int (t_n - 1), .int (t_n - 1)]) (rest := [.ref q_t]) ⟨hx, hb, hml, hown, hts⟩ (c_X_place l dC dI cA H.size q_t q_t_limbs q_t_signs q_t_rows t_n t_room t_chosen t_chosenSign t_chosenLimbs t_state t_done t_pivots t_odd n_t_limbs a_t_limbs n_t_signs a_t_signs n_t_rows a_t_rows (t_n - 1) (t_n - 1) x3 g4) (cwV 2 hts gX3_determinant_X3_place rfl rfl rfl (by decide +kernel) ⟨Nat.le_of_ble_eq_true rfl, Nat.le_of_ble_eq_true rfl⟩) (kc_preV hP hD hK [0, 1, 2, 3] rfl rfl (by decide) (ci := 3) (q0 := 0) rfl rfl) rfl rfl hl.1 rfl (lv_room (Nat.le_of_ble_eq_true rfl)) dX3_determinant_47 ⟨Nat.le_of_ble_eq_true rfl, Nat.le_of_ble_eq_true rfl⟩) hP hD hS hA rfl rfl (by decide) (by decide) (fun H locs hP hD hS => ?_)
      have hP : va_P (dC, dI) vwCl [(q_t, .inr (3, [.int t_n, .int t_room, .ref q_t_limbs, .ref q_t_signs, .ref q_t_rows, .int t_chosen, .int t_chosenSign, .int t_chosenLimbs, .int t_state, .int t_done, .int t_pivots, .int t_odd])), (q_t_limbs, .inl (cA, n_t_limbs, .inl a_t_limbs)), (q_t_signs, .inl (cA, n_t_signs, .inl a_t_signs)), (q_t_rows, .inl (cA, n_t_rows, .inl a_t_rows))] H := hP
      have hD : va_D A [(q_t, .inr (3, [.int t_n, .int t_room, .ref q_t_limbs, .ref q_t_signs, .ref q_t_rows, .int t_chosen, .int t_chosenSign, .int t_chosenLimbs, .int t_state, .int t_done, .int t_pivots, .int t_odd])), (q_t_limbs, .inl (cA, n_t_limbs, .inl a_t_limbs)), (q_t_signs, .inl (cA, n_t_signs, .inl a_t_signs)), (q_t_rows, .inl (cA, n_t_rows, .inl a_t_rows))] := hD
      refine lv_iload_n hx hb dX3_determinant_50 rfl (lv_at hl 1 rfl) ?_
      refine lv_aload_n hx hb dX3_determinant_51 rfl (lv_at hl 0 rfl) ?_
      refine va_get (D := (dC, dI)) (ci := 3) (v := .int t_odd) (C := RX3) (T := TX3) (N := 12) hx hb hts ki_X_determinant_X3 hown hK hP 0 rfl rfl 11 (by decide) (hts (.fieldLink RX3 41 "MinorStepsModel" "odd" "Z") kw_X_determinant_2) (fun _ h9 => h9) rfl dX3_determinant_52 ?_
      refine lv_if_eq (tgt := 62) hx hb dX3_determinant_55 (by decide) (fun c5 => ?_) (fun c5 => ?_)
      · have hf := og_t c5 hf
        refine lv_iconst (v := 1) hx hb dX3_determinant_62 (by decide) ?_
        obtain ⟨x6, g7, hf⟩ := og_b hf
        refine kc_i (wr := []) (w1 := [(q_t, .inr (3, [.int t_n, .int t_room, .ref q_t_limbs, .ref q_t_signs, .ref q_t_rows, .int t_chosen, .int t_chosenSign, .int t_chosenLimbs, .int t_state, .int t_done, .int t_pivots, .int t_odd])), (q_t_limbs, .inl (cA, n_t_limbs, .inl a_t_limbs)), (q_t_signs, .inl (cA, n_t_signs, .inl a_t_signs)), (q_t_rows, .inl (cA, n_t_rows, .inl a_t_rows))]) [0, 1, 2, 3] [] (va_runV (As := [.int x3, .int what, .int 1]) (rest := []) ⟨hx, hb, hml, hown, hts⟩ (c_X_told l dC dI cA H.size q_t q_t_limbs q_t_signs q_t_rows k t_n t_room t_chosen t_chosenSign t_chosenLimbs t_state t_done t_pivots t_odd n_t_limbs a_t_limbs n_t_signs a_t_signs n_t_rows a_t_rows x3 what (1 : Int32) x6 g7) (cwV 3 hts gX3_determinant_X3_told rfl rfl rfl (by decide +kernel) ⟨Nat.le_of_ble_eq_true rfl, Nat.le_of_ble_eq_true rfl⟩) (kc_preV hP hD hK [0, 1, 2, 3] rfl rfl (by decide) (ci := 3) (q0 := 0) rfl rfl) rfl rfl hl.1 rfl (lv_room (Nat.le_of_ble_eq_true rfl)) dX3_determinant_63 ⟨Nat.le_of_ble_eq_true rfl, Nat.le_of_ble_eq_true rfl⟩) hP hD hS hA rfl rfl (by decide) (by decide) (fun H locs hP hD hS => ?_)
        have hP : va_P (dC, dI) vwCl [(q_t, .inr (3, [.int t_n, .int t_room, .ref q_t_limbs, .ref q_t_signs, .ref q_t_rows, .int t_chosen, .int t_chosenSign, .int t_chosenLimbs, .int t_state, .int t_done, .int t_pivots, .int t_odd])), (q_t_limbs, .inl (cA, n_t_limbs, .inl a_t_limbs)), (q_t_signs, .inl (cA, n_t_signs, .inl a_t_signs)), (q_t_rows, .inl (cA, n_t_rows, .inl a_t_rows))] H := hP
        have hD : va_D A [(q_t, .inr (3, [.int t_n, .int t_room, .ref q_t_limbs, .ref q_t_signs, .ref q_t_rows, .int t_chosen, .int t_chosenSign, .int t_chosenLimbs, .int t_state, .int t_done, .int t_pivots, .int t_odd])), (q_t_limbs, .inl (cA, n_t_limbs, .inl a_t_limbs)), (q_t_signs, .inl (cA, n_t_signs, .inl a_t_signs)), (q_t_rows, .inl (cA, n_t_rows, .inl a_t_rows))] := hD
        refine lv_goto (tgt := 70) hx hb dX3_determinant_66 (by decide) ?_
        have e9 := Option.some.inj hf
        subst e9
        exact kr_i hx hb hr hlocks hK hS (hP.sub [0, 1, 2, 3] rfl) (hD.sub [0, 1, 2, 3] (by decide) rfl) dX3_determinant_70
      · have hf := og_f c5 hf
        refine lv_iconst (v := (-1)) hx hb dX3_determinant_58 (by decide) ?_
        refine lv_goto (tgt := 63) hx hb dX3_determinant_59 (by decide) ?_
        obtain ⟨x8, g9, hf⟩ := og_b hf
        refine kc_i (wr := []) (w1 := [(q_t, .inr (3, [.int t_n, .int t_room, .ref q_t_limbs, .ref q_t_signs, .ref q_t_rows, .int t_chosen, .int t_chosenSign, .int t_chosenLimbs, .int t_state, .int t_done, .int t_pivots, .int t_odd])), (q_t_limbs, .inl (cA, n_t_limbs, .inl a_t_limbs)), (q_t_signs, .inl (cA, n_t_signs, .inl a_t_signs)), (q_t_rows, .inl (cA, n_t_rows, .inl a_t_rows))]) [0, 1, 2, 3] [] (va_runV (As := [.int x3, .int what, .int (-1)]) (rest := []) ⟨hx, hb, hml, hown, hts⟩ (c_X_told l dC dI cA H.size q_t q_t_limbs q_t_signs q_t_rows k t_n t_room t_chosen t_chosenSign t_chosenLimbs t_state t_done t_pivots t_odd n_t_limbs a_t_limbs n_t_signs a_t_signs n_t_rows a_t_rows x3 what (-1 : Int32) x8 g9) (cwV 3 hts gX3_determinant_X3_told rfl rfl rfl (by decide +kernel) ⟨Nat.le_of_ble_eq_true rfl, Nat.le_of_ble_eq_true rfl⟩) (kc_preV hP hD hK [0, 1, 2, 3] rfl rfl (by decide) (ci := 3) (q0 := 0) rfl rfl) rfl rfl hl.1 rfl (lv_room (Nat.le_of_ble_eq_true rfl)) dX3_determinant_63 ⟨Nat.le_of_ble_eq_true rfl, Nat.le_of_ble_eq_true rfl⟩) hP hD hS hA rfl rfl (by decide) (by decide) (fun H locs hP hD hS => ?_)
        have hP : va_P (dC, dI) vwCl [(q_t, .inr (3, [.int t_n, .int t_room, .ref q_t_limbs, .ref q_t_signs, .ref q_t_rows, .int t_chosen, .int t_chosenSign, .int t_chosenLimbs, .int t_state, .int t_done, .int t_pivots, .int t_odd])), (q_t_limbs, .inl (cA, n_t_limbs, .inl a_t_limbs)), (q_t_signs, .inl (cA, n_t_signs, .inl a_t_signs)), (q_t_rows, .inl (cA, n_t_rows, .inl a_t_rows))] H := hP
        have hD : va_D A [(q_t, .inr (3, [.int t_n, .int t_room, .ref q_t_limbs, .ref q_t_signs, .ref q_t_rows, .int t_chosen, .int t_chosenSign, .int t_chosenLimbs, .int t_state, .int t_done, .int t_pivots, .int t_odd])), (q_t_limbs, .inl (cA, n_t_limbs, .inl a_t_limbs)), (q_t_signs, .inl (cA, n_t_signs, .inl a_t_signs)), (q_t_rows, .inl (cA, n_t_rows, .inl a_t_rows))] := hD
        refine lv_goto (tgt := 70) hx hb dX3_determinant_66 (by decide) ?_
        have e9 := Option.some.inj hf
        subst e9
        exact kr_i hx hb hr hlocks hK hS (hP.sub [0, 1, 2, 3] rfl) (hD.sub [0, 1, 2, 3] (by decide) rfl) dX3_determinant_70
  · have hf := og_t c1 hf
    refine lv_iload_n hx hb dX3_determinant_8 rfl (lv_at hl 1 rfl) ?_
    refine lv_bipush (v := (-2)) hx hb dX3_determinant_9 (by decide) ?_
    refine lv_icmp_eq (tgt := 19) hx hb dX3_determinant_11 (by decide) (fun c10 => ?_) (fun c10 => ?_)
    · have hf := og_t c10 hf
      refine lv_iconst (v := 0) hx hb dX3_determinant_19 (by decide) ?_
      refine lv_goto (tgt := 24) hx hb dX3_determinant_20 (by decide) ?_
      have e9 := Option.some.inj hf
      subst e9
      exact kr_i hx hb hr hlocks hK hS (hP.sub [0, 1, 2, 3] rfl) (hD.sub [0, 1, 2, 3] (by decide) rfl) dX3_determinant_24
    · have hf := og_f c10 hf
      refine lv_iload_n hx hb dX3_determinant_14 rfl (lv_at hl 1 rfl) ?_
      refine lv_iconst (v := (-1)) hx hb dX3_determinant_15 (by decide) ?_
      refine lv_icmp_ne (tgt := 23) hx hb dX3_determinant_16 (by decide) (fun c11 => ?_) (fun c11 => ?_)
      · have hf := og_f c11 hf
        refine lv_iconst (v := (-1)) hx hb dX3_determinant_23 (by decide) ?_
        have e9 := Option.some.inj hf
        subst e9
        exact kr_i hx hb hr hlocks hK hS (hP.sub [0, 1, 2, 3] rfl) (hD.sub [0, 1, 2, 3] (by decide) rfl) dX3_determinant_24
      · have hf := og_t c11 hf
        refine lv_iconst (v := 0) hx hb dX3_determinant_19 (by decide) ?_
        refine lv_goto (tgt := 24) hx hb dX3_determinant_20 (by decide) ?_
        have e9 := Option.some.inj hf
        subst e9
        exact kr_i hx hb hr hlocks hK hS (hP.sub [0, 1, 2, 3] rfl) (hD.sub [0, 1, 2, 3] (by decide) rfl) dX3_determinant_24
def rm_X_numerator : Room := { frames := 2, cells := 0, slots := 0, locals := 46 }
theorem kw_X_numerator_0 : (.fieldLink RX3 32 "MinorStepsModel" "state" "I" : Cond) ∈ wsX3_numerator := by decide +kernel
theorem kw_X_numerator_1 : (.fieldLink RX3 19 "MinorStepsModel" "n" "I" : Cond) ∈ wsX3_numerator := by decide +kernel
theorem kw_X_numerator_2 : (.fieldLink RX3 41 "MinorStepsModel" "odd" "Z" : Cond) ∈ wsX3_numerator := by decide +kernel
theorem ki_X_numerator_X3 : ∀ w ∈ u_ws RX3 TX3 12, w ∈ wsX3_numerator := by decide +kernel
set_option maxHeartbeats 4000000 in
set_option maxRecDepth 100000 in
theorem c_X_numerator (l : Launch) (dC : Nat → ClassId) (dI : Nat → Nat → Nat) (cA : ClassId) (sz : Nat) (q_t : Nat) (q_t_limbs : Nat) (q_t_signs : Nat) (q_t_rows : Nat) (k : Nat) (t_n : Int32) (t_room : Int32) (t_chosen : Int32) (t_chosenSign : Int32) (t_chosenLimbs : Int32) (t_state : Int32) (t_done : Int32) (t_pivots : Int32) (t_odd : Int32) (n_t_limbs : Nat) (a_t_limbs : Nat → Int32) (n_t_signs : Nat) (a_t_signs : Nat → Int32) (n_t_rows : Nat) (a_t_rows : Nat → Int32) (jj : Int32) (what : Int32) (o : Int32) (hf : f_X_numerator k t_n t_state t_odd n_t_limbs a_t_limbs n_t_signs a_t_signs jj what = some o) : Met l yX3_numerator wsX3_numerator rm_X_numerator (c_Pre (dC, dI) vwCl [(cA, .int)] [(q_t, .inr (3, [.int t_n, .int t_room, .ref q_t_limbs, .ref q_t_signs, .ref q_t_rows, .int t_chosen, .int t_chosenSign, .int t_chosenLimbs, .int t_state, .int t_done, .int t_pivots, .int t_odd])), (q_t_limbs, .inl (cA, n_t_limbs, .inl a_t_limbs)), (q_t_signs, .inl (cA, n_t_signs, .inl a_t_signs)), (q_t_rows, .inl (cA, n_t_rows, .inl a_t_rows))] sz [.ref q_t, .int jj, .int what]) (c_Qi (dC, dI) vwCl [(cA, .int)] [(q_t, .inr (3, [.int t_n, .int t_room, .ref q_t_limbs, .ref q_t_signs, .ref q_t_rows, .int t_chosen, .int t_chosenSign, .int t_chosenLimbs, .int t_state, .int t_done, .int t_pivots, .int t_odd])), (q_t_limbs, .inl (cA, n_t_limbs, .inl a_t_limbs)), (q_t_signs, .inl (cA, n_t_signs, .inl a_t_signs)), (q_t_rows, .inl (cA, n_t_rows, .inl a_t_rows))] (va_A [(q_t, .inr (3, [.int t_n, .int t_room, .ref q_t_limbs, .ref q_t_signs, .ref q_t_rows, .int t_chosen, .int t_chosenSign, .int t_chosenLimbs, .int t_state, .int t_done, .int t_pivots, .int t_odd])), (q_t_limbs, .inl (cA, n_t_limbs, .inl a_t_limbs)), (q_t_signs, .inl (cA, n_t_signs, .inl a_t_signs)), (q_t_rows, .inl (cA, n_t_rows, .inl a_t_rows))] sz) o) 0 0 (va_A [(q_t, .inr (3, [.int t_n, .int t_room, .ref q_t_limbs, .ref q_t_signs, .ref q_t_rows, .int t_chosen, .int t_chosenSign, .int t_chosenLimbs, .int t_state, .int t_done, .int t_pivots, .int t_odd])), (q_t_limbs, .inl (cA, n_t_limbs, .inl a_t_limbs)), (q_t_signs, .inl (cA, n_t_signs, .inl a_t_signs)), (q_t_rows, .inl (cA, n_t_rows, .inl a_t_rows))] sz) := by
  unfold f_X_numerator at hf
  refine k_ent (Qc := fun A => c_Qi (dC, dI) vwCl [(cA, .int)] [(q_t, .inr (3, [.int t_n, .int t_room, .ref q_t_limbs, .ref q_t_signs, .ref q_t_rows, .int t_chosen, .int t_chosenSign, .int t_chosenLimbs, .int t_state, .int t_done, .int t_pivots, .int t_odd])), (q_t_limbs, .inl (cA, n_t_limbs, .inl a_t_limbs)), (q_t_signs, .inl (cA, n_t_signs, .inl a_t_signs)), (q_t_rows, .inl (cA, n_t_rows, .inl a_t_rows))] A o) (by decide) rfl (Nat.le_of_ble_eq_true rfl) ?_
  intro p e s m below meth c A hx hb hr hown hts hml hlocks hin hsz hA hK H locs hP hD hS ls hl
  have hown : s.vm.findClass RX3 = some m.cls := hown
  have hl : lv_has ls 3 [(0, .ref q_t), (1, .int jj), (2, .int what)] := hl
  refine lv_aload_n hx hb dX3_numerator_0 rfl (lv_at hl 0 rfl) ?_
  refine va_get (D := (dC, dI)) (ci := 3) (v := .int t_state) (C := RX3) (T := TX3) (N := 12) hx hb hts ki_X_numerator_X3 hown hK hP 0 rfl rfl 8 (by decide) (hts (.fieldLink RX3 32 "MinorStepsModel" "state" "I") kw_X_numerator_0) (fun _ h9 => h9) rfl dX3_numerator_1 ?_
  refine lv_iconst (v := 1) hx hb dX3_numerator_4 (by decide) ?_
  refine lv_icmp_ne (tgt := 44) hx hb dX3_numerator_5 (by decide) (fun c1 => ?_) (fun c1 => ?_)
  · have hf := og_f c1 hf
    refine lv_iconst (v := (-1)) hx hb dX3_numerator_44 (by decide) ?_
    have e9 := Option.some.inj hf
    subst e9
    exact kr_i hx hb hr hlocks hK hS (hP.sub [0, 1, 2, 3] rfl) (hD.sub [0, 1, 2, 3] (by decide) rfl) dX3_numerator_45
  · have hf := og_t c1 hf
    refine lv_iload_n hx hb dX3_numerator_8 rfl (lv_at hl 1 rfl) ?_
    refine lv_if_lt (tgt := 44) hx hb dX3_numerator_9 (by decide) (fun c2 => ?_) (fun c2 => ?_)
    · have hf := og_t c2 hf
      refine lv_iconst (v := (-1)) hx hb dX3_numerator_44 (by decide) ?_
      have e9 := Option.some.inj hf
      subst e9
      exact kr_i hx hb hr hlocks hK hS (hP.sub [0, 1, 2, 3] rfl) (hD.sub [0, 1, 2, 3] (by decide) rfl) dX3_numerator_45
    · have hf := og_f c2 hf
      refine lv_iload_n hx hb dX3_numerator_12 rfl (lv_at hl 1 rfl) ?_
      refine lv_aload_n hx hb dX3_numerator_13 rfl (lv_at hl 0 rfl) ?_
      refine va_get (D := (dC, dI)) (ci := 3) (v := .int t_n) (C := RX3) (T := TX3) (N := 12) hx hb hts ki_X_numerator_X3 hown hK hP 0 rfl rfl 0 (by decide) (hts (.fieldLink RX3 19 "MinorStepsModel" "n" "I") kw_X_numerator_1) (fun _ h9 => h9) rfl dX3_numerator_14 ?_
      refine lv_icmp_ge (tgt := 44) hx hb dX3_numerator_17 (by decide) (fun c3 => ?_) (fun c3 => ?_)
      · have hf := og_t c3 hf
        refine lv_iconst (v := (-1)) hx hb dX3_numerator_44 (by decide) ?_
        have e9 := Option.some.inj hf
        subst e9
        exact kr_i hx hb hr hlocks hK hS (hP.sub [0, 1, 2, 3] rfl) (hD.sub [0, 1, 2, 3] (by decide) rfl) dX3_numerator_45
      · have hf := og_f c3 hf
        refine lv_aload_n hx hb dX3_numerator_20 rfl (lv_at hl 0 rfl) ?_
        refine lv_bipush (v := 42) hx hb dX3_numerator_21 (by decide) ?_
        refine lv_iload_n hx hb dX3_numerator_23 rfl (lv_at hl 1 rfl) ?_
        refine lv_iadd hx hb dX3_numerator_24 ?_
        refine lv_iload_n hx hb dX3_numerator_25 rfl (lv_at hl 2 rfl) ?_
        refine lv_aload_n hx hb dX3_numerator_26 rfl (lv_at hl 0 rfl) ?_
        refine va_get (D := (dC, dI)) (ci := 3) (v := .int t_odd) (C := RX3) (T := TX3) (N := 12) hx hb hts ki_X_numerator_X3 hown hK hP 0 rfl rfl 11 (by decide) (hts (.fieldLink RX3 41 "MinorStepsModel" "odd" "Z") kw_X_numerator_2) (fun _ h9 => h9) rfl dX3_numerator_27 ?_
        refine lv_if_eq (tgt := 37) hx hb dX3_numerator_30 (by decide) (fun c4 => ?_) (fun c4 => ?_)
        · have hf := og_t c4 hf
          refine lv_iconst (v := 1) hx hb dX3_numerator_37 (by decide) ?_
          obtain ⟨x5, g6, hf⟩ := og_b hf
          refine kc_i (wr := []) (w1 := [(q_t, .inr (3, [.int t_n, .int t_room, .ref q_t_limbs, .ref q_t_signs, .ref q_t_rows, .int t_chosen, .int t_chosenSign, .int t_chosenLimbs, .int t_state, .int t_done, .int t_pivots, .int t_odd])), (q_t_limbs, .inl (cA, n_t_limbs, .inl a_t_limbs)), (q_t_signs, .inl (cA, n_t_signs, .inl a_t_signs)), (q_t_rows, .inl (cA, n_t_rows, .inl a_t_rows))]) [0, 1, 2, 3] [] (va_runV (As := [.int (42 + jj), .int what, .int 1]) (rest := []) ⟨hx, hb, hml, hown, hts⟩ (c_X_told l dC dI cA H.size q_t q_t_limbs q_t_signs q_t_rows k t_n t_room t_chosen t_chosenSign t_chosenLimbs t_state t_done t_pivots t_odd n_t_limbs a_t_limbs n_t_signs a_t_signs n_t_rows a_t_rows (42 + jj) what (1 : Int32) x5 g6) (cwV 3 hts gX3_numerator_X3_told rfl rfl rfl (by decide +kernel) ⟨Nat.le_of_ble_eq_true rfl, Nat.le_of_ble_eq_true rfl⟩) (kc_preV hP hD hK [0, 1, 2, 3] rfl rfl (by decide) (ci := 3) (q0 := 0) rfl rfl) rfl rfl hl.1 rfl (lv_room (Nat.le_of_ble_eq_true rfl)) dX3_numerator_38 ⟨Nat.le_of_ble_eq_true rfl, Nat.le_of_ble_eq_true rfl⟩) hP hD hS hA rfl rfl (by decide) (by decide) (fun H locs hP hD hS => ?_)
          have hP : va_P (dC, dI) vwCl [(q_t, .inr (3, [.int t_n, .int t_room, .ref q_t_limbs, .ref q_t_signs, .ref q_t_rows, .int t_chosen, .int t_chosenSign, .int t_chosenLimbs, .int t_state, .int t_done, .int t_pivots, .int t_odd])), (q_t_limbs, .inl (cA, n_t_limbs, .inl a_t_limbs)), (q_t_signs, .inl (cA, n_t_signs, .inl a_t_signs)), (q_t_rows, .inl (cA, n_t_rows, .inl a_t_rows))] H := hP
          have hD : va_D A [(q_t, .inr (3, [.int t_n, .int t_room, .ref q_t_limbs, .ref q_t_signs, .ref q_t_rows, .int t_chosen, .int t_chosenSign, .int t_chosenLimbs, .int t_state, .int t_done, .int t_pivots, .int t_odd])), (q_t_limbs, .inl (cA, n_t_limbs, .inl a_t_limbs)), (q_t_signs, .inl (cA, n_t_signs, .inl a_t_signs)), (q_t_rows, .inl (cA, n_t_rows, .inl a_t_rows))] := hD
          refine lv_goto (tgt := 45) hx hb dX3_numerator_41 (by decide) ?_
          have e9 := Option.some.inj hf
          subst e9
          exact kr_i hx hb hr hlocks hK hS (hP.sub [0, 1, 2, 3] rfl) (hD.sub [0, 1, 2, 3] (by decide) rfl) dX3_numerator_45
        · have hf := og_f c4 hf
          refine lv_iconst (v := (-1)) hx hb dX3_numerator_33 (by decide) ?_
          refine lv_goto (tgt := 38) hx hb dX3_numerator_34 (by decide) ?_
          obtain ⟨x7, g8, hf⟩ := og_b hf
          refine kc_i (wr := []) (w1 := [(q_t, .inr (3, [.int t_n, .int t_room, .ref q_t_limbs, .ref q_t_signs, .ref q_t_rows, .int t_chosen, .int t_chosenSign, .int t_chosenLimbs, .int t_state, .int t_done, .int t_pivots, .int t_odd])), (q_t_limbs, .inl (cA, n_t_limbs, .inl a_t_limbs)), (q_t_signs, .inl (cA, n_t_signs, .inl a_t_signs)), (q_t_rows, .inl (cA, n_t_rows, .inl a_t_rows))]) [0, 1, 2, 3] [] (va_runV (As := [.int (42 + jj), .int what, .int (-1)]) (rest := []) ⟨hx, hb, hml, hown, hts⟩ (c_X_told l dC dI cA H.size q_t q_t_limbs q_t_signs q_t_rows k t_n t_room t_chosen t_chosenSign t_chosenLimbs t_state t_done t_pivots t_odd n_t_limbs a_t_limbs n_t_signs a_t_signs n_t_rows a_t_rows (42 + jj) what (-1 : Int32) x7 g8) (cwV 3 hts gX3_numerator_X3_told rfl rfl rfl (by decide +kernel) ⟨Nat.le_of_ble_eq_true rfl, Nat.le_of_ble_eq_true rfl⟩) (kc_preV hP hD hK [0, 1, 2, 3] rfl rfl (by decide) (ci := 3) (q0 := 0) rfl rfl) rfl rfl hl.1 rfl (lv_room (Nat.le_of_ble_eq_true rfl)) dX3_numerator_38 ⟨Nat.le_of_ble_eq_true rfl, Nat.le_of_ble_eq_true rfl⟩) hP hD hS hA rfl rfl (by decide) (by decide) (fun H locs hP hD hS => ?_)
          have hP : va_P (dC, dI) vwCl [(q_t, .inr (3, [.int t_n, .int t_room, .ref q_t_limbs, .ref q_t_signs, .ref q_t_rows, .int t_chosen, .int t_chosenSign, .int t_chosenLimbs, .int t_state, .int t_done, .int t_pivots, .int t_odd])), (q_t_limbs, .inl (cA, n_t_limbs, .inl a_t_limbs)), (q_t_signs, .inl (cA, n_t_signs, .inl a_t_signs)), (q_t_rows, .inl (cA, n_t_rows, .inl a_t_rows))] H := hP
          have hD : va_D A [(q_t, .inr (3, [.int t_n, .int t_room, .ref q_t_limbs, .ref q_t_signs, .ref q_t_rows, .int t_chosen, .int t_chosenSign, .int t_chosenLimbs, .int t_state, .int t_done, .int t_pivots, .int t_odd])), (q_t_limbs, .inl (cA, n_t_limbs, .inl a_t_limbs)), (q_t_signs, .inl (cA, n_t_signs, .inl a_t_signs)), (q_t_rows, .inl (cA, n_t_rows, .inl a_t_rows))] := hD
          refine lv_goto (tgt := 45) hx hb dX3_numerator_41 (by decide) ?_
          have e9 := Option.some.inj hf
          subst e9
          exact kr_i hx hb hr hlocks hK hS (hP.sub [0, 1, 2, 3] rfl) (hD.sub [0, 1, 2, 3] (by decide) rfl) dX3_numerator_45
def rm_X_pivot : Room := { frames := 2, cells := 0, slots := 0, locals := 46 }
theorem kw_X_pivot_0 : (.fieldLink RX3 38 "MinorStepsModel" "pivots" "I" : Cond) ∈ wsX3_pivot := by decide +kernel
theorem ki_X_pivot_X3 : ∀ w ∈ u_ws RX3 TX3 12, w ∈ wsX3_pivot := by decide +kernel
set_option maxHeartbeats 4000000 in
set_option maxRecDepth 100000 in
theorem c_X_pivot (l : Launch) (dC : Nat → ClassId) (dI : Nat → Nat → Nat) (cA : ClassId) (sz : Nat) (q_t : Nat) (q_t_limbs : Nat) (q_t_signs : Nat) (q_t_rows : Nat) (k : Nat) (t_n : Int32) (t_room : Int32) (t_chosen : Int32) (t_chosenSign : Int32) (t_chosenLimbs : Int32) (t_state : Int32) (t_done : Int32) (t_pivots : Int32) (t_odd : Int32) (n_t_limbs : Nat) (a_t_limbs : Nat → Int32) (n_t_signs : Nat) (a_t_signs : Nat → Int32) (n_t_rows : Nat) (a_t_rows : Nat → Int32) (kk : Int32) (what : Int32) (o : Int32) (hf : f_X_pivot k t_n t_pivots n_t_limbs a_t_limbs n_t_signs a_t_signs kk what = some o) : Met l yX3_pivot wsX3_pivot rm_X_pivot (c_Pre (dC, dI) vwCl [(cA, .int)] [(q_t, .inr (3, [.int t_n, .int t_room, .ref q_t_limbs, .ref q_t_signs, .ref q_t_rows, .int t_chosen, .int t_chosenSign, .int t_chosenLimbs, .int t_state, .int t_done, .int t_pivots, .int t_odd])), (q_t_limbs, .inl (cA, n_t_limbs, .inl a_t_limbs)), (q_t_signs, .inl (cA, n_t_signs, .inl a_t_signs)), (q_t_rows, .inl (cA, n_t_rows, .inl a_t_rows))] sz [.ref q_t, .int kk, .int what]) (c_Qi (dC, dI) vwCl [(cA, .int)] [(q_t, .inr (3, [.int t_n, .int t_room, .ref q_t_limbs, .ref q_t_signs, .ref q_t_rows, .int t_chosen, .int t_chosenSign, .int t_chosenLimbs, .int t_state, .int t_done, .int t_pivots, .int t_odd])), (q_t_limbs, .inl (cA, n_t_limbs, .inl a_t_limbs)), (q_t_signs, .inl (cA, n_t_signs, .inl a_t_signs)), (q_t_rows, .inl (cA, n_t_rows, .inl a_t_rows))] (va_A [(q_t, .inr (3, [.int t_n, .int t_room, .ref q_t_limbs, .ref q_t_signs, .ref q_t_rows, .int t_chosen, .int t_chosenSign, .int t_chosenLimbs, .int t_state, .int t_done, .int t_pivots, .int t_odd])), (q_t_limbs, .inl (cA, n_t_limbs, .inl a_t_limbs)), (q_t_signs, .inl (cA, n_t_signs, .inl a_t_signs)), (q_t_rows, .inl (cA, n_t_rows, .inl a_t_rows))] sz) o) 0 0 (va_A [(q_t, .inr (3, [.int t_n, .int t_room, .ref q_t_limbs, .ref q_t_signs, .ref q_t_rows, .int t_chosen, .int t_chosenSign, .int t_chosenLimbs, .int t_state, .int t_done, .int t_pivots, .int t_odd])), (q_t_limbs, .inl (cA, n_t_limbs, .inl a_t_limbs)), (q_t_signs, .inl (cA, n_t_signs, .inl a_t_signs)), (q_t_rows, .inl (cA, n_t_rows, .inl a_t_rows))] sz) := by
  unfold f_X_pivot at hf
  refine k_ent (Qc := fun A => c_Qi (dC, dI) vwCl [(cA, .int)] [(q_t, .inr (3, [.int t_n, .int t_room, .ref q_t_limbs, .ref q_t_signs, .ref q_t_rows, .int t_chosen, .int t_chosenSign, .int t_chosenLimbs, .int t_state, .int t_done, .int t_pivots, .int t_odd])), (q_t_limbs, .inl (cA, n_t_limbs, .inl a_t_limbs)), (q_t_signs, .inl (cA, n_t_signs, .inl a_t_signs)), (q_t_rows, .inl (cA, n_t_rows, .inl a_t_rows))] A o) (by decide) rfl (Nat.le_of_ble_eq_true rfl) ?_
  intro p e s m below meth c A hx hb hr hown hts hml hlocks hin hsz hA hK H locs hP hD hS ls hl
  have hown : s.vm.findClass RX3 = some m.cls := hown
  have hl : lv_has ls 3 [(0, .ref q_t), (1, .int kk), (2, .int what)] := hl
  refine lv_iload_n hx hb dX3_pivot_0 rfl (lv_at hl 1 rfl) ?_
  refine lv_if_lt (tgt := 27) hx hb dX3_pivot_1 (by decide) (fun c1 => ?_) (fun c1 => ?_)
  · have hf := og_t c1 hf
    refine lv_iconst (v := (-1)) hx hb dX3_pivot_27 (by decide) ?_
    have e9 := Option.some.inj hf
    subst e9
    exact kr_i hx hb hr hlocks hK hS (hP.sub [0, 1, 2, 3] rfl) (hD.sub [0, 1, 2, 3] (by decide) rfl) dX3_pivot_28
  · have hf := og_f c1 hf
    refine lv_iload_n hx hb dX3_pivot_4 rfl (lv_at hl 1 rfl) ?_
    refine lv_aload_n hx hb dX3_pivot_5 rfl (lv_at hl 0 rfl) ?_
    refine va_get (D := (dC, dI)) (ci := 3) (v := .int t_pivots) (C := RX3) (T := TX3) (N := 12) hx hb hts ki_X_pivot_X3 hown hK hP 0 rfl rfl 10 (by decide) (hts (.fieldLink RX3 38 "MinorStepsModel" "pivots" "I") kw_X_pivot_0) (fun _ h9 => h9) rfl dX3_pivot_6 ?_
    refine lv_icmp_ge (tgt := 27) hx hb dX3_pivot_9 (by decide) (fun c2 => ?_) (fun c2 => ?_)
    · have hf := og_t c2 hf
      refine lv_iconst (v := (-1)) hx hb dX3_pivot_27 (by decide) ?_
      have e9 := Option.some.inj hf
      subst e9
      exact kr_i hx hb hr hlocks hK hS (hP.sub [0, 1, 2, 3] rfl) (hD.sub [0, 1, 2, 3] (by decide) rfl) dX3_pivot_28
    · have hf := og_f c2 hf
      refine lv_aload_n hx hb dX3_pivot_12 rfl (lv_at hl 0 rfl) ?_
      refine lv_aload_n hx hb dX3_pivot_13 rfl (lv_at hl 0 rfl) ?_
      refine lv_iload_n hx hb dX3_pivot_14 rfl (lv_at hl 1 rfl) ?_
      refine lv_iload_n hx hb dX3_pivot_15 rfl (lv_at hl 1 rfl) ?_
      obtain ⟨x3, g4, hf⟩ := og_b hf
      refine kc_i (wr := []) (w1 := [(q_t, .inr (3, [.int t_n, .int t_room, .ref q_t_limbs, .ref q_t_signs, .ref q_t_rows, .int t_chosen, .int t_chosenSign, .int t_chosenLimbs, .int t_state, .int t_done, .int t_pivots, .int t_odd])), (q_t_limbs, .inl (cA, n_t_limbs, .inl a_t_limbs)), (q_t_signs, .inl (cA, n_t_signs, .inl a_t_signs)), (q_t_rows, .inl (cA, n_t_rows, .inl a_t_rows))]) [0, 1, 2, 3] [] (va_runV (As := [.int kk, .int kk]) (rest := [.ref q_t]) ⟨hx, hb, hml, hown, hts⟩ (c_X_place l dC dI cA H.size q_t q_t_limbs q_t_signs q_t_rows t_n t_room t_chosen t_chosenSign t_chosenLimbs t_state t_done t_pivots t_odd n_t_limbs a_t_limbs n_t_signs a_t_signs n_t_rows a_t_rows kk kk x3 g4) (cwV 2 hts gX3_pivot_X3_place rfl rfl rfl (by decide +kernel) ⟨Nat.le_of_ble_eq_true rfl, Nat.le_of_ble_eq_true rfl⟩) (kc_preV hP hD hK [0, 1, 2, 3] rfl rfl (by decide) (ci := 3) (q0 := 0) rfl rfl) rfl rfl hl.1 rfl (lv_room (Nat.le_of_ble_eq_true rfl)) dX3_pivot_16 ⟨Nat.le_of_ble_eq_true rfl, Nat.le_of_ble_eq_true rfl⟩) hP hD hS hA rfl rfl (by decide) (by decide) (fun H locs hP hD hS => ?_)
      have hP : va_P (dC, dI) vwCl [(q_t, .inr (3, [.int t_n, .int t_room, .ref q_t_limbs, .ref q_t_signs, .ref q_t_rows, .int t_chosen, .int t_chosenSign, .int t_chosenLimbs, .int t_state, .int t_done, .int t_pivots, .int t_odd])), (q_t_limbs, .inl (cA, n_t_limbs, .inl a_t_limbs)), (q_t_signs, .inl (cA, n_t_signs, .inl a_t_signs)), (q_t_rows, .inl (cA, n_t_rows, .inl a_t_rows))] H := hP
      have hD : va_D A [(q_t, .inr (3, [.int t_n, .int t_room, .ref q_t_limbs, .ref q_t_signs, .ref q_t_rows, .int t_chosen, .int t_chosenSign, .int t_chosenLimbs, .int t_state, .int t_done, .int t_pivots, .int t_odd])), (q_t_limbs, .inl (cA, n_t_limbs, .inl a_t_limbs)), (q_t_signs, .inl (cA, n_t_signs, .inl a_t_signs)), (q_t_rows, .inl (cA, n_t_rows, .inl a_t_rows))] := hD
      refine lv_iload_n hx hb dX3_pivot_19 rfl (lv_at hl 2 rfl) ?_
      refine lv_iconst (v := 1) hx hb dX3_pivot_20 (by decide) ?_
      obtain ⟨x5, g6, hf⟩ := og_b hf
      refine kc_i (wr := []) (w1 := [(q_t, .inr (3, [.int t_n, .int t_room, .ref q_t_limbs, .ref q_t_signs, .ref q_t_rows, .int t_chosen, .int t_chosenSign, .int t_chosenLimbs, .int t_state, .int t_done, .int t_pivots, .int t_odd])), (q_t_limbs, .inl (cA, n_t_limbs, .inl a_t_limbs)), (q_t_signs, .inl (cA, n_t_signs, .inl a_t_signs)), (q_t_rows, .inl (cA, n_t_rows, .inl a_t_rows))]) [0, 1, 2, 3] [] (va_runV (As := [.int x3, .int what, .int 1]) (rest := []) ⟨hx, hb, hml, hown, hts⟩ (c_X_told l dC dI cA H.size q_t q_t_limbs q_t_signs q_t_rows k t_n t_room t_chosen t_chosenSign t_chosenLimbs t_state t_done t_pivots t_odd n_t_limbs a_t_limbs n_t_signs a_t_signs n_t_rows a_t_rows x3 what (1 : Int32) x5 g6) (cwV 3 hts gX3_pivot_X3_told rfl rfl rfl (by decide +kernel) ⟨Nat.le_of_ble_eq_true rfl, Nat.le_of_ble_eq_true rfl⟩) (kc_preV hP hD hK [0, 1, 2, 3] rfl rfl (by decide) (ci := 3) (q0 := 0) rfl rfl) rfl rfl hl.1 rfl (lv_room (Nat.le_of_ble_eq_true rfl)) dX3_pivot_21 ⟨Nat.le_of_ble_eq_true rfl, Nat.le_of_ble_eq_true rfl⟩) hP hD hS hA rfl rfl (by decide) (by decide) (fun H locs hP hD hS => ?_)
      have hP : va_P (dC, dI) vwCl [(q_t, .inr (3, [.int t_n, .int t_room, .ref q_t_limbs, .ref q_t_signs, .ref q_t_rows, .int t_chosen, .int t_chosenSign, .int t_chosenLimbs, .int t_state, .int t_done, .int t_pivots, .int t_odd])), (q_t_limbs, .inl (cA, n_t_limbs, .inl a_t_limbs)), (q_t_signs, .inl (cA, n_t_signs, .inl a_t_signs)), (q_t_rows, .inl (cA, n_t_rows, .inl a_t_rows))] H := hP
      have hD : va_D A [(q_t, .inr (3, [.int t_n, .int t_room, .ref q_t_limbs, .ref q_t_signs, .ref q_t_rows, .int t_chosen, .int t_chosenSign, .int t_chosenLimbs, .int t_state, .int t_done, .int t_pivots, .int t_odd])), (q_t_limbs, .inl (cA, n_t_limbs, .inl a_t_limbs)), (q_t_signs, .inl (cA, n_t_signs, .inl a_t_signs)), (q_t_rows, .inl (cA, n_t_rows, .inl a_t_rows))] := hD
      refine lv_goto (tgt := 28) hx hb dX3_pivot_24 (by decide) ?_
      have e9 := Option.some.inj hf
      subst e9
      exact kr_i hx hb hr hlocks hK hS (hP.sub [0, 1, 2, 3] rfl) (hD.sub [0, 1, 2, 3] (by decide) rfl) dX3_pivot_28
def rm_X_number : Room := { frames := 2, cells := 0, slots := 0, locals := 46 }
set_option maxHeartbeats 4000000 in
set_option maxRecDepth 100000 in
theorem c_X_number (l : Launch) (dC : Nat → ClassId) (dI : Nat → Nat → Nat) (cA : ClassId) (sz : Nat) (q_t : Nat) (q_t_limbs : Nat) (q_t_signs : Nat) (q_t_rows : Nat) (k : Nat) (t_n : Int32) (t_room : Int32) (t_chosen : Int32) (t_chosenSign : Int32) (t_chosenLimbs : Int32) (t_state : Int32) (t_done : Int32) (t_pivots : Int32) (t_odd : Int32) (n_t_limbs : Nat) (a_t_limbs : Nat → Int32) (n_t_signs : Nat) (a_t_signs : Nat → Int32) (n_t_rows : Nat) (a_t_rows : Nat → Int32) (row : Int32) (column : Int32) (what : Int32) (o : Int32) (hf : f_X_number k t_n n_t_limbs a_t_limbs n_t_signs a_t_signs row column what = some o) : Met l yX3_number wsX3_number rm_X_number (c_Pre (dC, dI) vwCl [(cA, .int)] [(q_t, .inr (3, [.int t_n, .int t_room, .ref q_t_limbs, .ref q_t_signs, .ref q_t_rows, .int t_chosen, .int t_chosenSign, .int t_chosenLimbs, .int t_state, .int t_done, .int t_pivots, .int t_odd])), (q_t_limbs, .inl (cA, n_t_limbs, .inl a_t_limbs)), (q_t_signs, .inl (cA, n_t_signs, .inl a_t_signs)), (q_t_rows, .inl (cA, n_t_rows, .inl a_t_rows))] sz [.ref q_t, .int row, .int column, .int what]) (c_Qi (dC, dI) vwCl [(cA, .int)] [(q_t, .inr (3, [.int t_n, .int t_room, .ref q_t_limbs, .ref q_t_signs, .ref q_t_rows, .int t_chosen, .int t_chosenSign, .int t_chosenLimbs, .int t_state, .int t_done, .int t_pivots, .int t_odd])), (q_t_limbs, .inl (cA, n_t_limbs, .inl a_t_limbs)), (q_t_signs, .inl (cA, n_t_signs, .inl a_t_signs)), (q_t_rows, .inl (cA, n_t_rows, .inl a_t_rows))] (va_A [(q_t, .inr (3, [.int t_n, .int t_room, .ref q_t_limbs, .ref q_t_signs, .ref q_t_rows, .int t_chosen, .int t_chosenSign, .int t_chosenLimbs, .int t_state, .int t_done, .int t_pivots, .int t_odd])), (q_t_limbs, .inl (cA, n_t_limbs, .inl a_t_limbs)), (q_t_signs, .inl (cA, n_t_signs, .inl a_t_signs)), (q_t_rows, .inl (cA, n_t_rows, .inl a_t_rows))] sz) o) 0 0 (va_A [(q_t, .inr (3, [.int t_n, .int t_room, .ref q_t_limbs, .ref q_t_signs, .ref q_t_rows, .int t_chosen, .int t_chosenSign, .int t_chosenLimbs, .int t_state, .int t_done, .int t_pivots, .int t_odd])), (q_t_limbs, .inl (cA, n_t_limbs, .inl a_t_limbs)), (q_t_signs, .inl (cA, n_t_signs, .inl a_t_signs)), (q_t_rows, .inl (cA, n_t_rows, .inl a_t_rows))] sz) := by
  unfold f_X_number at hf
  refine k_ent (Qc := fun A => c_Qi (dC, dI) vwCl [(cA, .int)] [(q_t, .inr (3, [.int t_n, .int t_room, .ref q_t_limbs, .ref q_t_signs, .ref q_t_rows, .int t_chosen, .int t_chosenSign, .int t_chosenLimbs, .int t_state, .int t_done, .int t_pivots, .int t_odd])), (q_t_limbs, .inl (cA, n_t_limbs, .inl a_t_limbs)), (q_t_signs, .inl (cA, n_t_signs, .inl a_t_signs)), (q_t_rows, .inl (cA, n_t_rows, .inl a_t_rows))] A o) (by decide) rfl (Nat.le_of_ble_eq_true rfl) ?_
  intro p e s m below meth c A hx hb hr hown hts hml hlocks hin hsz hA hK H locs hP hD hS ls hl
  have hown : s.vm.findClass RX3 = some m.cls := hown
  have hl : lv_has ls 4 [(0, .ref q_t), (1, .int row), (2, .int column), (3, .int what)] := hl
  refine lv_aload_n hx hb dX3_number_0 rfl (lv_at hl 0 rfl) ?_
  refine lv_iload_n hx hb dX3_number_1 rfl (lv_at hl 1 rfl) ?_
  refine lv_iload_n hx hb dX3_number_2 rfl (lv_at hl 2 rfl) ?_
  obtain ⟨x1, g2, hf⟩ := og_b hf
  refine kc_i (wr := []) (w1 := [(q_t, .inr (3, [.int t_n, .int t_room, .ref q_t_limbs, .ref q_t_signs, .ref q_t_rows, .int t_chosen, .int t_chosenSign, .int t_chosenLimbs, .int t_state, .int t_done, .int t_pivots, .int t_odd])), (q_t_limbs, .inl (cA, n_t_limbs, .inl a_t_limbs)), (q_t_signs, .inl (cA, n_t_signs, .inl a_t_signs)), (q_t_rows, .inl (cA, n_t_rows, .inl a_t_rows))]) [0, 1, 2, 3] [] (va_runV (As := [.int row, .int column]) (rest := []) ⟨hx, hb, hml, hown, hts⟩ (c_X_isPlace l dC dI cA H.size q_t q_t_limbs q_t_signs q_t_rows t_n t_room t_chosen t_chosenSign t_chosenLimbs t_state t_done t_pivots t_odd n_t_limbs a_t_limbs n_t_signs a_t_signs n_t_rows a_t_rows row column x1 g2) (cwV 2 hts gX3_number_X3_isPlace rfl rfl rfl (by decide +kernel) ⟨Nat.le_of_ble_eq_true rfl, Nat.le_of_ble_eq_true rfl⟩) (kc_preV hP hD hK [0, 1, 2, 3] rfl rfl (by decide) (ci := 3) (q0 := 0) rfl rfl) rfl rfl hl.1 rfl (lv_room (Nat.le_of_ble_eq_true rfl)) dX3_number_3 ⟨Nat.le_of_ble_eq_true rfl, Nat.le_of_ble_eq_true rfl⟩) hP hD hS hA rfl rfl (by decide) (by decide) (fun H locs hP hD hS => ?_)
  have hP : va_P (dC, dI) vwCl [(q_t, .inr (3, [.int t_n, .int t_room, .ref q_t_limbs, .ref q_t_signs, .ref q_t_rows, .int t_chosen, .int t_chosenSign, .int t_chosenLimbs, .int t_state, .int t_done, .int t_pivots, .int t_odd])), (q_t_limbs, .inl (cA, n_t_limbs, .inl a_t_limbs)), (q_t_signs, .inl (cA, n_t_signs, .inl a_t_signs)), (q_t_rows, .inl (cA, n_t_rows, .inl a_t_rows))] H := hP
  have hD : va_D A [(q_t, .inr (3, [.int t_n, .int t_room, .ref q_t_limbs, .ref q_t_signs, .ref q_t_rows, .int t_chosen, .int t_chosenSign, .int t_chosenLimbs, .int t_state, .int t_done, .int t_pivots, .int t_odd])), (q_t_limbs, .inl (cA, n_t_limbs, .inl a_t_limbs)), (q_t_signs, .inl (cA, n_t_signs, .inl a_t_signs)), (q_t_rows, .inl (cA, n_t_rows, .inl a_t_rows))] := hD
  refine lv_if_eq (tgt := 24) hx hb dX3_number_6 (by decide) (fun c3 => ?_) (fun c3 => ?_)
  · have hf := og_t c3 hf
    refine lv_iconst (v := (-1)) hx hb dX3_number_24 (by decide) ?_
    have e9 := Option.some.inj hf
    subst e9
    exact kr_i hx hb hr hlocks hK hS (hP.sub [0, 1, 2, 3] rfl) (hD.sub [0, 1, 2, 3] (by decide) rfl) dX3_number_25
  · have hf := og_f c3 hf
    refine lv_aload_n hx hb dX3_number_9 rfl (lv_at hl 0 rfl) ?_
    refine lv_aload_n hx hb dX3_number_10 rfl (lv_at hl 0 rfl) ?_
    refine lv_iload_n hx hb dX3_number_11 rfl (lv_at hl 1 rfl) ?_
    refine lv_iload_n hx hb dX3_number_12 rfl (lv_at hl 2 rfl) ?_
    obtain ⟨x4, g5, hf⟩ := og_b hf
    refine kc_i (wr := []) (w1 := [(q_t, .inr (3, [.int t_n, .int t_room, .ref q_t_limbs, .ref q_t_signs, .ref q_t_rows, .int t_chosen, .int t_chosenSign, .int t_chosenLimbs, .int t_state, .int t_done, .int t_pivots, .int t_odd])), (q_t_limbs, .inl (cA, n_t_limbs, .inl a_t_limbs)), (q_t_signs, .inl (cA, n_t_signs, .inl a_t_signs)), (q_t_rows, .inl (cA, n_t_rows, .inl a_t_rows))]) [0, 1, 2, 3] [] (va_runV (As := [.int row, .int column]) (rest := [.ref q_t]) ⟨hx, hb, hml, hown, hts⟩ (c_X_place l dC dI cA H.size q_t q_t_limbs q_t_signs q_t_rows t_n t_room t_chosen t_chosenSign t_chosenLimbs t_state t_done t_pivots t_odd n_t_limbs a_t_limbs n_t_signs a_t_signs n_t_rows a_t_rows row column x4 g5) (cwV 2 hts gX3_number_X3_place rfl rfl rfl (by decide +kernel) ⟨Nat.le_of_ble_eq_true rfl, Nat.le_of_ble_eq_true rfl⟩) (kc_preV hP hD hK [0, 1, 2, 3] rfl rfl (by decide) (ci := 3) (q0 := 0) rfl rfl) rfl rfl hl.1 rfl (lv_room (Nat.le_of_ble_eq_true rfl)) dX3_number_13 ⟨Nat.le_of_ble_eq_true rfl, Nat.le_of_ble_eq_true rfl⟩) hP hD hS hA rfl rfl (by decide) (by decide) (fun H locs hP hD hS => ?_)
    have hP : va_P (dC, dI) vwCl [(q_t, .inr (3, [.int t_n, .int t_room, .ref q_t_limbs, .ref q_t_signs, .ref q_t_rows, .int t_chosen, .int t_chosenSign, .int t_chosenLimbs, .int t_state, .int t_done, .int t_pivots, .int t_odd])), (q_t_limbs, .inl (cA, n_t_limbs, .inl a_t_limbs)), (q_t_signs, .inl (cA, n_t_signs, .inl a_t_signs)), (q_t_rows, .inl (cA, n_t_rows, .inl a_t_rows))] H := hP
    have hD : va_D A [(q_t, .inr (3, [.int t_n, .int t_room, .ref q_t_limbs, .ref q_t_signs, .ref q_t_rows, .int t_chosen, .int t_chosenSign, .int t_chosenLimbs, .int t_state, .int t_done, .int t_pivots, .int t_odd])), (q_t_limbs, .inl (cA, n_t_limbs, .inl a_t_limbs)), (q_t_signs, .inl (cA, n_t_signs, .inl a_t_signs)), (q_t_rows, .inl (cA, n_t_rows, .inl a_t_rows))] := hD
    refine lv_iload_n hx hb dX3_number_16 rfl (lv_at hl 3 rfl) ?_
    refine lv_iconst (v := 1) hx hb dX3_number_17 (by decide) ?_
    obtain ⟨x6, g7, hf⟩ := og_b hf
    refine kc_i (wr := []) (w1 := [(q_t, .inr (3, [.int t_n, .int t_room, .ref q_t_limbs, .ref q_t_signs, .ref q_t_rows, .int t_chosen, .int t_chosenSign, .int t_chosenLimbs, .int t_state, .int t_done, .int t_pivots, .int t_odd])), (q_t_limbs, .inl (cA, n_t_limbs, .inl a_t_limbs)), (q_t_signs, .inl (cA, n_t_signs, .inl a_t_signs)), (q_t_rows, .inl (cA, n_t_rows, .inl a_t_rows))]) [0, 1, 2, 3] [] (va_runV (As := [.int x4, .int what, .int 1]) (rest := []) ⟨hx, hb, hml, hown, hts⟩ (c_X_told l dC dI cA H.size q_t q_t_limbs q_t_signs q_t_rows k t_n t_room t_chosen t_chosenSign t_chosenLimbs t_state t_done t_pivots t_odd n_t_limbs a_t_limbs n_t_signs a_t_signs n_t_rows a_t_rows x4 what (1 : Int32) x6 g7) (cwV 3 hts gX3_number_X3_told rfl rfl rfl (by decide +kernel) ⟨Nat.le_of_ble_eq_true rfl, Nat.le_of_ble_eq_true rfl⟩) (kc_preV hP hD hK [0, 1, 2, 3] rfl rfl (by decide) (ci := 3) (q0 := 0) rfl rfl) rfl rfl hl.1 rfl (lv_room (Nat.le_of_ble_eq_true rfl)) dX3_number_18 ⟨Nat.le_of_ble_eq_true rfl, Nat.le_of_ble_eq_true rfl⟩) hP hD hS hA rfl rfl (by decide) (by decide) (fun H locs hP hD hS => ?_)
    have hP : va_P (dC, dI) vwCl [(q_t, .inr (3, [.int t_n, .int t_room, .ref q_t_limbs, .ref q_t_signs, .ref q_t_rows, .int t_chosen, .int t_chosenSign, .int t_chosenLimbs, .int t_state, .int t_done, .int t_pivots, .int t_odd])), (q_t_limbs, .inl (cA, n_t_limbs, .inl a_t_limbs)), (q_t_signs, .inl (cA, n_t_signs, .inl a_t_signs)), (q_t_rows, .inl (cA, n_t_rows, .inl a_t_rows))] H := hP
    have hD : va_D A [(q_t, .inr (3, [.int t_n, .int t_room, .ref q_t_limbs, .ref q_t_signs, .ref q_t_rows, .int t_chosen, .int t_chosenSign, .int t_chosenLimbs, .int t_state, .int t_done, .int t_pivots, .int t_odd])), (q_t_limbs, .inl (cA, n_t_limbs, .inl a_t_limbs)), (q_t_signs, .inl (cA, n_t_signs, .inl a_t_signs)), (q_t_rows, .inl (cA, n_t_rows, .inl a_t_rows))] := hD
    refine lv_goto (tgt := 25) hx hb dX3_number_21 (by decide) ?_
    have e9 := Option.some.inj hf
    subst e9
    exact kr_i hx hb hr hlocks hK hS (hP.sub [0, 1, 2, 3] rfl) (hD.sub [0, 1, 2, 3] (by decide) rfl) dX3_number_25
def rm_X_row : Room := { frames := 0, cells := 0, slots := 0, locals := 0 }
theorem kw_X_row_0 : (.fieldLink RX3 19 "MinorStepsModel" "n" "I" : Cond) ∈ wsX3_row := by decide +kernel
theorem kw_X_row_1 : (.fieldLink RX3 16 "MinorStepsModel" "rows" "[I" : Cond) ∈ wsX3_row := by decide +kernel
theorem ki_X_row_X3 : ∀ w ∈ u_ws RX3 TX3 12, w ∈ wsX3_row := by decide +kernel
set_option maxHeartbeats 4000000 in
set_option maxRecDepth 100000 in
theorem c_X_row (l : Launch) (dC : Nat → ClassId) (dI : Nat → Nat → Nat) (cA : ClassId) (sz : Nat) (q_t : Nat) (q_t_limbs : Nat) (q_t_signs : Nat) (q_t_rows : Nat) (t_n : Int32) (t_room : Int32) (t_chosen : Int32) (t_chosenSign : Int32) (t_chosenLimbs : Int32) (t_state : Int32) (t_done : Int32) (t_pivots : Int32) (t_odd : Int32) (n_t_limbs : Nat) (a_t_limbs : Nat → Int32) (n_t_signs : Nat) (a_t_signs : Nat → Int32) (n_t_rows : Nat) (a_t_rows : Nat → Int32) (ii : Int32) (o : Int32) (hf : f_X_row t_n n_t_rows a_t_rows ii = some o) : Met l yX3_row wsX3_row rm_X_row (c_Pre (dC, dI) vwCl [(cA, .int)] [(q_t, .inr (3, [.int t_n, .int t_room, .ref q_t_limbs, .ref q_t_signs, .ref q_t_rows, .int t_chosen, .int t_chosenSign, .int t_chosenLimbs, .int t_state, .int t_done, .int t_pivots, .int t_odd])), (q_t_limbs, .inl (cA, n_t_limbs, .inl a_t_limbs)), (q_t_signs, .inl (cA, n_t_signs, .inl a_t_signs)), (q_t_rows, .inl (cA, n_t_rows, .inl a_t_rows))] sz [.ref q_t, .int ii]) (c_Qi (dC, dI) vwCl [(cA, .int)] [(q_t, .inr (3, [.int t_n, .int t_room, .ref q_t_limbs, .ref q_t_signs, .ref q_t_rows, .int t_chosen, .int t_chosenSign, .int t_chosenLimbs, .int t_state, .int t_done, .int t_pivots, .int t_odd])), (q_t_limbs, .inl (cA, n_t_limbs, .inl a_t_limbs)), (q_t_signs, .inl (cA, n_t_signs, .inl a_t_signs)), (q_t_rows, .inl (cA, n_t_rows, .inl a_t_rows))] (va_A [(q_t, .inr (3, [.int t_n, .int t_room, .ref q_t_limbs, .ref q_t_signs, .ref q_t_rows, .int t_chosen, .int t_chosenSign, .int t_chosenLimbs, .int t_state, .int t_done, .int t_pivots, .int t_odd])), (q_t_limbs, .inl (cA, n_t_limbs, .inl a_t_limbs)), (q_t_signs, .inl (cA, n_t_signs, .inl a_t_signs)), (q_t_rows, .inl (cA, n_t_rows, .inl a_t_rows))] sz) o) 0 0 (va_A [(q_t, .inr (3, [.int t_n, .int t_room, .ref q_t_limbs, .ref q_t_signs, .ref q_t_rows, .int t_chosen, .int t_chosenSign, .int t_chosenLimbs, .int t_state, .int t_done, .int t_pivots, .int t_odd])), (q_t_limbs, .inl (cA, n_t_limbs, .inl a_t_limbs)), (q_t_signs, .inl (cA, n_t_signs, .inl a_t_signs)), (q_t_rows, .inl (cA, n_t_rows, .inl a_t_rows))] sz) := by
  unfold f_X_row at hf
  refine k_ent (Qc := fun A => c_Qi (dC, dI) vwCl [(cA, .int)] [(q_t, .inr (3, [.int t_n, .int t_room, .ref q_t_limbs, .ref q_t_signs, .ref q_t_rows, .int t_chosen, .int t_chosenSign, .int t_chosenLimbs, .int t_state, .int t_done, .int t_pivots, .int t_odd])), (q_t_limbs, .inl (cA, n_t_limbs, .inl a_t_limbs)), (q_t_signs, .inl (cA, n_t_signs, .inl a_t_signs)), (q_t_rows, .inl (cA, n_t_rows, .inl a_t_rows))] A o) (by decide) rfl (Nat.le_of_ble_eq_true rfl) ?_
  intro p e s m below meth c A hx hb hr hown hts hml hlocks hin hsz hA hK H locs hP hD hS ls hl
  have hown : s.vm.findClass RX3 = some m.cls := hown
  have hl : lv_has ls 2 [(0, .ref q_t), (1, .int ii)] := hl
  refine lv_iload_n hx hb dX3_row_0 rfl (lv_at hl 1 rfl) ?_
  refine lv_if_lt (tgt := 21) hx hb dX3_row_1 (by decide) (fun c1 => ?_) (fun c1 => ?_)
  · have hf := og_t c1 hf
    refine lv_iconst (v := (-1)) hx hb dX3_row_21 (by decide) ?_
    have e9 := Option.some.inj hf
    subst e9
    exact kr_i hx hb hr hlocks hK hS (hP.sub [0, 1, 2, 3] rfl) (hD.sub [0, 1, 2, 3] (by decide) rfl) dX3_row_22
  · have hf := og_f c1 hf
    refine lv_iload_n hx hb dX3_row_4 rfl (lv_at hl 1 rfl) ?_
    refine lv_aload_n hx hb dX3_row_5 rfl (lv_at hl 0 rfl) ?_
    refine va_get (D := (dC, dI)) (ci := 3) (v := .int t_n) (C := RX3) (T := TX3) (N := 12) hx hb hts ki_X_row_X3 hown hK hP 0 rfl rfl 0 (by decide) (hts (.fieldLink RX3 19 "MinorStepsModel" "n" "I") kw_X_row_0) (fun _ h9 => h9) rfl dX3_row_6 ?_
    refine lv_icmp_ge (tgt := 21) hx hb dX3_row_9 (by decide) (fun c2 => ?_) (fun c2 => ?_)
    · have hf := og_t c2 hf
      refine lv_iconst (v := (-1)) hx hb dX3_row_21 (by decide) ?_
      have e9 := Option.some.inj hf
      subst e9
      exact kr_i hx hb hr hlocks hK hS (hP.sub [0, 1, 2, 3] rfl) (hD.sub [0, 1, 2, 3] (by decide) rfl) dX3_row_22
    · have hf := og_f c2 hf
      refine lv_aload_n hx hb dX3_row_12 rfl (lv_at hl 0 rfl) ?_
      refine va_get (D := (dC, dI)) (ci := 3) (v := .ref q_t_rows) (C := RX3) (T := TX3) (N := 12) hx hb hts ki_X_row_X3 hown hK hP 0 rfl rfl 4 (by decide) (hts (.fieldLink RX3 16 "MinorStepsModel" "rows" "[I") kw_X_row_1) (fun _ h9 => h9) rfl dX3_row_13 ?_
      refine lv_iload_n hx hb dX3_row_16 rfl (lv_at hl 1 rfl) ?_
      obtain ⟨g3, hf⟩ := og_c hf
      refine va_iald hx hb hK hP 3 0 rfl rfl (og_in g3) dX3_row_17 ?_
      refine lv_goto (tgt := 22) hx hb dX3_row_18 (by decide) ?_
      have e9 := Option.some.inj hf
      subst e9
      exact kr_i hx hb hr hlocks hK hS (hP.sub [0, 1, 2, 3] rfl) (hD.sub [0, 1, 2, 3] (by decide) rfl) dX3_row_22
def rm_X_holds : Room := { frames := 0, cells := 0, slots := 0, locals := 0 }
theorem kw_X_holds_0 : (.fieldLink RX3 32 "MinorStepsModel" "state" "I" : Cond) ∈ wsX3_holds := by decide +kernel
theorem ki_X_holds_X3 : ∀ w ∈ u_ws RX3 TX3 12, w ∈ wsX3_holds := by decide +kernel
set_option maxHeartbeats 4000000 in
set_option maxRecDepth 100000 in
theorem c_X_holds (l : Launch) (dC : Nat → ClassId) (dI : Nat → Nat → Nat) (cA : ClassId) (sz : Nat) (q_t : Nat) (q_t_limbs : Nat) (q_t_signs : Nat) (q_t_rows : Nat) (t_n : Int32) (t_room : Int32) (t_chosen : Int32) (t_chosenSign : Int32) (t_chosenLimbs : Int32) (t_state : Int32) (t_done : Int32) (t_pivots : Int32) (t_odd : Int32) (n_t_limbs : Nat) (a_t_limbs : Nat → Int32) (n_t_signs : Nat) (a_t_signs : Nat → Int32) (n_t_rows : Nat) (a_t_rows : Nat → Int32) (o : Int32) (hf : f_X_holds t_state = some o) : Met l yX3_holds wsX3_holds rm_X_holds (c_Pre (dC, dI) vwCl [(cA, .int)] [(q_t, .inr (3, [.int t_n, .int t_room, .ref q_t_limbs, .ref q_t_signs, .ref q_t_rows, .int t_chosen, .int t_chosenSign, .int t_chosenLimbs, .int t_state, .int t_done, .int t_pivots, .int t_odd])), (q_t_limbs, .inl (cA, n_t_limbs, .inl a_t_limbs)), (q_t_signs, .inl (cA, n_t_signs, .inl a_t_signs)), (q_t_rows, .inl (cA, n_t_rows, .inl a_t_rows))] sz [.ref q_t]) (c_Qi (dC, dI) vwCl [(cA, .int)] [(q_t, .inr (3, [.int t_n, .int t_room, .ref q_t_limbs, .ref q_t_signs, .ref q_t_rows, .int t_chosen, .int t_chosenSign, .int t_chosenLimbs, .int t_state, .int t_done, .int t_pivots, .int t_odd])), (q_t_limbs, .inl (cA, n_t_limbs, .inl a_t_limbs)), (q_t_signs, .inl (cA, n_t_signs, .inl a_t_signs)), (q_t_rows, .inl (cA, n_t_rows, .inl a_t_rows))] (va_A [(q_t, .inr (3, [.int t_n, .int t_room, .ref q_t_limbs, .ref q_t_signs, .ref q_t_rows, .int t_chosen, .int t_chosenSign, .int t_chosenLimbs, .int t_state, .int t_done, .int t_pivots, .int t_odd])), (q_t_limbs, .inl (cA, n_t_limbs, .inl a_t_limbs)), (q_t_signs, .inl (cA, n_t_signs, .inl a_t_signs)), (q_t_rows, .inl (cA, n_t_rows, .inl a_t_rows))] sz) o) 0 0 (va_A [(q_t, .inr (3, [.int t_n, .int t_room, .ref q_t_limbs, .ref q_t_signs, .ref q_t_rows, .int t_chosen, .int t_chosenSign, .int t_chosenLimbs, .int t_state, .int t_done, .int t_pivots, .int t_odd])), (q_t_limbs, .inl (cA, n_t_limbs, .inl a_t_limbs)), (q_t_signs, .inl (cA, n_t_signs, .inl a_t_signs)), (q_t_rows, .inl (cA, n_t_rows, .inl a_t_rows))] sz) := by
  unfold f_X_holds at hf
  refine k_ent (Qc := fun A => c_Qi (dC, dI) vwCl [(cA, .int)] [(q_t, .inr (3, [.int t_n, .int t_room, .ref q_t_limbs, .ref q_t_signs, .ref q_t_rows, .int t_chosen, .int t_chosenSign, .int t_chosenLimbs, .int t_state, .int t_done, .int t_pivots, .int t_odd])), (q_t_limbs, .inl (cA, n_t_limbs, .inl a_t_limbs)), (q_t_signs, .inl (cA, n_t_signs, .inl a_t_signs)), (q_t_rows, .inl (cA, n_t_rows, .inl a_t_rows))] A o) (by decide) rfl (Nat.le_of_ble_eq_true rfl) ?_
  intro p e s m below meth c A hx hb hr hown hts hml hlocks hin hsz hA hK H locs hP hD hS ls hl
  have hown : s.vm.findClass RX3 = some m.cls := hown
  have hl : lv_has ls 1 [(0, .ref q_t)] := hl
  refine lv_aload_n hx hb dX3_holds_0 rfl (lv_at hl 0 rfl) ?_
  refine va_get (D := (dC, dI)) (ci := 3) (v := .int t_state) (C := RX3) (T := TX3) (N := 12) hx hb hts ki_X_holds_X3 hown hK hP 0 rfl rfl 8 (by decide) (hts (.fieldLink RX3 32 "MinorStepsModel" "state" "I") kw_X_holds_0) (fun _ h9 => h9) rfl dX3_holds_1 ?_
  refine lv_iconst (v := 1) hx hb dX3_holds_4 (by decide) ?_
  refine lv_icmp_ne (tgt := 12) hx hb dX3_holds_5 (by decide) (fun c1 => ?_) (fun c1 => ?_)
  · have hf := og_f c1 hf
    refine lv_iconst (v := 0) hx hb dX3_holds_12 (by decide) ?_
    have e9 := Option.some.inj hf
    subst e9
    exact kr_z (v := 0) hx hb hr hlocks nz_0 hK hS (hP.sub [0, 1, 2, 3] rfl) (hD.sub [0, 1, 2, 3] (by decide) rfl) dX3_holds_13
  · have hf := og_t c1 hf
    refine lv_iconst (v := 1) hx hb dX3_holds_8 (by decide) ?_
    refine lv_goto (tgt := 13) hx hb dX3_holds_9 (by decide) ?_
    have e9 := Option.some.inj hf
    subst e9
    exact kr_z (v := 1) hx hb hr hlocks nz_1 hK hS (hP.sub [0, 1, 2, 3] rfl) (hD.sub [0, 1, 2, 3] (by decide) rfl) dX3_holds_13
