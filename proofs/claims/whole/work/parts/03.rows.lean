/-! Rows of my own over the kit's: guards of the pure functions, a method's entry, its end, a call with its frame. -/
theorem og_c {α : Type} {b : Bool} {a : Option α} {r : α} (h : cond b a none = some r) : b = true ∧ a = some r := by
  cases b
  · cases h
  · exact ⟨rfl, h⟩
theorem og_b {α β : Type} {o : Option α} {f : α → Option β} {r : β} (h : o.bind f = some r) : ∃ x, o = some x ∧ f x = some r := by
  cases o with
  | none => cases h
  | some x => exact ⟨x, rfl, h⟩
theorem og_t {α : Type} {c : Prop} {i : Decidable c} {a b : Option α} {r : α} (hc : c) (h : @ite _ c i a b = some r) : a = some r := by
  rw [if_pos hc] at h; exact h
theorem og_f {α : Type} {c : Prop} {i : Decidable c} {a b : Option α} {r : α} (hc : ¬ c) (h : @ite _ c i a b = some r) : b = some r := by
  rw [if_neg hc] at h; exact h
def inb (i : Int32) (n : Nat) : Bool := decide (¬ (i < 0 ∨ n ≤ i.toNatClampNeg))
theorem og_in {i : Int32} {n : Nat} (h : inb i n = true) : vp_in i n := of_decide_eq_true (p := ¬ (i < 0 ∨ n ≤ i.toNatClampNeg)) h
theorem inb_nI {j n : Nat} (h : j < n) (hn : n < 2 ^ 31) : inb (nI j) n = true := decide_eq_true (p := ¬ (nI j < 0 ∨ n ≤ (nI j).toNatClampNeg)) (vp_in_nI h hn)
/-- the copy of n ints from place sp of an array of n0 to place dp of one of n1 -/
def cpb (sp dp n : Int32) (n0 n1 : Nat) : Bool := decide (¬ sp < 0) && (decide (¬ dp < 0) && (decide (¬ n < 0) && (decide (sp.toNatClampNeg + n.toNatClampNeg ≤ n0) && decide (dp.toNatClampNeg + n.toNatClampNeg ≤ n1))))
theorem og_cp {sp dp n : Int32} {n0 n1 : Nat} (h : cpb sp dp n n0 n1 = true) : ¬ sp < 0 ∧ ¬ dp < 0 ∧ ¬ n < 0 ∧ sp.toNatClampNeg + n.toNatClampNeg ≤ n0 ∧ dp.toNatClampNeg + n.toNatClampNeg ≤ n1 := by
  simpa [cpb] using h
/-- an int that is a boolean -/
def isz (x : Int32) : Bool := decide (x = 0 ∨ x = 1)
theorem og_z {x : Int32} (h : isz x = true) : narrow .boolean (.int x) = .int x := by
  rcases of_decide_eq_true h with rfl | rfl <;> rfl
/-- a contract's start: its cells, apart -/
def c_Pre (D : va_G) (cl : List vw_C) (tys : List (ClassId × FieldType)) (W0 : va_W) (sz : Nat) (av : List Value) : Array Value → State → Prop := va_Pc av (fun U => U.heap.size = sz ∧ va_P D cl W0 U.heap ∧ va_K D cl tys U ∧ va_D (fun _ => True) W0)
def c_B (D : va_G) (cl : List vw_C) (tys : List (ClassId × FieldType)) (W1 : va_W) (A : Nat → Prop) : Unit → State → Prop := fun _ t => va_P D cl W1 t.heap ∧ va_K D cl tys t ∧ va_D A W1
def c_Qi (D : va_G) (cl : List vw_C) (tys : List (ClassId × FieldType)) (W1 : va_W) (A : Nat → Prop) (v : Int32) : Array Value → State → Outcome → State → Prop := va_Qi (fun r (_ : Unit) => r = v) (c_B D cl tys W1 A) A
def c_Qv (D : va_G) (cl : List vw_C) (tys : List (ClassId × FieldType)) (W1 : va_W) (A : Nat → Prop) : Array Value → State → Outcome → State → Prop := va_Qv (fun (_ : Unit) => True) (c_B D cl tys W1 A) A
theorem c_Pre_fb {D : va_G} {cl : List vw_C} {tys : List (ClassId × FieldType)} {W0 : va_W} {sz : Nat} {av : List Value} : FrameBlind (c_Pre D cl tys W0 sz av) := by
  intro a U g mk q
  obtain ⟨q0, q1, qP, qK, qD⟩ := q
  exact ⟨q0, q1, qP, va_K.moved (u := U) (U := U.calling g mk a) (Vm.Alike.refl U.vm) qK, qD⟩
section KR
variable {p : Program} {l : Launch} {e : Env} {R : Room} {s : State} {m : MethodId} {args : Array Value} {below : List Frame} {meth : Method} {c : Code} {H H0 : Heap} {locs : List Loc} {cells slots : Nat} {Q : State → Prop} {D : va_G} {cl : List vw_C} {tys : List (ClassId × FieldType)} {A0 : Nat → Prop} {ws wc wr w1 : va_W} {pc : Nat} {ls : Array Slot} {rest st0 : List Value} {a : Array Value}
theorem kc_preS {As : List Value} (hP : va_P D cl ws H) (hD : va_D A0 ws) (hK : va_K D cl tys s) (isC : List Nat) (hC : isC.map (fun i => ws[i]?) = wc.map some) (hs : isC.filterMap (fun i => ws[i]?) = wc) (hn : va_nd isC = true) : PreS s H (c_Pre D cl tys wc H.size As) As :=
  ⟨c_Pre_fb, fun U hU hW => ⟨rfl, by rw [hU], by rw [hU]; exact hP.sub isC hs, va_K.moved hW.alike hK, (hD.sub isC hn hC).weaken (fun _ _ _ _ => trivial)⟩⟩
theorem kc_preV {As : List Value} {b q0 ci : Nat} {q : vw_C} {fs : List Value} (hP : va_P D cl ws H) (hD : va_D A0 ws) (hK : va_K D cl tys s) (isC : List Nat) (hC : isC.map (fun i => ws[i]?) = wc.map some) (hs : isC.filterMap (fun i => ws[i]?) = wc) (hn : va_nd isC = true) (hc : cl[ci]? = some q) (he : ws[q0]? = some (b, .inr (ci, fs))) : PreV s H q.1 b (c_Pre D cl tys wc H.size (.ref b :: As)) As :=
  ⟨c_Pre_fb, va_recv hK hP hc he, fun U hU hW => ⟨rfl, by rw [hU], by rw [hU]; exact hP.sub isC hs, va_K.moved hW.alike hK, (hD.sub isC hn hC).weaken (fun _ _ _ _ => trivial)⟩⟩
theorem kc_i {v : Int32} (isC isR : List Nat) (hrun : va_Run p l e R s m args below meth c H locs cells slots 0 0 (F0 m pc ls st0) rest (c_Qi D cl tys w1 (va_A wc H.size) v a) (va_A wc H.size)) (hP : va_P D cl ws H) (hD : va_D A0 ws) (hS : va_S A0 H0 H locs) (hA : ∀ q, H0.size ≤ q → A0 q) (hC : isC.map (fun i => ws[i]?) = wc.map some) (hR : isR.map (fun i => ws[i]?) = wr.map some) (hn : va_nd isR = true) (hdis : ∀ i ∈ isR, i ∉ isC)
    (kk : ∀ (H1 : Heap) (locs1 : List Loc), va_P D cl (wr ++ w1) H1 → va_D A0 (wr ++ w1) → va_S A0 H0 H1 locs1 → W p l e R s m args below meth c H1 locs1 cells slots Q (F0 m (pc + 3) ls (.int v :: rest))) : W p l e R s m args below meth c H locs cells slots Q (F0 m pc ls st0) := by
  have hFc := va_free (wc := wc) hD hS hA isC hC
  refine va_calli hrun hS (fun q _ h => hFc q h) hFc (fun r u t H1 locs1 ht hvm hw hB hz1 hk1 hS1 => ?_)
  obtain ⟨hP1, hK1, hD1⟩ := hB
  rw [ht] at hP1
  obtain ⟨hP2, hD2⟩ := va_join hP hD isC isR hC hR hn hdis hk1 hFc hP1 hD1
  rw [hw]
  exact kk H1 locs1 hP2 hD2 hS1
theorem kc_v (isC isR : List Nat) (hrun : va_Run p l e R s m args below meth c H locs cells slots 0 0 (F0 m pc ls st0) rest (c_Qv D cl tys w1 (va_A wc H.size) a) (va_A wc H.size)) (hP : va_P D cl ws H) (hD : va_D A0 ws) (hS : va_S A0 H0 H locs) (hA : ∀ q, H0.size ≤ q → A0 q) (hC : isC.map (fun i => ws[i]?) = wc.map some) (hR : isR.map (fun i => ws[i]?) = wr.map some) (hn : va_nd isR = true) (hdis : ∀ i ∈ isR, i ∉ isC)
    (kk : ∀ (H1 : Heap) (locs1 : List Loc), va_P D cl (wr ++ w1) H1 → va_D A0 (wr ++ w1) → va_S A0 H0 H1 locs1 → W p l e R s m args below meth c H1 locs1 cells slots Q (F0 m (pc + 3) ls rest)) : W p l e R s m args below meth c H locs cells slots Q (F0 m pc ls st0) := by
  have hFc := va_free (wc := wc) hD hS hA isC hC
  refine va_callv hrun hS (fun q _ h => hFc q h) hFc (fun u t H1 locs1 ht hvm hw hB hz1 hk1 hS1 => ?_)
  obtain ⟨hP1, hK1, hD1⟩ := hB
  rw [ht] at hP1
  obtain ⟨hP2, hD2⟩ := va_join hP hD isC isR hC hR hn hdis hk1 hFc hP1 hD1
  exact kk H1 locs1 hP2 hD2 hS1
theorem kr_i {cc : ByteArray} {v : Int32} (hx : p.tables.exec = Jvm.exec) (hb : c.code = cc) (hr : meth.sig.returnType = some .int) (hlocks : meth.locks = false) (hK : va_K D cl tys s) (hS : va_S A0 s.heap H locs) (hP : va_P D cl w1 H) (hD : va_D A0 w1) (hdg : decode cc pc = .ok (.ireturn, 1)) : W p l e R s m args below meth c H locs cells slots (MQ below (c_Qi D cl tys w1 A0 v) args s cells slots A0) (F0 m pc ls [.int v]) :=
  W.iret (v := v) hx hb hr (fun t ht hW => ⟨⟨v, (), rfl, rfl, by rw [ht]; exact hP, va_K.moved hW.alike hK, hD⟩, hS.F ht⟩) hS.2.2 hdg
theorem kr_z {cc : ByteArray} {v : Int32} (hx : p.tables.exec = Jvm.exec) (hb : c.code = cc) (hr : meth.sig.returnType = some .boolean) (hlocks : meth.locks = false) (hv : narrow .boolean (.int v) = .int v) (hK : va_K D cl tys s) (hS : va_S A0 s.heap H locs) (hP : va_P D cl w1 H) (hD : va_D A0 w1) (hdg : decode cc pc = .ok (.ireturn, 1)) : W p l e R s m args below meth c H locs cells slots (MQ below (c_Qi D cl tys w1 A0 v) args s cells slots A0) (F0 m pc ls [.int v]) :=
  W.zret (v := v) hx hb hr hv (fun t ht hW => ⟨⟨v, (), rfl, rfl, by rw [ht]; exact hP, va_K.moved hW.alike hK, hD⟩, hS.F ht⟩) hS.2.2 hdg
theorem kr_v {cc : ByteArray} (hx : p.tables.exec = Jvm.exec) (hb : c.code = cc) (hr : meth.sig.returnType = none) (hlocks : meth.locks = false) (hK : va_K D cl tys s) (hS : va_S A0 s.heap H locs) (hP : va_P D cl w1 H) (hD : va_D A0 w1) (hdg : decode cc pc = .ok (.return_, 1)) : W p l e R s m args below meth c H locs cells slots (MQ below (c_Qv D cl tys w1 A0) args s cells slots A0) (F0 m pc ls []) :=
  W.vret hx hb hr (fun t ht hW => ⟨⟨(), rfl, trivial, by rw [ht]; exact hP, va_K.moved hW.alike hK, hD⟩, hS.F ht⟩) hS.2.2 hdg
/-- a method's entry: its contract out of the walk from pc 0 -/
theorem k_ent {y : MethodName} {Ws Ws' : List Cond} {rm : Room} {cc : ByteArray} {maxL mc ms sz : Nat} {ret : Option FieldType} {W0 : va_W} {av : List Value} {Qc : (Nat → Prop) → Array Value → State → Outcome → State → Prop} (hy : plainName y.cls = true) (hw : Ws = Cond.code y cc maxL ret :: Ws') (hlen : (lg_sl av).length ≤ maxL)
    (body : ∀ (p : Program) (e : Env) (s : State) (m : MethodId) (below : List Frame) (meth : Method) (c : Code) (A : Nat → Prop), p.tables.exec = Jvm.exec → c.code = cc → meth.sig.returnType = ret → s.vm.findClass y.cls = some m.cls → (∀ w ∈ Ws, w.before av.toArray s = true) → c.maxLocals = maxL → meth.locks = false → meth.name = y.name → s.heap.size = sz → (∀ q, s.heap.size ≤ q → A q) → va_K D cl tys s → ∀ (H : Heap) (locs : List Loc), va_P D cl W0 H → va_D A W0 → va_S A s.heap H locs → ∀ ls : Array Slot, lv_has ls maxL (lv_args 0 av) →
      W p l e rm s m av.toArray below meth c H locs 0 0 (MQ below (Qc A) av.toArray s mc ms A) (F0 m 0 ls [])) : Met l y Ws rm (c_Pre D cl tys W0 sz av) (Qc (va_A W0 sz)) mc ms (va_A W0 sz) := by
  refine Met.ofW (cc := cc) (maxL := maxL) (ret := ret) hy hw ?_
  intro p e s m args below meth c s₁ B hml hv
  obtain ⟨rfl, hsz, hP, hK, hD0⟩ := hv
  have hl := lv_entry av hlen
  rw [lg_entry_eq]
  subst hsz
  exact body p e s m below meth c (va_A W0 s.heap.size) B.exec B.bytes B.returns (findClass_of_methodNamed B.named) (atoms_spec (ws := Ws) B.pre) hml B.notSynchronized (name_of_methodNamed B.named B.method).1 rfl (fun q h => Or.inr h) hK s.heap [] hP (hD0.self (sz := s.heap.size)) va_S.rf _ hl
end KR
/-! Rows for what is made: arrays and objects. -/
def nab (n : Int32) (lim : Nat) : Bool := decide (¬ n < 0) && decide (n.toNatClampNeg ≤ lim)
theorem og_na {n : Int32} {lim : Nat} (h : nab n lim = true) : ¬ n < 0 ∧ n.toNatClampNeg ≤ lim := by
  simpa [nab] using h
theorem ka_eq {D : va_G} {cl : List vw_C} {cA cB : ClassId} {s : State} (h : va_K D cl ([(cA, .int)] ++ [(cB, .int)]) s) : cB = cA := by
  have a := (h.2 0 (cA, .int) rfl).2
  have b := (h.2 1 (cB, .int) rfl).2
  simp only [va_RA] at a b
  rw [a] at b
  exact (Option.some.inj b).symm
theorem ka_int {args : Array Value} {s : State} {D : va_G} {cl : List vw_C} (h : (Cond.arrayClass .int).before args s = true) (hK : va_K D cl [] s) : ∃ cA : ClassId, va_K D cl [(cA, .int)] s := by
  obtain ⟨cA, kA, comp, h1, h2, h3⟩ := Cond.arrayClass_spec h
  refine ⟨cA, hK.1, fun k q hq => ?_⟩
  have hz : k < 1 := (List.getElem?_eq_some_iff.mp hq).1
  rw [show k = 0 by omega] at hq
  cases hq
  exact ⟨fun n z => ⟨fun k h => (by cases h), kA, h2, comp, h3⟩, h1⟩
def c_Qn {S : Type} (D : va_G) (cl : List vw_C) (tys : List (ClassId × FieldType)) (W1 : S → va_W) (A : Nat → Prop) : Array Value → State → Outcome → State → Prop := va_Qv (fun (_ : S) => True) (fun u t => va_P D cl (W1 u) t.heap ∧ va_K D cl tys t ∧ va_D A (W1 u)) A
section KN
variable {p : Program} {l : Launch} {e : Env} {R : Room} {s : State} {m : MethodId} {args : Array Value} {below : List Frame} {meth : Method} {c : Code} {H H0 : Heap} {locs : List Loc} {cells slots mc ms : Nat} {Q : State → Prop} {D : va_G} {cl : List vw_C} {tys : List (ClassId × FieldType)} {A0 : Nat → Prop} {ws wc wr : va_W} {pc : Nat} {ls : Array Slot} {rest st0 : List Value} {a : Array Value} {S : Type} {w1 : S → va_W}
theorem kc_n (isC isR : List Nat) (hrun : va_Run p l e R s m args below meth c H locs cells slots mc ms (F0 m pc ls st0) rest (c_Qn D cl tys w1 (va_A wc H.size) a) (va_A wc H.size)) (hP : va_P D cl ws H) (hD : va_D A0 ws) (hS : va_S A0 H0 H locs) (hA : ∀ q, H0.size ≤ q → A0 q) (hC : isC.map (fun i => ws[i]?) = wc.map some) (hR : isR.map (fun i => ws[i]?) = wr.map some) (hn : va_nd isR = true) (hdis : ∀ i ∈ isR, i ∉ isC)
    (kk : ∀ (u : S) (H1 : Heap) (locs1 : List Loc), va_P D cl (wr ++ w1 u) H1 → va_D A0 (wr ++ w1 u) → va_S A0 H0 H1 locs1 → W p l e R s m args below meth c H1 locs1 (cells + mc) (slots + ms) Q (F0 m (pc + 3) ls rest)) : W p l e R s m args below meth c H locs cells slots Q (F0 m pc ls st0) := by
  have hFc := va_free (wc := wc) hD hS hA isC hC
  refine va_callv hrun hS (fun q _ h => hFc q h) hFc (fun u t H1 locs1 ht hvm hw hB hz1 hk1 hS1 => ?_)
  obtain ⟨hP1, hK1, hD1⟩ := hB
  rw [ht] at hP1
  obtain ⟨hP2, hD2⟩ := va_join hP hD isC isR hC hR hn hdis hk1 hFc hP1 hD1
  exact kk u H1 locs1 hP2 hD2 hS1
theorem kr_n {cc : ByteArray} (u : S) (hx : p.tables.exec = Jvm.exec) (hb : c.code = cc) (hr : meth.sig.returnType = none) (hlocks : meth.locks = false) (hK : va_K D cl tys s) (hS : va_S A0 s.heap H locs) (hP : va_P D cl (w1 u) H) (hD : va_D A0 (w1 u)) (hdg : decode cc pc = .ok (.return_, 1)) : W p l e R s m args below meth c H locs cells slots (MQ below (c_Qn D cl tys w1 A0) args s cells slots A0) (F0 m pc ls []) :=
  W.vret hx hb hr (fun t ht hW => ⟨⟨u, rfl, trivial, by rw [ht]; exact hP, va_K.moved hW.alike hK, hD⟩, hS.F ht⟩) hS.2.2 hdg
end KN
