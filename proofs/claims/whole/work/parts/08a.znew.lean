/-! Making arrays; constructors; methods that catch. -/
theorem w_objI : (Cond.instanceMethod objectInit) ∈ zU := zU_mem 41 (by decide +kernel) rfl
theorem w_objC : (Cond.code objectInit ⟨#[0xb1]⟩ 1 none) ∈ zU := zU_mem 42 (by decide +kernel) rfl
theorem w_obj7 : (Cond.methodLink RX7 1 objectInit) ∈ zU := zU_mem 40 (by decide +kernel) rfl
theorem w_obj4 : (Cond.methodLink RX4 1 objectInit) ∈ zU := zU_mem 48 (by decide +kernel) rfl
theorem w_obj3 : (Cond.methodLink RX3 1 objectInit) ∈ zU := zU_mem 69 (by decide +kernel) rfl
theorem w_obj6 : (Cond.methodLink RX6 3 objectInit) ∈ zU := zU_mem 75 (by decide +kernel) rfl
theorem w_obj8 : (Cond.methodLink RX8 1 objectInit) ∈ zU := zU_mem 733 (by decide +kernel) rfl
theorem n_X4 : (Cond.methodLinkNest RX7 19 yX4_init RX7) ∈ zL := zL_mem 45 (by decide +kernel) rfl
theorem n_X3 : (Cond.methodLinkNest RX7 26 yX3_init RX7) ∈ zL := zL_mem 66 (by decide +kernel) rfl
theorem n_X6 : (Cond.methodLinkNest RX3 9 yX6_init RX7) ∈ zL := zL_mem 72 (by decide +kernel) rfl
section ZN
variable {p : Program} {l : Launch} {e : Env} {R : Room} {s : State} {m : MethodId} {args : Array Value} {below : List Frame} {meth : Method} {c : Code} {H : Heap} {locs : List Loc} {cells slots : Nat} {Q : State → Prop} {cc : ByteArray} {pc : Nat} {ls : Array Slot} {rest : List Value}
variable {D : va_G} {T : Nat → ClassId} {A : Nat → Prop} {ws : va_W} {H0 : Heap}
theorem za_new {atype : ArrayType} {ty : FieldType} (t0 : Nat) {cT : ClassId} (hx : p.tables.exec = Jvm.exec) (hb : c.code = cc) (hty : newarray.typeOf atype = ty) (ht : (zT T)[t0]? = some (cT, ty)) (hob : ∀ C, ty ≠ .object C) (harr : (Cond.arrayClass ty).before args s = true)
    (hK : va_K D zcl (zT T) s) (hP : va_P D zcl ws H) (hD : va_D A ws) (hS : va_S A H0 H locs) (hA : ∀ q, H0.size ≤ q → A q) {n : Int32} {N' : Nat} (a0 : vp_A) (ha : vp_cell cT a0 = arrV cT N' (fun _ => defaultValue ty)) (ha' : ∀ cA : ClassId, vp_cell cA a0 = arrV cA N' (fun _ => defaultValue ty)) (hn : ¬ n < 0) (hN : n.toNatClampNeg = N') (hbytes : N' * componentBytes ty ≤ 536870912) (hcells : cells + 1 ≤ R.cells) (hslots : slots + N' ≤ R.slots) (hdg : decode cc pc = .ok (.newarray atype, 2))
    (kk : ∀ (q : Nat) (H1 : Heap), va_P D zcl (ws ++ [(q, .inl (cT, a0))]) H1 → va_D A (ws ++ [(q, .inl (cT, a0))]) → va_S A H0 H1 locs → W p l e R s m args below meth c H1 locs (cells + 1) (slots + N') Q (F0 m (pc + 2) ls (.ref q :: rest))) : W p l e R s m args below meth c H locs cells slots Q (F0 m pc ls (.int n :: rest)) := by
  refine va_newa hx hb (by rw [hty]; exact harr) hty hK hP hD hS hA ha' hn hN hbytes hcells hslots hdg (fun q cA H1 hK1 hP1 hD1 hS1 => ?_)
  have h1 := (hK1.2 4 (cA, ty) rfl).2
  have h2 := (hK.2 t0 _ ht).2
  have e1 : cA = cT := by
    cases ty with
    | object C => exact absurd rfl (hob C)
    | _ =>
      have h3 : s.vm.findClass _ = some cA := h1
      have h4 : s.vm.findClass _ = some cT := h2
      exact Option.some.inj (h3.symm.trans h4)
  subst e1
  exact kk q H1 hP1 hD1 hS1
end ZN
theorem zc_int {cT : ClassId} {N : Nat} {f : Nat → Int32} (h : ∀ k, f k = 0) : vp_cell cT (N, .inl f) = arrV cT N (fun _ => defaultValue .int) := by
  rw [vp_cell_i]
  congr 1
  funext k
  rw [h]
  rfl
theorem zc_bool {cT : ClassId} {N : Nat} {f : Nat → Int32} (h : ∀ k, f k = 0) : vp_cell cT (N, .inl f) = arrV cT N (fun _ => defaultValue .boolean) := by
  rw [vp_cell_i]
  congr 1
  funext k
  rw [h]
  rfl
theorem zc_long {cT : ClassId} {N : Nat} {f : Nat → Int64} (h : ∀ k, f k = 0) : vp_cell cT (N, .inr (.inl f)) = arrV cT N (fun _ => defaultValue .long) := by
  rw [vp_cell_l]
  congr 1
  funext k
  rw [h]
  rfl
/-- a method that makes: what it needs of the state besides -/
def Hx {X : Type} (l : Launch) (y : MethodName) (cc : ByteArray) (maxL : Nat) (ret : Option FieldType) (k mc ms : Nat) (D : va_G) (T : Nat → ClassId) (av : List Value) (ws : va_W) (r : Option Value) (ws' : X → va_W) : Prop :=
  ∀ sz : Nat, Met l y (zW y cc maxL ret) (zR k mc ms) (zPx D T av ws sz) (zQh D (va_A ws sz) r ws') mc ms (va_A ws sz)
theorem Hx.of {X : Type} {l : Launch} {y : MethodName} {cc : ByteArray} {maxL : Nat} {ret : Option FieldType} {k mc ms : Nat} {D : va_G} {T : Nat → ClassId} {av : List Value} {ws : va_W} {r : Option Value} {ws' : X → va_W} (hy : plainName y.cls = true) (hn : (lg_sl av).length ≤ maxL)
    (body : ∀ (p : Program) (e : Env) (s : State) (m : MethodId) (args : Array Value) (below : List Frame) (meth : Method) (c : Code), p.tables.exec = Jvm.exec → c.code = cc → meth.sig.returnType = ret → c.maxLocals = maxL → s.vm.findClass y.cls = some m.cls → meth.name = y.name → (∀ w ∈ zU, w.before args s = true) → meth.locks = false →
      ∀ A : Nat → Prop, (∀ q : Nat, s.heap.size ≤ q → A q) → va_P D zcl ws s.heap → va_K D zcl (zT T) s → va_D A ws → va_S A s.heap s.heap [] → zX A s s.heap → ∀ ls : Array Slot, lv_has ls maxL (lv_args 0 av) →
      W p l e (zR k mc ms) s m args below meth c s.heap [] 0 0 (MQ below (zQh D A r ws') args s mc ms A) (F0 m 0 ls [])) : Hx l y cc maxL ret k mc ms D T av ws r ws' := by
  intro sz
  refine Met.ofW (cc := cc) (maxL := maxL) (ret := ret) hy rfl ?_
  intro p e s m args below meth c s₁ B hml hv
  obtain ⟨rfl, hsz, hP, hK, hD0, hZ⟩ := hv
  subst hsz
  have hl := lv_entry av (n := maxL) hn
  have hw := atoms_spec (ws := zW y cc maxL ret) B.pre
  rw [lg_entry_eq]
  exact body p e s m _ below meth c B.exec B.bytes B.returns hml (findClass_of_methodNamed B.named) (name_of_methodNamed B.named B.method).1 (fun w h => hw w (List.mem_cons_of_mem _ h)) B.notSynchronized (va_A ws s.heap.size) (fun q h => Or.inr h) hP hK hD0.self va_S.rf hZ _ hl
section ZI
variable {p : Program} {l : Launch} {e : Env} {R : Room} {s : State} {m : MethodId} {args : Array Value} {below : List Frame} {meth : Method} {c : Code} {H : Heap} {locs : List Loc} {cells slots : Nat} {Q : State → Prop} {cc : ByteArray} {nL : Nat} {own : String} {pc : Nat} {ls : Array Slot} {st0 rest : List Value}
variable {D : va_G} {T : Nat → ClassId} {A : Nat → Prop} {ws : va_W}
/-- a constructor called -/
theorem zh_i {X : Type} {idx : Nat} {y : MethodName} {bytes : ByteArray} {maxL : Nat} {n k mc ms : Nat} {b : Nat} {av : List Value} {wc : va_W} {w1 : X → va_W} (hx : p.tables.exec = Jvm.exec) (hb : c.code = cc) (hml : c.maxLocals = nL) (hown : s.vm.findClass own = some m.cls) (hts : ∀ w ∈ zU, w.before args s = true) (hk : zB own idx y bytes maxL none n) (hyi : y.name = "<init>") (hin : Cond.instanceMethod y ∈ zU) (hM : Hx l y bytes maxL none k mc ms D T (.ref b :: av) wc none w1)
    (hR0 : k + 1 ≤ R.frames ∧ 8 + (maxL + 11) + (60 * k + 60) ≤ R.locals) (hn0 : av.length = n) (hsize : ls.size = nL) (rest : List Value) (hst : st0 = av.reverse ++ .ref b :: rest) (hW : (rest.map fun v => v.category).sum ≤ 8) (hdg : decode cc pc = .ok (.invokespecial idx, 3)) (hf : cells + mc ≤ R.cells ∧ slots + ms ≤ R.slots)
    (hK : va_K D zcl (zT T) s) (hP : va_P D zcl ws H) (hD : va_D A ws) (hS : va_S A s.heap H locs) (hA : ∀ q : Nat, s.heap.size ≤ q → A q) (hZ : zX A s s.heap)
    (isC isR : List Nat) {wr : va_W} (hC : isC.map (fun i => ws[i]?) = wc.map some) (hR : isR.map (fun i => ws[i]?) = wr.map some) (hn : va_nd isR = true) (hdis : ∀ i ∈ isR, i ∉ isC) (hnC : va_nd isC = true)
    (isN : List Nat) (wN : X → va_W) (hnd : va_nd isN = true) (hN : ∀ x : X, isN.map (fun i => (wr ++ w1 x)[i]?) = (wN x).map some)
    (kk : ∀ (x : X) (H1 : Heap) (locs1 : List Loc), va_P D zcl (wN x) H1 → va_D A (wN x) → va_S A s.heap H1 locs1 → W p l e R s m args below meth c H1 locs1 (cells + mc) (slots + ms) Q (F0 m (pc + 3) ls rest)) : W p l e R s m args below meth c H locs cells slots Q (F0 m pc ls st0) := by
  have hPc := hP.sub isC (zfm hC)
  have hDc := hD.sub isC hnC hC
  have hFc := va_free (wc := wc) hD hS hA isC hC
  exact zh_back (k := k) (mc := mc) (ms := ms) (wc := wc) (va_runI (Ts := zU) (nL := nL) ⟨hx, hb, hml, hown, hts⟩ (hM H.size) ⟨hk.callB hts hR0, hyi, hts _ hin⟩ ⟨zPx_blind, fun U hU hW => ⟨rfl, by rw [hU], by rw [hU]; exact hPc, va_K.moved hW.alike hK, hDc.weaken (fun _ _ _ _ => trivial), by rw [hU]; exact zX.warm hW ((hZ.kept hS.2.1).narrow hFc)⟩⟩ rfl hn0 hsize hst (lv_room hW) hdg hf) hP hD hS hA isC isR hC hR hn hdis isN wN hnd hN kk
/-- a nest mate's own constructor called -/
theorem zh_in {X : Type} {idx : Nat} {host : String} {y : MethodName} {bytes : ByteArray} {maxL : Nat} {n k mc ms : Nat} {b : Nat} {av : List Value} {wc : va_W} {w1 : X → va_W} (hx : p.tables.exec = Jvm.exec) (hb : c.code = cc) (hml : c.maxLocals = nL) (hown : s.vm.findClass own = some m.cls) (hts : ∀ w ∈ zU, w.before args s = true) (hk : Cond.methodLinkNest own idx y host ∈ zL) (hco : Cond.code y bytes maxL none ∈ zU) (hini : Cond.initialized y.cls ∈ zU) (hyd : y.cls ≠ "java/lang/invoke/MethodHandle" ∧ y.cls ≠ "java/lang/invoke/VarHandle" ∧ (parseMethodDescriptor y.desc).map (fun d => d.parameters.length) = some n) (hyi : y.name = "<init>") (hin : Cond.instanceMethod y ∈ zU) (hM : Hx l y bytes maxL none k mc ms D T (.ref b :: av) wc none w1)
    (hR0 : k + 1 ≤ R.frames ∧ 8 + (maxL + 11) + (60 * k + 60) ≤ R.locals) (hn0 : av.length = n) (hsize : ls.size = nL) (rest : List Value) (hst : st0 = av.reverse ++ .ref b :: rest) (hW : (rest.map fun v => v.category).sum ≤ 8) (hdg : decode cc pc = .ok (.invokespecial idx, 3)) (hf : cells + mc ≤ R.cells ∧ slots + ms ≤ R.slots)
    (hK : va_K D zcl (zT T) s) (hP : va_P D zcl ws H) (hD : va_D A ws) (hS : va_S A s.heap H locs) (hA : ∀ q : Nat, s.heap.size ≤ q → A q) (hZ : zX A s s.heap)
    (isC isR : List Nat) {wr : va_W} (hC : isC.map (fun i => ws[i]?) = wc.map some) (hR : isR.map (fun i => ws[i]?) = wr.map some) (hn : va_nd isR = true) (hdis : ∀ i ∈ isR, i ∉ isC) (hnC : va_nd isC = true)
    (isN : List Nat) (wN : X → va_W) (hnd : va_nd isN = true) (hN : ∀ x : X, isN.map (fun i => (wr ++ w1 x)[i]?) = (wN x).map some)
    (kk : ∀ (x : X) (H1 : Heap) (locs1 : List Loc), va_P D zcl (wN x) H1 → va_D A (wN x) → va_S A s.heap H1 locs1 → W p l e R s m args below meth c H1 locs1 (cells + mc) (slots + ms) Q (F0 m (pc + 3) ls rest)) : W p l e R s m args below meth c H locs cells slots Q (F0 m pc ls st0) := by
  have hPc := hP.sub isC (zfm hC)
  have hDc := hD.sub isC hnC hC
  have hFc := va_free (wc := wc) hD hS hA isC hC
  refine zh_back (k := k) (mc := mc) (ms := ms) (wc := wc) (va_runIN (Ts := zU) (nL := nL) (host := host) (n := n) ⟨hx, hb, hml, hown, hts⟩ (hM H.size) ⟨⟨⟨rfl, rfl, hR0.1, hR0.2, zW_pay hts hco, List.mem_cons_self⟩, hts _ hco, hts _ hini, ⟨hyd.1, hyd.2.1⟩, fun sig h => ?_, va_Nw.use rfl (hZ.2.2.1 _ hk)⟩, hyi, hts _ hin⟩ ⟨zPx_blind, fun U hU hW => ⟨rfl, by rw [hU], by rw [hU]; exact hPc, va_K.moved hW.alike hK, hDc.weaken (fun _ _ _ _ => trivial), by rw [hU]; exact zX.warm hW ((hZ.kept hS.2.1).narrow hFc)⟩⟩ rfl hn0 hsize hst (lv_room hW) hdg hf) hP hD hS hA isC isR hC hR hn hdis isN wN hnd hN kk
  have h2 := hyd.2.2
  rw [h] at h2
  exact (Option.some.inj h2).symm
end ZI
/-- the classes that a handler passes by -/
def zPr : List (String × String) := [("java/lang/IllegalArgumentException", "java/lang/IndexOutOfBoundsException"), ("java/lang/ArithmeticException", "java/lang/IndexOutOfBoundsException"), ("java/lang/ArithmeticException", "java/lang/IllegalArgumentException"), ("java/lang/IllegalStateException", "java/lang/IndexOutOfBoundsException"), ("java/lang/IllegalStateException", "java/lang/IllegalArgumentException"), ("java/util/NoSuchElementException", "java/lang/IndexOutOfBoundsException"), ("java/lang/ArithmeticException", "java/util/NoSuchElementException")]
def zNc (U : State) : Prop := ∀ q ∈ zPr, va_Nc q.1 q.2 U
theorem va_Nc.alike {C T : String} {u U : State} (hv : u.vm.Alike U.vm) (h : va_Nc C T u) : va_Nc C T U := by
  obtain ⟨c, t, h1, h2, h3⟩ := h
  exact ⟨c, t, by rw [hv.findClass]; exact h1, by rw [hv.findClass]; exact h2, by rw [hv.assignable]; exact h3⟩
theorem zNc.alike {u U : State} (hv : u.vm.Alike U.vm) (h : zNc u) : zNc U := fun q hq => va_Nc.alike hv (h q hq)
def zPy (D : va_G) (T : Nat → ClassId) (av : List Value) (ws : va_W) (sz : Nat) : Array Value → State → Prop := va_Pc av (fun U => U.heap.size = sz ∧ va_P D zcl ws U.heap ∧ va_K D zcl (zT T) U ∧ va_D (fun _ => True) ws ∧ zX (va_A ws sz) U U.heap ∧ zNc U)
theorem zPy_blind {D : va_G} {T : Nat → ClassId} {av : List Value} {ws : va_W} {sz : Nat} : FrameBlind (zPy D T av ws sz) := fun a U g mk q => by
  obtain ⟨q0, q1, qP, qK, qD, qX, qN⟩ := q
  exact ⟨q0, q1, qP, va_K.moved (u := U) (U := U.calling g mk a) (Vm.Alike.refl U.vm) qK, qD, zX.same (u := U) (U := U.calling g mk a) rfl qX, zNc.alike (u := U) (U := U.calling g mk a) (Vm.Alike.refl U.vm) qN⟩
abbrev zV (y : MethodName) (cc : ByteArray) (maxL : Nat) (ret : Option FieldType) (hh : List (Nat × Nat × Nat × Nat)) : List Cond := .codeWith y cc maxL ret hh :: zU
/-- a method that catches -/
def Cm {X : Type} (l : Launch) (y : MethodName) (cc : ByteArray) (maxL : Nat) (ret : Option FieldType) (hh : List (Nat × Nat × Nat × Nat)) (k : Nat) (D : va_G) (T : Nat → ClassId) (av : List Value) (ws : va_W) (r : Option Value) (ws' : X → va_W) : Prop :=
  ∀ sz : Nat, Met l y (zV y cc maxL ret hh) (zR k 1 6) (zPy D T av ws sz) (zQh D (va_A ws sz) r ws') 1 6 (va_A ws sz)
theorem Cm.of {X : Type} {l : Launch} {y : MethodName} {cc : ByteArray} {maxL : Nat} {ret : Option FieldType} {hh : List (Nat × Nat × Nat × Nat)} {k : Nat} {D : va_G} {T : Nat → ClassId} {av : List Value} {ws : va_W} {r : Option Value} {ws' : X → va_W} (hy : plainName y.cls = true) (hn : (lg_sl av).length ≤ maxL)
    (body : ∀ (p : Program) (e : Env) (s : State) (m : MethodId) (args : Array Value) (below : List Frame) (meth : Method) (c : Code), p.tables.exec = Jvm.exec → c.code = cc → meth.sig.returnType = ret → c.maxLocals = maxL → s.vm.findClass y.cls = some m.cls → (∀ w ∈ zU, w.before args s = true) → meth.locks = false → c.exceptionTable.toList = tableOf hh →
      ∀ A : Nat → Prop, (∀ q : Nat, s.heap.size ≤ q → A q) → va_P D zcl ws s.heap → va_K D zcl (zT T) s → va_D A ws → va_S A s.heap s.heap [] → zX A s s.heap → zNc s → ∀ ls : Array Slot, lv_has ls maxL (lv_args 0 av) →
      W p l e (zR k 1 6) s m args below meth c s.heap [] 0 0 (MQ below (zQh D A r ws') args s 1 6 A) (F0 m 0 ls [])) : Cm l y cc maxL ret hh k D T av ws r ws' := by
  intro sz
  refine va_MetW (cc := cc) (maxL := maxL) (ret := ret) (hh := hh) hy rfl ?_
  intro p e s m args below meth c s₁ B hml hv
  obtain ⟨rfl, hsz, hP, hK, hD0, hZ, hN⟩ := hv
  subst hsz
  have hl := lv_entry av (n := maxL) hn
  have hw := atoms_spec (ws := zV y cc maxL ret hh) B.pre
  rw [lg_entry_eq]
  exact body p e s m _ below meth c B.exec B.bytes B.returns hml (findClass_of_methodNamed B.named) (fun w h => hw w (List.mem_cons_of_mem _ h)) B.notSynchronized (vx_table (x := y) B (hw _ List.mem_cons_self)) (va_A ws s.heap.size) (fun q h => Or.inr h) hP hK hD0.self va_S.rf hZ hN _ hl
def zBC (own : String) (idx : Nat) (y : MethodName) (bytes : ByteArray) (maxL : Nat) (ret : Option FieldType) (hh : List (Nat × Nat × Nat × Nat)) (n : Nat) : Prop :=
  Cond.codeWith y bytes maxL ret hh ∈ zU ∧ Cond.initialized y.cls ∈ zU ∧ Cond.methodLink own idx y ∈ zU ∧ Cond.static y ∈ zU ∧ (y.cls ≠ "java/lang/invoke/MethodHandle" ∧ y.cls ≠ "java/lang/invoke/VarHandle") ∧ (parseMethodDescriptor y.desc).map (fun d => d.parameters.length) = some n
section ZC
variable {p : Program} {l : Launch} {e : Env} {R : Room} {s : State} {m : MethodId} {args : Array Value} {below : List Frame} {meth : Method} {c : Code} {H : Heap} {locs : List Loc} {cells slots : Nat} {Q : State → Prop} {cc : ByteArray} {nL : Nat} {own : String} {pc : Nat} {ls : Array Slot} {st0 rest : List Value}
variable {D : va_G} {T : Nat → ClassId} {A : Nat → Prop} {ws : va_W}
theorem zh_c {X : Type} {idx : Nat} {y : MethodName} {bytes : ByteArray} {maxL : Nat} {ret : Option FieldType} {hh : List (Nat × Nat × Nat × Nat)} {n k : Nat} {av : List Value} {wc : va_W} {r : Option Value} {w1 : X → va_W} (hx : p.tables.exec = Jvm.exec) (hb : c.code = cc) (hml : c.maxLocals = nL) (hown : s.vm.findClass own = some m.cls) (hts : ∀ w ∈ zU, w.before args s = true) (hk : zBC own idx y bytes maxL ret hh n) (hM : Cm l y bytes maxL ret hh k D T av wc r w1)
    (hR0 : k + 1 ≤ R.frames ∧ 8 + (maxL + 11) + (60 * k + 60) ≤ R.locals) (hn0 : av.length = n) (hsize : ls.size = nL) (rest : List Value) (hst : st0 = av.reverse ++ rest) (hW : (rest.map fun v => v.category).sum ≤ 8) (hdg : decode cc pc = .ok (.invokestatic idx, 3)) (hf : cells + 1 ≤ R.cells ∧ slots + 6 ≤ R.slots)
    (hK : va_K D zcl (zT T) s) (hP : va_P D zcl ws H) (hD : va_D A ws) (hS : va_S A s.heap H locs) (hA : ∀ q : Nat, s.heap.size ≤ q → A q) (hZ : zX A s s.heap) (hN0 : zNc s)
    (isC isR : List Nat) {wr : va_W} (hC : isC.map (fun i => ws[i]?) = wc.map some) (hR : isR.map (fun i => ws[i]?) = wr.map some) (hn : va_nd isR = true) (hdis : ∀ i ∈ isR, i ∉ isC) (hnC : va_nd isC = true)
    (isN : List Nat) (wN : X → va_W) (hnd : va_nd isN = true) (hN : ∀ x : X, isN.map (fun i => (wr ++ w1 x)[i]?) = (wN x).map some)
    (kk : ∀ (x : X) (H1 : Heap) (locs1 : List Loc), va_P D zcl (wN x) H1 → va_D A (wN x) → va_S A s.heap H1 locs1 → W p l e R s m args below meth c H1 locs1 (cells + 1) (slots + 6) Q (F0 m (pc + 3) ls (r.toList ++ rest))) : W p l e R s m args below meth c H locs cells slots Q (F0 m pc ls st0) := by
  have hPc := hP.sub isC (zfm hC)
  have hDc := hD.sub isC hnC hC
  have hFc := va_free (wc := wc) hD hS hA isC hC
  obtain ⟨h1, h2, h3, h4, h5, h6⟩ := hk
  refine zh_back (k := k) (mc := 1) (ms := 6) (wc := wc) (vx_runSW (Ts := zU) (nL := nL) (n := n) ⟨hx, hb, hml, hown, hts⟩ (hM H.size) ⟨⟨rfl, rfl, hR0.1, hR0.2, fun w hw a' U hW => ?_, List.mem_cons_self⟩, hts _ h1, hts _ h2, h5, fun sig h => ?_, hts _ h3, hts _ h4⟩ ⟨zPy_blind, fun U hU hW => ⟨rfl, by rw [hU], by rw [hU]; exact hPc, va_K.moved hW.alike hK, hDc.weaken (fun _ _ _ _ => trivial), by rw [hU]; exact zX.warm hW ((hZ.kept hS.2.1).narrow hFc), zNc.alike hW.alike hN0⟩⟩ rfl hn0 hsize hst (lv_room hW) hdg hf) hP hD hS hA isC isR hC hR hn hdis isN wN hnd hN kk
  · have hm : w ∈ zU := (List.mem_cons.mp hw).elim (fun e => e ▸ h1) id
    exact word_at hW (good_of_word (zU_good hm)) (hts w hm)
  · rw [h] at h6
    exact (Option.some.inj h6).symm
/-- caught by the row i of the table, those ahead name other classes -/
theorem zc_catch {hh : List (Nat × Nat × Nat × Nat)} {E : String} {ce : Cell} {q9 : Addr} (hown : s.vm.findClass own = some m.cls) (hts : ∀ w ∈ zU, w.before args s = true) (ht : c.exceptionTable.toList = tableOf hh) (hZ : zX A s s.heap) (hN : zNc s) (hce : H[q9]? = some ce) (hv : ce.vm = .none) (hcl : s.vm.findClass E = some ce.cls)
    (pre : List ExceptionTableEntry) (x : ExceptionTableEntry) (suf : List ExceptionTableEntry) (hsplit : tableOf hh = pre ++ x :: suf)
    (hpass : ∀ z ∈ pre, z.catchType ≠ 0 ∧ ∃ nm : String, Cond.classLink own z.catchType nm ∈ zU ∧ (E, nm) ∈ zPr) (hx : covers x pc = true) (h0 : x.catchType ≠ 0)
    (hlink : Cond.classLink own x.catchType E ∈ zU) (hcast : Cond.castable E E ∈ zL)
    (kk : W p l e R s m args below meth c H locs cells slots Q (F0 m x.handlerPc ls [.ref q9])) : vx_W p l e R s m args below meth c H locs cells slots Q (F0 m pc ls rest) q9 :=
  vx_catch hown pre x suf (ht.trans hsplit) (fun z hz => Or.inr ⟨(hpass z hz).1, (hpass z hz).2.elim fun nm h => ⟨nm, hts _ h.1, hN _ h.2⟩⟩) hx h0 (hts _ hlink) (va_Nw.use rfl (hZ.2.2.1 _ hcast)) hce hv hcl kk
end ZC
