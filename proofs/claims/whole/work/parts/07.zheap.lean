/-! Methods over cells: one shape of contract (what the cells are behind the call: one of a family), one row for each kind of call. -/
abbrev zcl : List vw_C := [(RX3, TX3, 3), (RX4, TX4, 4), (RX6, TX6, 1), (RX7, TX7, 4), (RX8, TX8, 9)]
abbrev zT (T : Nat → ClassId) : List (ClassId × FieldType) := [(T 0, .int), (T 1, .long), (T 2, .boolean), (T 3, .double)]
def zPc (D : va_G) (T : Nat → ClassId) (av : List Value) (ws : va_W) (sz : Nat) : Array Value → State → Prop := va_Pc av (fun U => U.heap.size = sz ∧ va_P D zcl ws U.heap ∧ va_K D zcl (zT T) U ∧ va_D (fun _ => True) ws)
def zQh {X : Type} (D : va_G) (A : Nat → Prop) (r : Option Value) (ws' : X → va_W) : Array Value → State → Outcome → State → Prop := fun _ st o t =>
  o = .returned r ∧ (∃ x : X, va_P D zcl (ws' x) t.heap ∧ va_D A (ws' x)) ∧ va_F A st t
def Hm {X : Type} (l : Launch) (y : MethodName) (cc : ByteArray) (maxL : Nat) (ret : Option FieldType) (k mc ms : Nat) (D : va_G) (T : Nat → ClassId) (av : List Value) (ws : va_W) (r : Option Value) (ws' : X → va_W) : Prop :=
  ∀ sz : Nat, Met l y (zW y cc maxL ret) (zR k mc ms) (zPc D T av ws sz) (zQh D (va_A ws sz) r ws') mc ms (va_A ws sz)
theorem zPc_blind {D : va_G} {T : Nat → ClassId} {av : List Value} {ws : va_W} {sz : Nat} : FrameBlind (zPc D T av ws sz) := fun a U g mk q => by
  obtain ⟨q0, q1, qP, qK, qD⟩ := q
  exact ⟨q0, q1, qP, va_K.moved (u := U) (U := U.calling g mk a) (Vm.Alike.refl U.vm) qK, qD⟩
theorem Hm.of {X : Type} {l : Launch} {y : MethodName} {cc : ByteArray} {maxL : Nat} {ret : Option FieldType} {k mc ms : Nat} {D : va_G} {T : Nat → ClassId} {av : List Value} {ws : va_W} {r : Option Value} {ws' : X → va_W} (hy : plainName y.cls = true) (hn : (lg_sl av).length ≤ maxL)
    (body : ∀ (p : Program) (e : Env) (s : State) (m : MethodId) (args : Array Value) (below : List Frame) (meth : Method) (c : Code), p.tables.exec = Jvm.exec → c.code = cc → meth.sig.returnType = ret → c.maxLocals = maxL → s.vm.findClass y.cls = some m.cls → meth.name = y.name → (∀ w ∈ zU, w.before args s = true) → meth.locks = false →
      ∀ A : Nat → Prop, (∀ q : Nat, s.heap.size ≤ q → A q) → va_P D zcl ws s.heap → va_K D zcl (zT T) s → va_D A ws → va_S A s.heap s.heap [] → ∀ ls : Array Slot, lv_has ls maxL (lv_args 0 av) →
      W p l e (zR k mc ms) s m args below meth c s.heap [] 0 0 (MQ below (zQh D A r ws') args s mc ms A) (F0 m 0 ls [])) : Hm l y cc maxL ret k mc ms D T av ws r ws' := by
  intro sz
  refine Met.ofW (cc := cc) (maxL := maxL) (ret := ret) hy rfl ?_
  intro p e s m args below meth c s₁ B hml hv
  obtain ⟨rfl, hsz, hP, hK, hD0⟩ := hv
  subst hsz
  have hl := lv_entry av (n := maxL) hn
  have hw := atoms_spec (ws := zW y cc maxL ret) B.pre
  rw [lg_entry_eq]
  exact body p e s m _ below meth c B.exec B.bytes B.returns hml (findClass_of_methodNamed B.named) (name_of_methodNamed B.named B.method).1 (fun w h => hw w (List.mem_cons_of_mem _ h)) B.notSynchronized (va_A ws s.heap.size) (fun q h => Or.inr h) hP hK hD0.self va_S.rf _ hl
theorem zfm {α β : Type} {f : α → Option β} : ∀ {is : List α} {w : List β}, is.map f = w.map some → is.filterMap f = w
  | [], [], _ => rfl
  | [], _ :: _, h => by cases h
  | _ :: _, [], h => by cases h
  | a :: is, b :: w, h => by
    have h1 : f a = some b := by injection h
    have h2 : is.map f = w.map some := by injection h
    rw [List.filterMap_cons, h1, zfm h2]
section ZH
variable {p : Program} {l : Launch} {e : Env} {R : Room} {s : State} {m : MethodId} {args : Array Value} {below : List Frame} {meth : Method} {c : Code} {H : Heap} {locs : List Loc} {cells slots : Nat} {Q : State → Prop} {cc : ByteArray} {nL : Nat} {own : String} {pc : Nat} {ls : Array Slot} {st0 rest : List Value}
variable {D : va_G} {T : Nat → ClassId} {A : Nat → Prop} {ws : va_W}
/-- what comes back from a call over cells -/
theorem zh_back {X : Type} {k mc ms : Nat} {wc : va_W} {r : Option Value} {w1 : X → va_W} {a : Array Value} (hr : va_Run p l e R s m args below meth c H locs cells slots mc ms (F0 m pc ls st0) rest (zQh D (va_A wc H.size) r w1 a) (va_A wc H.size))
    (hP : va_P D zcl ws H) (hD : va_D A ws) (hS : va_S A s.heap H locs) (hA : ∀ q : Nat, s.heap.size ≤ q → A q) (isC isR : List Nat) {wr : va_W} (hC : isC.map (fun i => ws[i]?) = wc.map some) (hR : isR.map (fun i => ws[i]?) = wr.map some) (hn : va_nd isR = true) (hdis : ∀ i ∈ isR, i ∉ isC)
    (isN : List Nat) (wN : X → va_W) (hnd : va_nd isN = true) (hN : ∀ x : X, isN.map (fun i => (wr ++ w1 x)[i]?) = (wN x).map some)
    (kk : ∀ (x : X) (H1 : Heap) (locs1 : List Loc), va_P D zcl (wN x) H1 → va_D A (wN x) → va_S A s.heap H1 locs1 → W p l e R s m args below meth c H1 locs1 (cells + mc) (slots + ms) Q (F0 m (pc + 3) ls (r.toList ++ rest))) : W p l e R s m args below meth c H locs cells slots Q (F0 m pc ls st0) := by
  have hFc := va_free (wc := wc) hD hS hA isC hC
  intro T0 hT X0
  obtain ⟨v, st₀, t, T', L, h0, X', hL, e1, e2, ⟨hv, ⟨x, hP1, hD1⟩, hz, hk⟩, st⟩ := hr T0 hT X0
  cases hv
  rw [h0] at hz hk
  obtain ⟨hP2, hD2⟩ := va_join (H1 := t.heap) hP hD isC isR hC hR hn hdis hk hFc hP1 hD1
  have hS2 : va_S A s.heap t.heap (locs ++ L) := ⟨Nat.le_trans hS.1 hz, fun q h1 h2 => by rw [hk q (Nat.lt_of_lt_of_le h1 hS.1) (fun z => h2 (hFc q z))]; exact hS.2.1 q h1 h2, fun q hq => by
    rcases List.mem_append.mp hq with h | h
    · exact hS.2.2 q h
    · exact hFc _ (hL q h)⟩
  obtain ⟨t2, a1, b1⟩ := kk x t.heap (locs ++ L) (hP2.sub isN (zfm (hN x))) (hD2.sub isN hnd (hN x)) hS2 T' e1 X'
  exact ⟨t2, st t2 a1, b1⟩
/-- .. of a method found by its object -/
theorem zh_v {X : Type} {idx : Nat} {y : MethodName} {bytes : ByteArray} {maxL : Nat} {ret : Option FieldType} {n k mc ms : Nat} {b : Nat} {av : List Value} {wc : va_W} {r : Option Value} {w1 : X → va_W} (hx : p.tables.exec = Jvm.exec) (hb : c.code = cc) (hml : c.maxLocals = nL) (hown : s.vm.findClass own = some m.cls) (hts : ∀ w ∈ zU, w.before args s = true) (hk : zBV own idx y bytes maxL ret n) (hM : Hm l y bytes maxL ret k mc ms D T (.ref b :: av) wc r w1)
    (hR0 : k + 1 ≤ R.frames ∧ 8 + (maxL + 11) + (60 * k + 60) ≤ R.locals) (hn0 : av.length = n) (hsize : ls.size = nL) (rest : List Value) (hst : st0 = av.reverse ++ .ref b :: rest) (hW : (rest.map fun v => v.category).sum ≤ 8) (hdg : decode cc pc = .ok (.invokevirtual idx, 3)) (hf : cells + mc ≤ R.cells ∧ slots + ms ≤ R.slots)
    (hK : va_K D zcl (zT T) s) (hP : va_P D zcl ws H) (hD : va_D A ws) (hS : va_S A s.heap H locs) (hA : ∀ q : Nat, s.heap.size ≤ q → A q) {ci : Nat} {q : vw_C} {fs : List Value} (hc : zcl[ci]? = some q) (hcn : q.1 = y.cls) (he : wc[0]? = some (b, .inr (ci, fs)))
    (isC isR : List Nat) {wr : va_W} (hC : isC.map (fun i => ws[i]?) = wc.map some) (hR : isR.map (fun i => ws[i]?) = wr.map some) (hn : va_nd isR = true) (hdis : ∀ i ∈ isR, i ∉ isC) (hnC : va_nd isC = true)
    (isN : List Nat) (wN : X → va_W) (hnd : va_nd isN = true) (hN : ∀ x : X, isN.map (fun i => (wr ++ w1 x)[i]?) = (wN x).map some)
    (kk : ∀ (x : X) (H1 : Heap) (locs1 : List Loc), va_P D zcl (wN x) H1 → va_D A (wN x) → va_S A s.heap H1 locs1 → W p l e R s m args below meth c H1 locs1 (cells + mc) (slots + ms) Q (F0 m (pc + 3) ls (r.toList ++ rest))) : W p l e R s m args below meth c H locs cells slots Q (F0 m pc ls st0) := by
  have hPc := hP.sub isC (zfm hC)
  have hDc := hD.sub isC hnC hC
  refine zh_back (k := k) (mc := mc) (ms := ms) (wc := wc) (va_runV (Ts := zU) (nL := nL) (C := y.cls) ⟨hx, hb, hml, hown, hts⟩ (hM H.size) ⟨hk.1.callB hts hR0, hts _ hk.2.1, hts _ hk.2.2⟩ ⟨zPc_blind, ?_, fun U hU hW => ⟨rfl, by rw [hU], by rw [hU]; exact hPc, va_K.moved hW.alike hK, hDc.weaken (fun _ _ _ _ => trivial)⟩⟩ rfl hn0 hsize hst (lv_room hW) hdg hf) hP hD hS hA isC isR hC hR hn hdis isN wN hnd hN kk
  rw [← hcn]
  exact va_recv hK hPc hc he
/-- .. of a class's own method -/
theorem zh_s {X : Type} {idx : Nat} {y : MethodName} {bytes : ByteArray} {maxL : Nat} {ret : Option FieldType} {n k mc ms : Nat} {av : List Value} {wc : va_W} {r : Option Value} {w1 : X → va_W} (hx : p.tables.exec = Jvm.exec) (hb : c.code = cc) (hml : c.maxLocals = nL) (hown : s.vm.findClass own = some m.cls) (hts : ∀ w ∈ zU, w.before args s = true) (hk : zBS own idx y bytes maxL ret n) (hM : Hm l y bytes maxL ret k mc ms D T av wc r w1)
    (hR0 : k + 1 ≤ R.frames ∧ 8 + (maxL + 11) + (60 * k + 60) ≤ R.locals) (hn0 : av.length = n) (hsize : ls.size = nL) (rest : List Value) (hst : st0 = av.reverse ++ rest) (hW : (rest.map fun v => v.category).sum ≤ 8) (hdg : decode cc pc = .ok (.invokestatic idx, 3)) (hf : cells + mc ≤ R.cells ∧ slots + ms ≤ R.slots)
    (hK : va_K D zcl (zT T) s) (hP : va_P D zcl ws H) (hD : va_D A ws) (hS : va_S A s.heap H locs) (hA : ∀ q : Nat, s.heap.size ≤ q → A q)
    (isC isR : List Nat) {wr : va_W} (hC : isC.map (fun i => ws[i]?) = wc.map some) (hR : isR.map (fun i => ws[i]?) = wr.map some) (hn : va_nd isR = true) (hdis : ∀ i ∈ isR, i ∉ isC) (hnC : va_nd isC = true)
    (isN : List Nat) (wN : X → va_W) (hnd : va_nd isN = true) (hN : ∀ x : X, isN.map (fun i => (wr ++ w1 x)[i]?) = (wN x).map some)
    (kk : ∀ (x : X) (H1 : Heap) (locs1 : List Loc), va_P D zcl (wN x) H1 → va_D A (wN x) → va_S A s.heap H1 locs1 → W p l e R s m args below meth c H1 locs1 (cells + mc) (slots + ms) Q (F0 m (pc + 3) ls (r.toList ++ rest))) : W p l e R s m args below meth c H locs cells slots Q (F0 m pc ls st0) := by
  have hPc := hP.sub isC (zfm hC)
  have hDc := hD.sub isC hnC hC
  exact zh_back (k := k) (mc := mc) (ms := ms) (wc := wc) (va_runS (Ts := zU) (nL := nL) ⟨hx, hb, hml, hown, hts⟩ (hM H.size) ⟨hk.1.callB hts hR0, hts _ hk.2⟩ ⟨zPc_blind, fun U hU hW => ⟨rfl, by rw [hU], by rw [hU]; exact hPc, va_K.moved hW.alike hK, hDc.weaken (fun _ _ _ _ => trivial)⟩⟩ rfl hn0 hsize hst (lv_room hW) hdg hf) hP hD hS hA isC isR hC hR hn hdis isN wN hnd hN kk
/-- ends -/
theorem zh_iret {X : Type} {v v' : Int32} {ws' : X → va_W} (x : X) (hx : p.tables.exec = Jvm.exec) (hb : c.code = cc) (hr : meth.sig.returnType = some .int) (hlocks : meth.locks = false) (hdg : decode cc pc = .ok (.ireturn, 1)) (hP : va_P D zcl ws H) (hD : va_D A ws) (hS : va_S A s.heap H locs) (hv : v = v') (hw : ws = ws' x) :
    W p l e R s m args below meth c H locs cells slots (MQ below (zQh D A (some (.int v')) ws') args s cells slots A) (F0 m pc ls [.int v]) := by
  subst hv
  subst hw
  exact W.iret hx hb hr (fun t ht _ => ⟨rfl, ⟨x, by rw [ht]; exact hP, hD⟩, hS.F ht⟩) hS.2.2 hdg hlocks
theorem zh_zret {X : Type} {v : Int32} {b : Bool} {ws' : X → va_W} (x : X) (hx : p.tables.exec = Jvm.exec) (hb : c.code = cc) (hr : meth.sig.returnType = some .boolean) (hlocks : meth.locks = false) (hdg : decode cc pc = .ok (.ireturn, 1)) (hP : va_P D zcl ws H) (hD : va_D A ws) (hS : va_S A s.heap H locs) (hv : v = bI b) (hw : ws = ws' x) :
    W p l e R s m args below meth c H locs cells slots (MQ below (zQh D A (some (.int (bI b))) ws') args s cells slots A) (F0 m pc ls [.int v]) := by
  subst hv
  subst hw
  exact W.zret hx hb hr (bI_nar b) (fun t ht _ => ⟨rfl, ⟨x, by rw [ht]; exact hP, hD⟩, hS.F ht⟩) hS.2.2 hdg hlocks
theorem zh_lret {X : Type} {v v' : Int64} {ws' : X → va_W} (x : X) (hx : p.tables.exec = Jvm.exec) (hb : c.code = cc) (hr : meth.sig.returnType = some .long) (hlocks : meth.locks = false) (hdg : decode cc pc = .ok (.lreturn, 1)) (hP : va_P D zcl ws H) (hD : va_D A ws) (hS : va_S A s.heap H locs) (hv : v = v') (hw : ws = ws' x) :
    W p l e R s m args below meth c H locs cells slots (MQ below (zQh D A (some (.long v')) ws') args s cells slots A) (F0 m pc ls [.long v]) := by
  subst hv
  subst hw
  exact W.lret hx hb hr (fun t ht _ => ⟨rfl, ⟨x, by rw [ht]; exact hP, hD⟩, hS.F ht⟩) hS.2.2 hdg hlocks
theorem zh_dret {X : Type} {v v' : UInt64} {ws' : X → va_W} (x : X) (hx : p.tables.exec = Jvm.exec) (hb : c.code = cc) (hr : meth.sig.returnType = some .double) (hlocks : meth.locks = false) (hdg : decode cc pc = .ok (.dreturn, 1)) (hP : va_P D zcl ws H) (hD : va_D A ws) (hS : va_S A s.heap H locs) (hv : v = v') (hw : ws = ws' x) :
    W p l e R s m args below meth c H locs cells slots (MQ below (zQh D A (some (.double v')) ws') args s cells slots A) (F0 m pc ls [.double v]) := by
  subst hv
  subst hw
  exact W.dret hx hb hr (fun t ht _ => ⟨rfl, ⟨x, by rw [ht]; exact hP, hD⟩, hS.F ht⟩) hS.2.2 hdg hlocks
theorem zh_fret {X : Type} {v v' : UInt32} {ws' : X → va_W} (x : X) (hx : p.tables.exec = Jvm.exec) (hb : c.code = cc) (hr : meth.sig.returnType = some .float) (hlocks : meth.locks = false) (hdg : decode cc pc = .ok (.freturn, 1)) (hP : va_P D zcl ws H) (hD : va_D A ws) (hS : va_S A s.heap H locs) (hv : v = v') (hw : ws = ws' x) :
    W p l e R s m args below meth c H locs cells slots (MQ below (zQh D A (some (.float v')) ws') args s cells slots A) (F0 m pc ls [.float v]) := by
  subst hv
  subst hw
  exact W.fret hx hb hr (fun t ht _ => ⟨rfl, ⟨x, by rw [ht]; exact hP, hD⟩, hS.F ht⟩) hS.2.2 hdg hlocks
theorem zh_vret {X : Type} {ws' : X → va_W} (x : X) (hx : p.tables.exec = Jvm.exec) (hb : c.code = cc) (hr : meth.sig.returnType = none) (hlocks : meth.locks = false) (hdg : decode cc pc = .ok (.return_, 1)) (hP : va_P D zcl ws H) (hD : va_D A ws) (hS : va_S A s.heap H locs) (hw : ws = ws' x) :
    W p l e R s m args below meth c H locs cells slots (MQ below (zQh D A none ws') args s cells slots A) (F0 m pc ls []) := by
  subst hw
  exact W.vret hx hb hr (fun t ht _ => ⟨rfl, ⟨x, by rw [ht]; exact hP, hD⟩, hS.F ht⟩) hS.2.2 hdg hlocks
end ZH
