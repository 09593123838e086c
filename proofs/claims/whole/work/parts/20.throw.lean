/-! An exception's object whose class passes the message on by another row of its pool. -/
theorem zx_ctor {p : Program} {l : Launch} {e : Env} {R : Room} {s : State} {m₀ : MethodId} {args : Array Value} {below : List Frame} {meth : Method} {c : Code} {W : State} {locs : List Loc} {cells slots : Nat}
    (X : Stand p l e R s m₀ args below meth c W locs cells slots) (hexec : p.tables.exec = Jvm.exec) (htr : e.platform.stackTraces = false) {own cls : String} {names : List String} {ic ix : Nat} {rx : ByteArray}
    (x0 : decode rx 0 = .ok (.aload_n 0, 1)) (x1 : decode rx 1 = .ok (.aload_n 1, 1)) (x2 : decode rx 2 = .ok (.invokespecial ix, 3)) (x5 : decode rx 5 = .ok (.return_, 1))
    (hown : s.vm.findClass own = some m₀.cls) (hcls : Bundle.fit cls = true) (hnames : ∀ n ∈ names, Bundle.fit n = true) (h : ∀ w ∈ Bundle.ownAtomsX own ic cls ix rx names, w.before args s = true)
    (hlocs : ∀ x ∈ locs, ∀ cell, s.heap[x.base]? = some cell → cell.vm.isStatics = false)
    {a : Addr} {cX : ClassId} {kX : Class} (hfX : s.vm.findClass cls = some cX) (hkX : s.vm.classes[cX]? = some kX) (hcell : W.heap[a]? = some (freshCell cX kX)) (hnew : s.heap.size ≤ a) {msg : Value} (hmsg : msg.isRef = true)
    {g : JFrame} (hg : g.method = m₀) (hsize : g.locals.size = c.maxLocals) (hlocked : g.locked = none) (hentered : g.entered = []) {rest : List Value} (hstack : g.stack = msg :: .ref a :: .ref a :: rest)
    (hd6 : decode c.code g.pc = .ok (.invokespecial ic, 3)) (hd9 : decode c.code (g.pc + 3) = .ok (.athrow, 1)) (hout : ∀ x ∈ c.exceptionTable.toList, covers x (g.pc + 3) = false)
    (hRf : names.length + 3 < R.frames) (hRl : 2 * g.monitorRoom + ((Value.ref a :: rest).map fun v => v.category).sum + (13 * (names.length + 1) + 42) ≤ R.locals) (hlocks : meth.locks = false) :
    ∃ U : State, Steps p.tables e below (W.setTop g) U ∧ U.status = .running ∧ Ended U below (.threw a) ∧ s.WarmedH U.vm ∧ s.sameButNew ({ U with vm := s.vm } : State) locs cells slots ∧ ∃ ce, U.heap[a]? = some ce ∧ s.vm.findClass cls = some ce.cls ∧ ce.vm = .none := by
  have o1 : e.platform.frameOwnsMonitors = true := by rw [X.admits.platform]
  have o2 : e.platform.finalization = false := by rw [X.admits.platform]
  have o3 : e.platform.magicAccessors = ({} : Platform).magicAccessors := by rw [X.admits.platform]
  have hw : ∀ w, w ∈ Bundle.ownAtomsX own ic cls ix rx names → w.holds args s none s [] = true := fun w q => h w q
  obtain ⟨T, Z0, L, -, Y⟩ := ThrowableC.of_atoms (args := args) o1 o2 o3 (fun w q => h w (by simp [Bundle.ownAtomsX, q]))
  obtain ⟨Z, M, LZ, LM, hnZ⟩ := Init0T.ofS_atoms (args := args) o3 L Y (fun w q => h w (by simp [Bundle.ownAtomsX, q]))
  obtain ⟨P1, Ps, hlen, L1, hL, hP1m, k1, k2⟩ := Bundle.chainSX (args := args) o3 hnZ x0 x1 x2 x5 names cls hcls hnames (fun w q => h w (by simp [Bundle.ownAtomsX, q]))
  have hf : s.vm.findClass cls = some P1.m.cls := findClass_of_methodNamed hP1m
  cases Option.some.inj (hfX.symm.trans hf)
  obtain ⟨c1, kY, hc1, hk, hord, -, -, hn6⟩ := Cond.instantiable_spec (hw (.instantiable cls 6) (by simp [Bundle.ownAtomsX]))
  cases Option.some.inj (hc1.symm.trans hf)
  cases Option.some.inj (hkX.symm.trans hk)
  have s0 : selectMethod e.platform s.vm P1.m.cls T.fill0 = .method T.fill0 := by
    obtain ⟨c2, r2, m2, q1, q2, q3, q4, -⟩ := Cond.selects_spec (hw (.selects cls Bundle.tFill0 Bundle.tFill0) (by simp [Bundle.ownAtomsX]))
    cases Option.some.inj (q1.symm.trans hf)
    cases Option.some.inj (q2.symm.trans (State.methodFound?_of_named Y.fill0 (by decide)))
    cases Option.some.inj (q3.symm.trans Y.fill0)
    rw [Launch.admits_selectMethod X.admits]; exact q4
  have s1 : selectMethod e.platform s.vm P1.m.cls T.fill = .method T.fill := by
    obtain ⟨c2, r2, m2, q1, q2, q3, q4, -⟩ := Cond.selects_spec (hw (.selects cls Bundle.tFill Bundle.tFill) (by simp [Bundle.ownAtomsX]))
    cases Option.some.inj (q1.symm.trans hf)
    cases Option.some.inj (q2.symm.trans (State.methodFound?_of_named Y.fill (by decide)))
    cases Option.some.inj (q3.symm.trans Y.fill)
    rw [Launch.admits_selectMethod X.admits]; exact q4
  obtain ⟨cs0, hcs0, hiss⟩ := Y.statics
  obtain ⟨u0, hu0⟩ := Cond.staticRefV Y.unassigned L.unassignedStatic L.statics hcs0 hiss (hw (.isRef (.static Bundle.tN "UNASSIGNED_STACK" Bundle.steD)) (by simp [Bundle.ownAtomsX]))
  obtain ⟨v0, hv0⟩ := Cond.staticRefV Y.sentinel L.sentinelStatic L.statics hcs0 hiss (hw (.isRef (.static Bundle.tN "SUPPRESSED_SENTINEL" Bundle.listD)) (by simp [Bundle.ownAtomsX]))
  obtain ⟨ci1, i1, fB, hk1, hg1, ha1, hsB, -, hnB, htB, hffB⟩ := Cond.ownField (t := .object "java/lang/Object") Y.found L.cls (by decide +kernel) (hw (.fieldLink Bundle.tN 198 Bundle.tN "backtrace" "Ljava/lang/Object;") (by simp [Bundle.ownAtomsX])) (hw (.lays Bundle.tN Bundle.tN "backtrace" "Ljava/lang/Object;") (by simp [Bundle.ownAtomsX])) e.platform o3
  obtain ⟨cs1, hcs1, he1, -, hkeep⟩ := X.same.2.2.2.2.2 T.aS cs0 hcs0
  have hcsW : W.heap[T.aS]? = some cs1 := hcs1
  have hno : ∀ i, (⟨T.aS, i⟩ : Loc) ∉ locs := fun i q => by
    have q1 := hlocs _ q cs0 hcs0
    rw [hiss] at q1; cases q1
  have hkn : cs1.vm ≠ .unknown := by
    rw [he1]; intro q
    rw [show cs0.vm = .unknown from q] at hiss
    cases hiss
  have hne : T.aS ≠ a := Nat.ne_of_lt (Nat.lt_of_lt_of_le (Array.getElem?_eq_some_iff.mp hcs0).1 hnew)
  obtain ⟨iM, hffM⟩ := Y.msg
  obtain ⟨tyC, dC, hdC, hnC⟩ := Cond.laysAt hf hk Y.cause (hw (.lays cls Bundle.tN "cause" "Ljava/lang/Throwable;") (by simp [Bundle.ownAtomsX]))
  obtain ⟨tyS, dS, hdS, hnS⟩ := Cond.laysAt hf hk Y.stack (hw (.lays cls Bundle.tN "stackTrace" Bundle.steD) (by simp [Bundle.ownAtomsX]))
  obtain ⟨tyP, dP, hdP, hnP⟩ := Cond.laysAt hf hk Y.supp (hw (.lays cls Bundle.tN "suppressedExceptions" Bundle.listD) (by simp [Bundle.ownAtomsX]))
  obtain ⟨tyM, dM, hdM, hnM⟩ := Cond.laysAt hf hk hffM (hw (.lays cls Bundle.tN "detailMessage" "Ljava/lang/String;") (by simp [Bundle.ownAtomsX]))
  obtain ⟨tyB, dB, hdB, hnBk⟩ := Cond.laysAt hf hk hffB (hw (.lays cls Bundle.tN "backtrace" "Ljava/lang/Object;") (by simp [Bundle.ownAtomsX]))
  have b1 := Cond.laysApart hdB hdC hnBk hnC (by rw [hnB, Y.causeName]; decide)
  have b2 := Cond.laysApart hdB hdS hnBk hnS (by rw [hnB, Y.stackName]; decide)
  have b3 := Cond.laysApart hdB hdP hnBk hnP (by rw [hnB, Y.suppName]; decide)
  have hskip : SkipFacts T e.platform s (fun u => u) u0 ((preparedCellV T.toThrowableT (freshCell P1.m.cls kX) a u0 v0).withEntry W.cur) :=
    ⟨{ ci198 := ci1, i198 := i1, fBack := fB }, ⟨hk1, hg1, ha1, hsB⟩, by
      have q := fresh_default (c := P1.m.cls) tyB
      rw [htB] at q
      simpa [preparedCellV, Cell.setSlot, Cell.withEntry, Array.getElem?_setIfInBounds, b1, b2, b3, b1.symm, b2.symm, b3.symm, defaultValue] using q, fun _ _ => rfl⟩
  obtain ⟨tm, mC, cdC, kC, vm₁, hnD, -, -, -, -, -, -, -, hW₁, st1⟩ := Steps.initColdS (tb := p.tables) (e := e) (below := below) (s := s) (U := W) X.here hexec X.warmed o3 hown (t := Bundle.initS cls) rfl rfl (Bundle.fit_spec hcls).2
    (hw (.methodLink own ic (Bundle.initS cls)) (by simp [Bundle.ownAtomsX])) (h (.instanceMethod (Bundle.initS cls)) (by cases names <;> simp [Bundle.ownAtomsX, Bundle.chainSAtomsX, Bundle.passSAtoms])) (bytes := rx) (maxL := 2) (h (.code (Bundle.initS cls) rx 2 none) (by cases names <;> simp [Bundle.ownAtomsX, Bundle.chainSAtomsX, Bundle.passSAtoms]))
    (f := g) hg (a := a) (msg := msg) (rest := .ref a :: rest) hstack hd6
  cases Option.some.inj (hnD.symm.trans hP1m)
  have X₁ := X.noted hW₁
  obtain ⟨vm₂, X₂, st2⟩ := X₁.ctorMessageOffV hexec (g := { g with stack := .ref a :: rest }) hg hsize T L Z LZ M LM (P1 :: Ps)
    (fun P q => by rcases List.mem_cons.mp q with rfl | q; exact L1; exact hL P q) ⟨k1, k2⟩ (u0 := u0) (sen := v0) (self := a) hmsg (cell := freshCell P1.m.cls kX) (cellS := cs1)
    hcell (fun _ => by simp) (by simp) rfl rfl s0 s1 hcsW hne hkn (by rw [hkeep _ (hno _)]; exact hu0) (by rw [hkeep _ (hno _)]; exact hv0)
    (Takes.of_laid hk hord tyC (by rw [Y.causeType]; rfl)) (Takes.of_laid hk hord tyS (by rw [Y.stackType]; exact fits_refV_array _ u0)) (Takes.of_laid hk hord tyP (by rw [Y.suppType]; exact fits_refV_object _ v0))
    (Takes.of_laid hk hord tyM (by rw [Y.msgType]; exact fits_refV_object _ ⟨msg, hmsg⟩)) Y.objLocals hskip htr [] hd6
    (by simp only [List.length_cons, hlen]; omega) (by simp only [List.length_cons, hlen]; exact hRl)
  obtain ⟨hwalk, hrun, hend, hWU, hsame⟩ := X₂.athrowLeaves hexec (g := { g with stack := .ref a :: rest, pc := g.pc + 3 }) hg hlocked hentered hout (a := a) (rest := rest) rfl hd9
  have hlt : a < ((W.setVm vm₁).setVm vm₂).heap.size := (Array.getElem?_eq_some_iff.mp hcell).1
  have hU := heapAt_setCell_self (s := (W.setVm vm₁).setVm vm₂) (plainBareV T.toThrowableT (freshCell P1.m.cls kX) a u0 v0 msg) hlt
  refine ⟨_, st1 _ (fun acts => ?_), hrun, hend, hWU, hsame.weaken (fun y hy hlt' => ?_) (Nat.le_refl _) (Nat.le_refl _), _, hU, hf, rfl⟩
  · rw [doInvoke_state]
    exact st2 _ hwalk
  · rcases List.mem_append.mp hy with q | q
    · exact q
    · exfalso
      have hb : y.base = a := by
        simp only [List.mem_cons, List.not_mem_nil, or_false] at q
        rcases q with rfl | rfl | rfl | rfl | rfl <;> rfl
      rw [hb] at hlt'
      exact Nat.not_lt.mpr hnew hlt'
def vx_atX (own : String) (ic : Nat) (E : String) (ix : Nat) (rx : ByteArray) (names : List String) : List Cond := (Bundle.ownAtomsX own ic E ix rx names).filter vx_no
section ZTX
variable {p : Program} {l : Launch} {e : Env} {R : Room} {s : State} {m : MethodId} {args : Array Value} {below : List Frame} {meth : Method} {c : Code} {H : Heap} {locs : List Loc} {cells slots : Nat} {Q : State → Prop} {cc : ByteArray} {nL : Nat} {own : String} {pc : Nat} {ls : Array Slot} {st0 rest : List Value}
variable {Qc : Array Value → State → Outcome → State → Prop} {XC : String → State → State → Prop} {free : Addr → Prop}
theorem vx_throwX (hexec : p.tables.exec = Jvm.exec) (hb : c.code = cc) (hl : l.stackTraces = false) {own cls text : String} {names : List String} {ik is ic mc ms sa ix : Nat} {rx : ByteArray} {A : Nat → Prop}
    (x0 : decode rx 0 = .ok (.aload_n 0, 1)) (x1 : decode rx 1 = .ok (.aload_n 1, 1)) (x2 : decode rx 2 = .ok (.invokespecial ix, 3)) (x5 : decode rx 5 = .ok (.return_, 1))
    (hown : s.vm.findClass own = some m.cls) (hcls : Bundle.fit cls = true) (hnames : ∀ n ∈ names, Bundle.fit n = true)
    (hk : (Cond.classLink own ik cls).before args s = true) (hini : (Cond.initialized cls).before args s = true) (hstr : vk_R own is text sa s) (hat : ∀ w ∈ vx_atX own ic cls ix rx names, w.before args s = true)
    (hgood : ∀ w ∈ Cond.classLink own ik cls :: Cond.initialized cls :: vx_atX own ic cls ix rx names, vx_ot w = true)
    (hU : vx_Zq Bundle.tN "UNASSIGNED_STACK" Bundle.steD A s s.heap) (hN : vx_Zq Bundle.tN "SUPPRESSED_SENTINEL" Bundle.listD A s s.heap) (hS : va_S A s.heap H locs) (hsize : ls.size = c.maxLocals)
    (d0 : decode cc pc = .ok (.new ik, 3)) (d3 : decode cc (pc + 3) = .ok (.dup, 1)) (d4 : decode cc (pc + 4) = .ok (.ldc is, 2)) (d6 : decode cc (pc + 6) = .ok (.invokespecial ic, 3)) (d9 : decode cc (pc + 9) = .ok (.athrow, 1))
    (hout : ∀ x ∈ c.exceptionTable.toList, covers x (pc + 9) = false)
    (hRf : names.length + 3 < R.frames) (hRl : (rest.map fun v => v.category).sum + (13 * (names.length + 1) + 43) ≤ R.locals) (hRc : cells + 1 ≤ R.cells) (hRs : slots + 6 ≤ R.slots) (hlocks : meth.locks = false)
    (hx : ∀ t : State, s.vm.Alike t.vm → H.size ≤ t.heap.size → (∀ q : Nat, q < H.size → t.heap[q]? = H[q]?) → XC cls s t)
    (hf : ∀ z ∈ locs, free z.base) (hc : cells + 1 ≤ mc) (hs : slots + 6 ≤ ms) :
    W p l e R s m args below meth c H locs cells slots (vx_MQ below Qc XC args s mc ms free) (F0 m pc ls rest) := by
  intro T hT X
  have htr : e.platform.stackTraces = false := (show e.platform.stackTraces = l.stackTraces by rw [X.admits.platform]).trans hl
  have Y := vx_rebase X (R' := { frames := R.frames, locals := R.locals, cells := 1, slots := 6 }) (Nat.le_refl _) (Nat.le_refl _) hRc hRs
  obtain ⟨s', hA⟩ : ∃ z, z = (T.setVm s.vm).setFrames (.invoking m args :: below) := ⟨_, rfl⟩
  rw [← hA] at Y
  have hvm : s'.vm = s.vm := by rw [hA]; rfl
  have hhp : s'.heap = H := by rw [hA]; exact hT
  have hW0 : s.WarmedH s'.vm := by rw [hvm]; exact State.WarmedH.refl s
  have w1 : ∀ w ∈ vx_atX own ic cls ix rx names, w.before args s' = true := fun w hw => vx_ot_at hW0 hvm.symm (hgood w (List.mem_cons_of_mem _ (List.mem_cons_of_mem _ hw))) (hat w hw)
  have w2 : (Cond.classLink own ik cls).before args s' = true := vx_ot_at hW0 hvm.symm (hgood _ List.mem_cons_self) hk
  have w3 : (Cond.initialized cls).before args s' = true := vx_ot_at hW0 hvm.symm (hgood _ (List.mem_cons_of_mem _ List.mem_cons_self)) hini
  have w4 : vx_Zq Bundle.tN "UNASSIGNED_STACK" Bundle.steD A s' s'.heap := by rw [hhp]; exact vx_Zq.moved hW0.alike (hU.kept hS.2.1)
  have w5 : vx_Zq Bundle.tN "SUPPRESSED_SENTINEL" Bundle.listD A s' s'.heap := by rw [hhp]; exact vx_Zq.moved hW0.alike (hN.kept hS.2.1)
  have h : ∀ w ∈ Bundle.ownAtomsX own ic cls ix rx names, w.before args s' = true := vx_own w1 (vx_isRefq w4.1) (vx_isRefq w5.1) w4.2.word w5.2.word
  have hown' : s'.vm.findClass own = some m.cls := by rw [hvm]; exact hown
  have hins : (Cond.instantiable cls 6).before args s' = true := h _ (by simp [Bundle.ownAtomsX])
  obtain ⟨vm₁, cX, kX, hfX, hkX, -, -, X₁, st1⟩ := Y.newCold hexec (own := own) (C := cls) (index := ik) (n := 6) hown' w2 hins w3 (g := F0 m pc ls rest) rfl (by rw [hb]; exact d0) (Nat.le_refl _) (Nat.le_refl _)
  generalize hT1 : (T.setVm vm₁).pushCell { cls := cX, slots := kX.instanceTypes.map defaultValue, vm := .none } = T1 at X₁ st1
  have hcat : (Value.ref T.heap.size).category = 1 := rfl
  have hcA : T1.heap[T.heap.size]? = some (freshCell cX kX) := by rw [← hT1]; exact State.heap_pushCell_size _ _
  have d3' : decode c.code (pc + 3) = .ok (.dup, 1) := by rw [hb]; exact d3
  have d4' : decode c.code (pc + 4) = .ok (.ldc is, 2) := by rw [hb]; exact d4
  have hstr' : vk_R own is text sa s' := vk_R.warm hW0 hstr
  obtain ⟨U, hsteps, hrun, hend, hW, hsame, ce, hce, hcf, hcv⟩ := zx_ctor X₁ hexec htr (own := own) (cls := cls) (names := names) (ic := ic) x0 x1 x2 x5 hown' hcls hnames h (fun x hx => nomatch hx) hfX hkX hcA (by rw [hhp, hT]; exact Nat.le_refl _) (msg := .ref sa) rfl
    (g := { method := m, pc := pc + 6, locals := ls, stack := .ref sa :: .ref T.heap.size :: .ref T.heap.size :: rest, locked := none }) rfl hsize rfl rfl (rest := rest) rfl
    (by rw [hb]; exact d6) (by rw [hb]; exact d9) hout hRf (by simp only [List.map_cons, List.sum_cons, hcat]; omega) hlocks
  obtain ⟨f1, f2⟩ := vx_frame hsame
  rw [hhp] at f1 f2
  have hWs : s.WarmedH U.vm := State.WarmedH.trans hW0 hW
  have hcl : s.vm.findClass cls = some ce.cls := by
    rw [hvm] at hcf
    exact hcf
  have hall : s.sameButNew ({ U with vm := s.vm } : State) locs mc ms := by
    subst hA
    obtain ⟨e1, e2⟩ := hsame
    rw [State.setFrames_setFrames] at e1
    have h2 : (T.setVm s.vm).sameButNew ({ U with vm := s.vm } : State) [] (0 + 1) (0 + 6) := ⟨e1, e2⟩
    have h3 := X.same.trans h2
    rw [List.append_nil] at h3
    exact h3.mono hc hs
  refine ⟨U, ?_, .threw T.heap.size, hrun, hend, Or.inr ⟨T.heap.size, rfl, cls, ce, locs, hx U hWs.alike f1 (fun q hq => f2 q hq (fun z hz => nomatch hz)), hce, hcv, hcl, hWs, hall, hf⟩⟩
  refine st1 _ ?_
  show Steps p.tables e below (T1.setTop { method := m, pc := pc + 3, locals := ls, stack := .ref T.heap.size :: rest, locked := none }) _
  jvm_step X₁.here [X₁.here.top, hexec, d3', Value.category]
  exact X₁.ldcString hexec (own := own) (text := text) (index := is) (a := sa) hown' hstr'.1 hstr'.2
    (g := { method := m, pc := pc + 4, locals := ls, stack := .ref T.heap.size :: .ref T.heap.size :: rest, locked := none }) rfl d4' _ hsteps
variable {D : va_G} {T : Nat → ClassId} {A : Nat → Prop} {ws : va_W}
abbrev rxN : ByteArray := prog_20_method_4_code
theorem rxN_0 : decode rxN 0 = .ok (.aload_n 0, 1) := by decide +kernel
theorem rxN_1 : decode rxN 1 = .ok (.aload_n 1, 1) := by decide +kernel
theorem rxN_2 : decode rxN 2 = .ok (.invokespecial 13, 3) := by decide +kernel
theorem rxN_5 : decode rxN 5 = .ok (.return_, 1) := by decide +kernel
theorem zt_throwX {k ik is ic : Nat} {E text : String} (hx : p.tables.exec = Jvm.exec) (hb : c.code = cc) (hl : l.stackTraces = false) (hml : c.maxLocals = nL) (hown : s.vm.findClass RX7 = some m.cls) (hts : ∀ w ∈ zU, w.before args s = true) (hlocks : meth.locks = false) (ht : ∀ x ∈ c.exceptionTable.toList, False)
    (hE : Bundle.fit E = true) (hk : Cond.classLink RX7 ik E ∈ zU) (hini : Cond.initialized E ∈ zU) (hst : (is, text) ∈ zSt) (h1 : ∀ w ∈ (vx_atX RX7 ic E 13 rxN zEx).filter goodWord, w ∈ zU) (h2 : ∀ w ∈ (vx_atX RX7 ic E 13 rxN zEx).filter (fun w => !goodWord w), w ∈ zL)
    (hgood : ∀ w ∈ Cond.classLink RX7 ik E :: Cond.initialized E :: vx_atX RX7 ic E 13 rxN zEx, vx_ot w = true) (hP : va_P D zcl ws H) (hD : va_D A ws) (hS : va_S A s.heap H locs) (hZ : zX A s s.heap) (hsize : ls.size = nL) (hkk : 6 ≤ k) (hrest : (rest.map fun v => v.category).sum ≤ 8)
    (d0 : decode cc pc = .ok (.new ik, 3)) (d3 : decode cc (pc + 3) = .ok (.dup, 1)) (d4 : decode cc (pc + 4) = .ok (.ldc is, 2)) (d6 : decode cc (pc + 6) = .ok (.invokespecial ic, 3)) (d9 : decode cc (pc + 9) = .ok (.athrow, 1)) :
    W p l e (zR k 1 6) s m args below meth c H locs 0 0 (vx_MQ below zNo (zXc D A E ws) args s 1 6 A) (F0 m pc ls rest) := by
  obtain ⟨z1, z2, z3, z4⟩ := hZ
  obtain ⟨sa, hsa⟩ := z4 _ hst
  have hall : ∀ w ∈ vx_atX RX7 ic E 13 rxN zEx, w.before args s = true := vx_hat (B := zL) (fun w h => hts w (h1 w h)) h2 (fun w h => va_Nw.use (by
    have h9 := (List.mem_filter.mp h).2
    cases w <;> first | rfl | (simp [zDC] at h9; done)) (z3 w h))
  refine vx_throwX (names := zEx) hx hb hl rxN_0 rxN_1 rxN_2 rxN_5 hown hE (by decide +kernel) (hts _ hk) (hts _ hini) hsa hall hgood z1 z2 hS (hsize.trans hml.symm) d0 d3 d4 d6 d9 (fun x hx => (ht x hx).elim) ?_ ?_ (Nat.le_refl _) (Nat.le_refl _) hlocks ?_ hS.2.2 (Nat.le_refl _) (Nat.le_refl _)
  · show 2 + 3 < k
    omega
  · show _ + (13 * (2 + 1) + 43) ≤ 60 * k + 60
    omega
  · intro t ha h3 h4
    exact ⟨rfl, hP.kept (fun k q hq => h4 q.1 (hP k q hq).lt), hD, ⟨Nat.le_trans hS.1 h3, fun q h5 h6 => (h4 q (Nat.lt_of_lt_of_le h5 hS.1)).trans (hS.2.1 q h5 h6)⟩⟩
end ZTX

/-! What the making of an exception's object needs. -/
theorem xg_226 : ∀ w ∈ (vx_atS RX7 226 "java/lang/IndexOutOfBoundsException" zEx).filter goodWord, w ∈ zU := zU_of (by decide +kernel)
theorem xn_226 : ∀ w ∈ (vx_atS RX7 226 "java/lang/IndexOutOfBoundsException" zEx).filter (fun w => !goodWord w), w ∈ zL := fun w hw => List.mem_filter.mpr ⟨(show ∀ w ∈ (vx_atS RX7 226 "java/lang/IndexOutOfBoundsException" zEx).filter (fun w => !goodWord w), w ∈ lw_tbl by decide +kernel) w hw, (show ∀ w ∈ (vx_atS RX7 226 "java/lang/IndexOutOfBoundsException" zEx).filter (fun w => !goodWord w), zDC w = true by decide +kernel) w hw⟩
theorem xo_226 : ∀ w ∈ Cond.classLink RX7 222 "java/lang/IndexOutOfBoundsException" :: Cond.initialized "java/lang/IndexOutOfBoundsException" :: vx_atS RX7 226 "java/lang/IndexOutOfBoundsException" zEx, vx_ot w = true := by decide +kernel
theorem xg_45 : ∀ w ∈ (vx_atS RX7 45 "java/lang/IllegalArgumentException" zEx).filter goodWord, w ∈ zU := zU_of (by decide +kernel)
theorem xn_45 : ∀ w ∈ (vx_atS RX7 45 "java/lang/IllegalArgumentException" zEx).filter (fun w => !goodWord w), w ∈ zL := fun w hw => List.mem_filter.mpr ⟨(show ∀ w ∈ (vx_atS RX7 45 "java/lang/IllegalArgumentException" zEx).filter (fun w => !goodWord w), w ∈ lw_tbl by decide +kernel) w hw, (show ∀ w ∈ (vx_atS RX7 45 "java/lang/IllegalArgumentException" zEx).filter (fun w => !goodWord w), zDC w = true by decide +kernel) w hw⟩
theorem xo_45 : ∀ w ∈ Cond.classLink RX7 41 "java/lang/IllegalArgumentException" :: Cond.initialized "java/lang/IllegalArgumentException" :: vx_atS RX7 45 "java/lang/IllegalArgumentException" zEx, vx_ot w = true := by decide +kernel
theorem xg_81 : ∀ w ∈ (vx_atS RX7 81 "java/lang/ArithmeticException" zEx).filter goodWord, w ∈ zU := zU_of (by decide +kernel)
theorem xn_81 : ∀ w ∈ (vx_atS RX7 81 "java/lang/ArithmeticException" zEx).filter (fun w => !goodWord w), w ∈ zL := fun w hw => List.mem_filter.mpr ⟨(show ∀ w ∈ (vx_atS RX7 81 "java/lang/ArithmeticException" zEx).filter (fun w => !goodWord w), w ∈ lw_tbl by decide +kernel) w hw, (show ∀ w ∈ (vx_atS RX7 81 "java/lang/ArithmeticException" zEx).filter (fun w => !goodWord w), zDC w = true by decide +kernel) w hw⟩
theorem xo_81 : ∀ w ∈ Cond.classLink RX7 77 "java/lang/ArithmeticException" :: Cond.initialized "java/lang/ArithmeticException" :: vx_atS RX7 81 "java/lang/ArithmeticException" zEx, vx_ot w = true := by decide +kernel
theorem xg_175 : ∀ w ∈ (vx_atS RX7 175 "java/lang/IllegalStateException" zEx).filter goodWord, w ∈ zU := zU_of (by decide +kernel)
theorem xn_175 : ∀ w ∈ (vx_atS RX7 175 "java/lang/IllegalStateException" zEx).filter (fun w => !goodWord w), w ∈ zL := fun w hw => List.mem_filter.mpr ⟨(show ∀ w ∈ (vx_atS RX7 175 "java/lang/IllegalStateException" zEx).filter (fun w => !goodWord w), w ∈ lw_tbl by decide +kernel) w hw, (show ∀ w ∈ (vx_atS RX7 175 "java/lang/IllegalStateException" zEx).filter (fun w => !goodWord w), zDC w = true by decide +kernel) w hw⟩
theorem xo_175 : ∀ w ∈ Cond.classLink RX7 171 "java/lang/IllegalStateException" :: Cond.initialized "java/lang/IllegalStateException" :: vx_atS RX7 175 "java/lang/IllegalStateException" zEx, vx_ot w = true := by decide +kernel
theorem xg_242 : ∀ w ∈ (vx_atX RX7 242 "java/util/NoSuchElementException" 13 rxN zEx).filter goodWord, w ∈ zU := zU_of (by decide +kernel)
theorem xn_242 : ∀ w ∈ (vx_atX RX7 242 "java/util/NoSuchElementException" 13 rxN zEx).filter (fun w => !goodWord w), w ∈ zL := fun w hw => List.mem_filter.mpr ⟨(show ∀ w ∈ (vx_atX RX7 242 "java/util/NoSuchElementException" 13 rxN zEx).filter (fun w => !goodWord w), w ∈ lw_tbl by decide +kernel) w hw, (show ∀ w ∈ (vx_atX RX7 242 "java/util/NoSuchElementException" 13 rxN zEx).filter (fun w => !goodWord w), zDC w = true by decide +kernel) w hw⟩
theorem xo_242 : ∀ w ∈ Cond.classLink RX7 238 "java/util/NoSuchElementException" :: Cond.initialized "java/util/NoSuchElementException" :: vx_atX RX7 242 "java/util/NoSuchElementException" 13 rxN zEx, vx_ot w = true := by decide +kernel
