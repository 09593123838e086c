/-! Arrays by a number's place; fields; throws: a method that throws, and its calls. -/
theorem i_X3 : ∀ w ∈ u_ws RX3 TX3 3, w ∈ zU := fun w h => List.mem_filter.mpr ⟨(show ∀ w ∈ u_ws RX3 TX3 3, w ∈ lw_tbl by decide +kernel) w h, (show ∀ w ∈ u_ws RX3 TX3 3, goodWord w = true by decide +kernel) w h⟩
theorem i_X4 : ∀ w ∈ u_ws RX4 TX4 4, w ∈ zU := fun w h => List.mem_filter.mpr ⟨(show ∀ w ∈ u_ws RX4 TX4 4, w ∈ lw_tbl by decide +kernel) w h, (show ∀ w ∈ u_ws RX4 TX4 4, goodWord w = true by decide +kernel) w h⟩
theorem i_X6 : ∀ w ∈ u_ws RX6 TX6 1, w ∈ zU := fun w h => List.mem_filter.mpr ⟨(show ∀ w ∈ u_ws RX6 TX6 1, w ∈ lw_tbl by decide +kernel) w h, (show ∀ w ∈ u_ws RX6 TX6 1, goodWord w = true by decide +kernel) w h⟩
theorem i_X7 : ∀ w ∈ u_ws RX7 TX7 4, w ∈ zU := fun w h => List.mem_filter.mpr ⟨(show ∀ w ∈ u_ws RX7 TX7 4, w ∈ lw_tbl by decide +kernel) w h, (show ∀ w ∈ u_ws RX7 TX7 4, goodWord w = true by decide +kernel) w h⟩
theorem i_X8 : ∀ w ∈ u_ws RX8 TX8 9, w ∈ zU := fun w h => List.mem_filter.mpr ⟨(show ∀ w ∈ u_ws RX8 TX8 9, w ∈ lw_tbl by decide +kernel) w h, (show ∀ w ∈ u_ws RX8 TX8 9, goodWord w = true by decide +kernel) w h⟩
section ZR
variable {p : Program} {l : Launch} {e : Env} {R : Room} {s : State} {m : MethodId} {args : Array Value} {below : List Frame} {meth : Method} {c : Code} {H : Heap} {locs : List Loc} {cells slots : Nat} {Q : State → Prop} {cc : ByteArray} {pc : Nat} {ls : Array Slot} {rest : List Value}
variable {D : va_G} {T : Nat → ClassId} {A : Nat → Prop} {ws : va_W} {a : Nat} {H0 : Heap}
theorem za_iald (hx : p.tables.exec = Jvm.exec) (hb : c.code = cc) (hK : va_K D zcl (zT T) s) (hP : va_P D zcl ws H) (q0 : Nat) {n : Nat} {f : Nat → Int32} (ha : ws[q0]? = some (a, .inl (T 0, n, .inl f))) {i : Int32} (j : Nat) (hi : i = nI j) (hj : j < n) (hn : n < 2 ^ 31) (hdg : decode cc pc = .ok (.iaload, 1))
    (kk : W p l e R s m args below meth c H locs cells slots Q (F0 m (pc + 1) ls (.int (f j) :: rest))) : W p l e R s m args below meth c H locs cells slots Q (F0 m pc ls (.int i :: .ref a :: rest)) := by
  subst hi
  refine va_iald hx hb hK hP q0 0 ha rfl (vp_in_nI hj hn) hdg ?_
  rw [nI_clamp (by omega)]
  exact kk
theorem za_zald (hx : p.tables.exec = Jvm.exec) (hb : c.code = cc) (hK : va_K D zcl (zT T) s) (hP : va_P D zcl ws H) (q0 : Nat) {n : Nat} {f : Nat → Int32} (ha : ws[q0]? = some (a, .inl (T 2, n, .inl f))) {i : Int32} (j : Nat) (hi : i = nI j) (hj : j < n) (hn : n < 2 ^ 31) (hdg : decode cc pc = .ok (.baload, 1))
    (kk : W p l e R s m args below meth c H locs cells slots Q (F0 m (pc + 1) ls (.int (f j) :: rest))) : W p l e R s m args below meth c H locs cells slots Q (F0 m pc ls (.int i :: .ref a :: rest)) := by
  subst hi
  refine va_zald hx hb hK hP q0 2 ha rfl (vp_in_nI hj hn) hdg ?_
  rw [nI_clamp (by omega)]
  exact kk
theorem za_lald (hx : p.tables.exec = Jvm.exec) (hb : c.code = cc) (hK : va_K D zcl (zT T) s) (hP : va_P D zcl ws H) (q0 : Nat) {n : Nat} {f : Nat → Int64} (ha : ws[q0]? = some (a, .inl (T 1, n, .inr (.inl f)))) {i : Int32} (j : Nat) (hi : i = nI j) (hj : j < n) (hn : n < 2 ^ 31) (hdg : decode cc pc = .ok (.laload, 1))
    (kk : W p l e R s m args below meth c H locs cells slots Q (F0 m (pc + 1) ls (.long (f j) :: rest))) : W p l e R s m args below meth c H locs cells slots Q (F0 m pc ls (.int i :: .ref a :: rest)) := by
  subst hi
  refine va_lald hx hb hK hP q0 1 ha rfl (vp_in_nI hj hn) hdg ?_
  rw [nI_clamp (by omega)]
  exact kk
theorem za_dald (hx : p.tables.exec = Jvm.exec) (hb : c.code = cc) (hK : va_K D zcl (zT T) s) (hP : va_P D zcl ws H) (q0 : Nat) {n : Nat} {f : Nat → UInt64} (ha : ws[q0]? = some (a, .inl (T 3, n, .inr (.inr (.inr (.inl f)))))) {i : Int32} (j : Nat) (hi : i = nI j) (hj : j < n) (hn : n < 2 ^ 31) (hdg : decode cc pc = .ok (.daload, 1))
    (kk : W p l e R s m args below meth c H locs cells slots Q (F0 m (pc + 1) ls (.double (f j) :: rest))) : W p l e R s m args below meth c H locs cells slots Q (F0 m pc ls (.int i :: .ref a :: rest)) := by
  subst hi
  refine va_dald hx hb hK hP q0 3 ha rfl (vp_in_nI hj hn) hdg ?_
  rw [nI_clamp (by omega)]
  exact kk
theorem za_iast (hx : p.tables.exec = Jvm.exec) (hb : c.code = cc) (hK : va_K D zcl (zT T) s) (hP : va_P D zcl ws H) (hD : va_D A ws) (hS : va_S A H0 H locs) (q0 : Nat) {n : Nat} {f : Nat → Int32} (ha : ws[q0]? = some (a, .inl (T 0, n, .inl f))) {i x : Int32} (j : Nat) (hi : i = nI j) (hj : j < n) (hn : n < 2 ^ 31) (f' : Nat → Int32) (hf : ∀ k : Nat, (if k = j then x else f k) = f' k) (hdg : decode cc pc = .ok (.iastore, 1))
    (kk : ∀ (H1 : Heap) (locs1 : List Loc), va_P D zcl (ws.set q0 (a, .inl (T 0, n, .inl f'))) H1 → va_D A (ws.set q0 (a, .inl (T 0, n, .inl f'))) → va_S A H0 H1 locs1 → W p l e R s m args below meth c H1 locs1 cells slots Q (F0 m (pc + 1) ls rest)) : W p l e R s m args below meth c H locs cells slots Q (F0 m pc ls (.int x :: .int i :: .ref a :: rest)) := by
  subst hi
  have he : f' = upd f (nI j).toNatClampNeg x := by
    rw [nI_clamp (by omega)]
    exact funext fun k => (hf k).symm
  subst he
  exact va_iast hx hb hK hP hD hS q0 0 ha rfl (vp_in_nI hj hn) hdg kk
theorem za_zast (hx : p.tables.exec = Jvm.exec) (hb : c.code = cc) (hK : va_K D zcl (zT T) s) (hP : va_P D zcl ws H) (hD : va_D A ws) (hS : va_S A H0 H locs) (q0 : Nat) {n : Nat} {f : Nat → Int32} (ha : ws[q0]? = some (a, .inl (T 2, n, .inl f))) {i : Int32} {x : Bool} (j : Nat) (hi : i = nI j) (hj : j < n) (hn : n < 2 ^ 31) (f' : Nat → Int32) (hf : ∀ k : Nat, (if k = j then bI x else f k) = f' k) (hdg : decode cc pc = .ok (.bastore, 1))
    (kk : ∀ (H1 : Heap) (locs1 : List Loc), va_P D zcl (ws.set q0 (a, .inl (T 2, n, .inl f'))) H1 → va_D A (ws.set q0 (a, .inl (T 2, n, .inl f'))) → va_S A H0 H1 locs1 → W p l e R s m args below meth c H1 locs1 cells slots Q (F0 m (pc + 1) ls rest)) : W p l e R s m args below meth c H locs cells slots Q (F0 m pc ls (.int (bI x) :: .int i :: .ref a :: rest)) := by
  subst hi
  have he : f' = upd f (nI j).toNatClampNeg (vp_nar .boolean (bI x)) := by
    rw [nI_clamp (by omega), show vp_nar .boolean (bI x) = bI x by cases x <;> rfl]
    exact funext fun k => (hf k).symm
  subst he
  exact va_zast hx hb hK hP hD hS q0 2 ha rfl (vp_in_nI hj hn) hdg kk
theorem za_last (hx : p.tables.exec = Jvm.exec) (hb : c.code = cc) (hK : va_K D zcl (zT T) s) (hP : va_P D zcl ws H) (hD : va_D A ws) (hS : va_S A H0 H locs) (q0 : Nat) {n : Nat} {f : Nat → Int64} (ha : ws[q0]? = some (a, .inl (T 1, n, .inr (.inl f)))) {i : Int32} {x : Int64} (j : Nat) (hi : i = nI j) (hj : j < n) (hn : n < 2 ^ 31) (f' : Nat → Int64) (hf : ∀ k : Nat, (if k = j then x else f k) = f' k) (hdg : decode cc pc = .ok (.lastore, 1))
    (kk : ∀ (H1 : Heap) (locs1 : List Loc), va_P D zcl (ws.set q0 (a, .inl (T 1, n, .inr (.inl f')))) H1 → va_D A (ws.set q0 (a, .inl (T 1, n, .inr (.inl f')))) → va_S A H0 H1 locs1 → W p l e R s m args below meth c H1 locs1 cells slots Q (F0 m (pc + 1) ls rest)) : W p l e R s m args below meth c H locs cells slots Q (F0 m pc ls (.long x :: .int i :: .ref a :: rest)) := by
  subst hi
  have he : f' = vp_updL f (nI j).toNatClampNeg x := by
    rw [nI_clamp (by omega)]
    exact funext fun k => (hf k).symm
  subst he
  exact va_last hx hb hK hP hD hS q0 1 ha rfl (vp_in_nI hj hn) hdg kk
end ZR
/-- what a throw needs of the state -/
def zSt : List (Nat × String) := [(224, "no such place"), (43, "no such count"), (79, "the edge is not exact"), (89, "the sum is no count"), (110, "the eightfold is no volume"), (118, "the count of eighths is not a multiple of 8"), (136, "the product is no volume"), (230, "the volume is below, or 0"), (148, "the sum is no volume"), (157, "there is no such count"), (232, "no such number of counts"), (173, "the tower has as many cubes as it may"), (240, "the tower has no cubes"), (200, "the sum of the tower is no volume")]
def zX (A : Nat → Prop) (U : State) (H : Heap) : Prop := vx_Zq Bundle.tN "UNASSIGNED_STACK" Bundle.steD A U H ∧ vx_Zq Bundle.tN "SUPPRESSED_SENTINEL" Bundle.listD A U H ∧ zN U ∧ ∀ q ∈ zSt, ∃ sa : Nat, vk_R RX7 q.1 q.2 sa U
theorem zX.warm {A : Nat → Prop} {s U : State} {H : Heap} (hW : s.WarmedH U.vm) (h : zX A s H) : zX A U H := ⟨vx_Zq.moved hW.alike h.1, vx_Zq.moved hW.alike h.2.1, zN.warm hW h.2.2.1, fun q hq => (h.2.2.2 q hq).elim fun sa hs => ⟨sa, vk_R.warm hW hs⟩⟩
theorem zX.same {A : Nat → Prop} {u U : State} {H : Heap} (hv : u.vm = U.vm) (h : zX A u H) : zX A U H := ⟨vx_Zq.moved (by rw [hv]; exact Vm.Alike.refl U.vm) h.1, vx_Zq.moved (by rw [hv]; exact Vm.Alike.refl U.vm) h.2.1, zN.same hv h.2.2.1, fun q hq => (h.2.2.2 q hq).elim fun sa hs => ⟨sa, vk_R.same hv.symm hs⟩⟩
theorem zX.kept {A : Nat → Prop} {U : State} {H H1 : Heap} (h : zX A U H) (hq : ∀ a : Nat, a < H.size → ¬ A a → H1[a]? = H[a]?) : zX A U H1 := ⟨h.1.kept hq, h.2.1.kept hq, h.2.2⟩
theorem zX.narrow {A B : Nat → Prop} {U : State} {H : Heap} (h : zX A U H) (hAB : ∀ q, B q → A q) : zX B U H := ⟨h.1.narrow hAB, h.2.1.narrow hAB, h.2.2⟩
def zPx (D : va_G) (T : Nat → ClassId) (av : List Value) (ws : va_W) (sz : Nat) : Array Value → State → Prop := va_Pc av (fun U => U.heap.size = sz ∧ va_P D zcl ws U.heap ∧ va_K D zcl (zT T) U ∧ va_D (fun _ => True) ws ∧ zX (va_A ws sz) U U.heap)
theorem zPx_blind {D : va_G} {T : Nat → ClassId} {av : List Value} {ws : va_W} {sz : Nat} : FrameBlind (zPx D T av ws sz) := fun a U g mk q => by
  obtain ⟨q0, q1, qP, qK, qD, qX⟩ := q
  exact ⟨q0, q1, qP, va_K.moved (u := U) (U := U.calling g mk a) (Vm.Alike.refl U.vm) qK, qD, zX.same (u := U) (U := U.calling g mk a) rfl qX⟩
def zXc (D : va_G) (A : Nat → Prop) (E : String) (ws : va_W) : String → State → State → Prop := fun E' st t => E' = E ∧ va_P D zcl ws t.heap ∧ va_D A ws ∧ va_F A st t
def zNo : Array Value → State → Outcome → State → Prop := fun _ _ _ _ => False
def Tm (l : Launch) (y : MethodName) (cc : ByteArray) (maxL : Nat) (ret : Option FieldType) (k : Nat) (D : va_G) (T : Nat → ClassId) (av : List Value) (ws : va_W) (E : String) : Prop :=
  ∀ sz : Nat, vx_Met l y (zW y cc maxL ret) (zR k 1 6) (zPx D T av ws sz) zNo (zXc D (va_A ws sz) E ws) 1 6 (va_A ws sz)
theorem Tm.of {l : Launch} {y : MethodName} {cc : ByteArray} {maxL : Nat} {ret : Option FieldType} {k : Nat} {D : va_G} {T : Nat → ClassId} {av : List Value} {ws : va_W} {E : String} (hy : plainName y.cls = true) (hn : (lg_sl av).length ≤ maxL)
    (body : ∀ (p : Program) (e : Env) (s : State) (m : MethodId) (args : Array Value) (below : List Frame) (meth : Method) (c : Code), p.tables.exec = Jvm.exec → c.code = cc → meth.sig.returnType = ret → c.maxLocals = maxL → s.vm.findClass y.cls = some m.cls → (∀ w ∈ zU, w.before args s = true) → meth.locks = false → (∀ x ∈ c.exceptionTable.toList, False) →
      ∀ A : Nat → Prop, (∀ q : Nat, s.heap.size ≤ q → A q) → va_P D zcl ws s.heap → va_K D zcl (zT T) s → va_D A ws → va_S A s.heap s.heap [] → zX A s s.heap → ∀ ls : Array Slot, lv_has ls maxL (lv_args 0 av) →
      W p l e (zR k 1 6) s m args below meth c s.heap [] 0 0 (vx_MQ below zNo (zXc D A E ws) args s 1 6 A) (F0 m 0 ls [])) : Tm l y cc maxL ret k D T av ws E := by
  intro sz
  refine vx_ofW (cc := cc) (maxL := maxL) (ret := ret) hy rfl ?_
  intro p e s m args below meth c s₁ B hml ht hv
  obtain ⟨rfl, hsz, hP, hK, hD0, hZ⟩ := hv
  subst hsz
  have hl := lv_entry av (n := maxL) hn
  have hw := atoms_spec (ws := zW y cc maxL ret) B.pre
  rw [lg_entry_eq]
  exact body p e s m _ below meth c B.exec B.bytes B.returns hml (findClass_of_methodNamed B.named) (fun w h => hw w (List.mem_cons_of_mem _ h)) B.notSynchronized ht (va_A ws s.heap.size) (fun q h => Or.inr h) hP hK hD0.self va_S.rf hZ _ hl
abbrev zEx : List String := ["java/lang/RuntimeException", "java/lang/Exception"]
section ZT
variable {p : Program} {l : Launch} {e : Env} {R : Room} {s : State} {m : MethodId} {args : Array Value} {below : List Frame} {meth : Method} {c : Code} {H : Heap} {locs : List Loc} {cells slots : Nat} {Q : State → Prop} {cc : ByteArray} {nL : Nat} {own : String} {pc : Nat} {ls : Array Slot} {st0 rest : List Value}
variable {D : va_G} {T : Nat → ClassId} {A : Nat → Prop} {ws : va_W}
/-- new E("text"), thrown at once, by a method of the class -/
theorem zt_throw {k ik is ic : Nat} {E text : String} (hx : p.tables.exec = Jvm.exec) (hb : c.code = cc) (hl : l.stackTraces = false) (hml : c.maxLocals = nL) (hown : s.vm.findClass RX7 = some m.cls) (hts : ∀ w ∈ zU, w.before args s = true) (hlocks : meth.locks = false) (ht : ∀ x ∈ c.exceptionTable.toList, False)
    (hE : Bundle.fit E = true) (hk : Cond.classLink RX7 ik E ∈ zU) (hini : Cond.initialized E ∈ zU) (hst : (is, text) ∈ zSt) (h1 : ∀ w ∈ (vx_atS RX7 ic E zEx).filter goodWord, w ∈ zU) (h2 : ∀ w ∈ (vx_atS RX7 ic E zEx).filter (fun w => !goodWord w), w ∈ zL)
    (hgood : ∀ w ∈ Cond.classLink RX7 ik E :: Cond.initialized E :: vx_atS RX7 ic E zEx, vx_ot w = true) (hP : va_P D zcl ws H) (hD : va_D A ws) (hS : va_S A s.heap H locs) (hZ : zX A s s.heap) (hsize : ls.size = nL) (hkk : 6 ≤ k) (hrest : (rest.map fun v => v.category).sum ≤ 8)
    (d0 : decode cc pc = .ok (.new ik, 3)) (d3 : decode cc (pc + 3) = .ok (.dup, 1)) (d4 : decode cc (pc + 4) = .ok (.ldc is, 2)) (d6 : decode cc (pc + 6) = .ok (.invokespecial ic, 3)) (d9 : decode cc (pc + 9) = .ok (.athrow, 1)) :
    W p l e (zR k 1 6) s m args below meth c H locs 0 0 (vx_MQ below zNo (zXc D A E ws) args s 1 6 A) (F0 m pc ls rest) := by
  obtain ⟨z1, z2, z3, z4⟩ := hZ
  obtain ⟨sa, hsa⟩ := z4 _ hst
  have hall : ∀ w ∈ vx_atS RX7 ic E zEx, w.before args s = true := vx_hat (B := zL) (fun w h => hts w (h1 w h)) h2 (fun w h => va_Nw.use (by
    have h9 := (List.mem_filter.mp h).2
    cases w <;> first | rfl | (simp [zDC] at h9; done)) (z3 w h))
  refine vx_throwS (names := zEx) hx hb hl hown hE (by decide +kernel) (hts _ hk) (hts _ hini) hsa hall hgood z1 z2 hS (hsize.trans hml.symm) d0 d3 d4 d6 d9 (fun x hx => (ht x hx).elim) ?_ ?_ (Nat.le_refl _) (Nat.le_refl _) hlocks ?_ hS.2.2 (Nat.le_refl _) (Nat.le_refl _)
  · show 2 + 3 < k
    omega
  · show _ + (13 * (2 + 1) + 43) ≤ 60 * k + 60
    omega
  · intro t ha h3 h4
    exact ⟨rfl, hP.kept (fun k q hq => h4 q.1 (hP k q hq).lt), hD, ⟨Nat.le_trans hS.1 h3, fun q h5 h6 => (h4 q (Nat.lt_of_lt_of_le h5 hS.1)).trans (hS.2.1 q h5 h6)⟩⟩
/-- a callee that throws: what is there then -/
theorem zt_back {wc : va_W} {E : String} {a : Array Value} (hr : vx_Run p l e R s m args below meth c H locs cells slots 1 6 (F0 m pc ls st0) rest (zNo a) (zXc D (va_A wc H.size) E wc) (va_A wc H.size))
    (hP : va_P D zcl ws H) (hD : va_D A ws) (hS : va_S A s.heap H locs) (hA : ∀ q : Nat, s.heap.size ≤ q → A q) (isC isR : List Nat) {wr : va_W} (hC : isC.map (fun i => ws[i]?) = wc.map some) (hR : isR.map (fun i => ws[i]?) = wr.map some) (hn : va_nd isR = true) (hdis : ∀ i ∈ isR, i ∉ isC)
    (isN : List Nat) (hnd : va_nd isN = true) (hN : isN.map (fun i => (wr ++ wc)[i]?) = ws.map some)
    (kk : ∀ (ce : Cell) (q9 : Addr) (H1 : Heap) (locs1 : List Loc), va_P D zcl ws H1 → va_D A ws → va_S A s.heap H1 locs1 → H1[q9]? = some ce → ce.vm = .none → s.vm.findClass E = some ce.cls → vx_W p l e R s m args below meth c H1 locs1 (cells + 1) (slots + 6) Q (F0 m pc ls rest) q9) : W p l e R s m args below meth c H locs cells slots Q (F0 m pc ls st0) := by
  have hFc := va_free (wc := wc) hD hS hA isC hC
  intro T0 hT X0
  rcases hr T0 hT X0 with ⟨v, st₀, t, T', L, h0, X', hL, e1, e2, hv, st⟩ | ⟨q, st₀, t, T', L, E', ce, h0, X', hL, e1, e2, ⟨rfl, hP1, hD1, hz, hk⟩, hce, hcv, hcl, st⟩
  · exact hv.elim
  · rw [h0] at hz hk
    obtain ⟨hP2, hD2⟩ := va_join (H1 := t.heap) hP hD isC isR hC hR hn hdis hk hFc hP1 hD1
    have hS2 : va_S A s.heap t.heap (locs ++ L) := ⟨Nat.le_trans hS.1 hz, fun q h1 h2 => by rw [hk q (Nat.lt_of_lt_of_le h1 hS.1) (fun z => h2 (hFc q z))]; exact hS.2.1 q h1 h2, fun q hq => by
      rcases List.mem_append.mp hq with h | h
      · exact hS.2.2 q h
      · exact hFc _ (hL q h)⟩
    obtain ⟨t2, a1, b1⟩ := kk ce q t.heap (locs ++ L) (hP2.sub isN (zfm hN)) (hD2.sub isN hnd hN) hS2 hce hcv hcl T' e1 X'
    exact ⟨t2, st.trans a1, b1⟩
theorem zt_v {idx : Nat} {y : MethodName} {bytes : ByteArray} {maxL : Nat} {ret : Option FieldType} {n k : Nat} {b : Nat} {av : List Value} {wc : va_W} {E : String} (hx : p.tables.exec = Jvm.exec) (hb : c.code = cc) (hml : c.maxLocals = nL) (hown : s.vm.findClass own = some m.cls) (hts : ∀ w ∈ zU, w.before args s = true) (hk : zBV own idx y bytes maxL ret n) (hM : Tm l y bytes maxL ret k D T (.ref b :: av) wc E)
    (hR0 : k + 1 ≤ R.frames ∧ 8 + (maxL + 11) + (60 * k + 60) ≤ R.locals) (hn0 : av.length = n) (hsize : ls.size = nL) (rest : List Value) (hst : st0 = av.reverse ++ .ref b :: rest) (hW : (rest.map fun v => v.category).sum ≤ 8) (hdg : decode cc pc = .ok (.invokevirtual idx, 3)) (hf : cells + 1 ≤ R.cells ∧ slots + 6 ≤ R.slots)
    (hK : va_K D zcl (zT T) s) (hP : va_P D zcl ws H) (hD : va_D A ws) (hS : va_S A s.heap H locs) (hA : ∀ q : Nat, s.heap.size ≤ q → A q) (hZ : zX A s s.heap) {ci : Nat} {q : vw_C} {fs : List Value} (hc : zcl[ci]? = some q) (hcn : q.1 = y.cls) (he : wc[0]? = some (b, .inr (ci, fs)))
    (isC isR : List Nat) {wr : va_W} (hC : isC.map (fun i => ws[i]?) = wc.map some) (hR : isR.map (fun i => ws[i]?) = wr.map some) (hn : va_nd isR = true) (hdis : ∀ i ∈ isR, i ∉ isC) (hnC : va_nd isC = true)
    (isN : List Nat) (hnd : va_nd isN = true) (hN : isN.map (fun i => (wr ++ wc)[i]?) = ws.map some)
    (kk : ∀ (ce : Cell) (q9 : Addr) (H1 : Heap) (locs1 : List Loc), va_P D zcl ws H1 → va_D A ws → va_S A s.heap H1 locs1 → H1[q9]? = some ce → ce.vm = .none → s.vm.findClass E = some ce.cls → vx_W p l e R s m args below meth c H1 locs1 (cells + 1) (slots + 6) Q (F0 m pc ls rest) q9) : W p l e R s m args below meth c H locs cells slots Q (F0 m pc ls st0) := by
  have hPc := hP.sub isC (zfm hC)
  have hDc := hD.sub isC hnC hC
  have hFc := va_free (wc := wc) hD hS hA isC hC
  refine zt_back (wc := wc) (vx_runV (Ts := zU) (nL := nL) (C := y.cls) ⟨hx, hb, hml, hown, hts⟩ (hM H.size) ⟨hk.1.callB hts hR0, hts _ hk.2.1, hts _ hk.2.2⟩ ⟨zPx_blind, ?_, fun U hU hW => ⟨rfl, by rw [hU], by rw [hU]; exact hPc, va_K.moved hW.alike hK, hDc.weaken (fun _ _ _ _ => trivial), by rw [hU]; exact zX.warm hW ((hZ.kept hS.2.1).narrow hFc)⟩⟩ rfl hn0 hsize hst (lv_room hW) hdg hf) hP hD hS hA isC isR hC hR hn hdis isN hnd hN kk
  rw [← hcn]
  exact va_recv hK hPc hc he
theorem zt_s {idx : Nat} {y : MethodName} {bytes : ByteArray} {maxL : Nat} {ret : Option FieldType} {n k : Nat} {av : List Value} {wc : va_W} {E : String} (hx : p.tables.exec = Jvm.exec) (hb : c.code = cc) (hml : c.maxLocals = nL) (hown : s.vm.findClass own = some m.cls) (hts : ∀ w ∈ zU, w.before args s = true) (hk : zBS own idx y bytes maxL ret n) (hM : Tm l y bytes maxL ret k D T av wc E)
    (hR0 : k + 1 ≤ R.frames ∧ 8 + (maxL + 11) + (60 * k + 60) ≤ R.locals) (hn0 : av.length = n) (hsize : ls.size = nL) (rest : List Value) (hst : st0 = av.reverse ++ rest) (hW : (rest.map fun v => v.category).sum ≤ 8) (hdg : decode cc pc = .ok (.invokestatic idx, 3)) (hf : cells + 1 ≤ R.cells ∧ slots + 6 ≤ R.slots)
    (hK : va_K D zcl (zT T) s) (hP : va_P D zcl ws H) (hD : va_D A ws) (hS : va_S A s.heap H locs) (hA : ∀ q : Nat, s.heap.size ≤ q → A q) (hZ : zX A s s.heap)
    (isC isR : List Nat) {wr : va_W} (hC : isC.map (fun i => ws[i]?) = wc.map some) (hR : isR.map (fun i => ws[i]?) = wr.map some) (hn : va_nd isR = true) (hdis : ∀ i ∈ isR, i ∉ isC) (hnC : va_nd isC = true)
    (isN : List Nat) (hnd : va_nd isN = true) (hN : isN.map (fun i => (wr ++ wc)[i]?) = ws.map some)
    (kk : ∀ (ce : Cell) (q9 : Addr) (H1 : Heap) (locs1 : List Loc), va_P D zcl ws H1 → va_D A ws → va_S A s.heap H1 locs1 → H1[q9]? = some ce → ce.vm = .none → s.vm.findClass E = some ce.cls → vx_W p l e R s m args below meth c H1 locs1 (cells + 1) (slots + 6) Q (F0 m pc ls rest) q9) : W p l e R s m args below meth c H locs cells slots Q (F0 m pc ls st0) := by
  have hPc := hP.sub isC (zfm hC)
  have hDc := hD.sub isC hnC hC
  have hFc := va_free (wc := wc) hD hS hA isC hC
  exact zt_back (wc := wc) (vx_runS (Ts := zU) (nL := nL) ⟨hx, hb, hml, hown, hts⟩ (hM H.size) ⟨hk.1.callB hts hR0, hts _ hk.2⟩ ⟨zPx_blind, fun U hU hW => ⟨rfl, by rw [hU], by rw [hU]; exact hPc, va_K.moved hW.alike hK, hDc.weaken (fun _ _ _ _ => trivial), by rw [hU]; exact zX.warm hW ((hZ.kept hS.2.1).narrow hFc)⟩⟩ rfl hn0 hsize hst (lv_room hW) hdg hf) hP hD hS hA isC isR hC hR hn hdis isN hnd hN kk
/-- it goes on to the caller -/
theorem zt_out {k : Nat} {E : String} {ce : Cell} {q9 : Addr} (hlocks : meth.locks = false) (ht : ∀ x ∈ c.exceptionTable.toList, False) (hP : va_P D zcl ws H) (hD : va_D A ws) (hS : va_S A s.heap H locs) (hce : H[q9]? = some ce) (hv : ce.vm = .none) (hcl : s.vm.findClass E = some ce.cls) :
    vx_W p l e (zR k 1 6) s m args below meth c H locs 1 6 (vx_MQ below zNo (zXc D A E ws) args s 1 6 A) (F0 m pc ls rest) q9 :=
  vx_out (fun x hx => (ht x hx).elim) hlocks hce hv hcl (fun t h1 h2 => ⟨rfl, by rw [h1]; exact hP, hD, hS.F h1⟩) hS.2.2 (Nat.le_refl _) (Nat.le_refl _)
end ZT
