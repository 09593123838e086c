/-! THE LAW: what holds at its head; the words of its calls. -/
def LI (yv tw : Nat → Nat) (n0 : Nat) : Prop := (∀ k, yv k < 262144) ∧ (∀ k, tw k < 262144) ∧ n0 ≤ 60 ∧ (∀ k, k < n0 → isB (tw k) = false) ∧ (∀ k, k < n0 → 0 < tw k / 4)
theorem LI.y {yv tw : Nat → Nat} {n0 v : Nat} (h : LI yv tw n0) (p : Nat) (hv : v < 262144) : LI (up yv p v) tw n0 := ⟨up_lt h.1 hv, h.2⟩
theorem LI.lay {yv tw : Nat → Nat} {n0 v : Nat} (h : LI yv tw n0) (hn : n0 < 60) (hv : v < 262144) (h1 : isB v = false) (h2 : 0 < v / 4) : LI yv (up tw n0 v) (n0 + 1) := by
  refine ⟨h.1, up_lt h.2.1 hv, by omega, fun k hk => ?_, fun k hk => ?_⟩
  · unfold up
    split
    · exact h1
    · exact h.2.2.2.1 k (by omega)
  · unfold up
    split
    · exact h2
    · exact h.2.2.2.2 k (by omega)
theorem LI.lift {yv tw : Nat → Nat} {n1 : Nat} (h : LI yv tw (n1 + 1)) (p : Nat) : LI (up yv p (tw n1)) tw n1 := ⟨up_lt h.1 (h.2.1 n1), h.2.1, by have := h.2.2.1; omega, fun k hk => h.2.2.2.1 k (by omega), fun k hk => h.2.2.2.2 k (by omega)⟩
theorem LI.melt {yv tw : Nat → Nat} {n0 v : Nat} (h : LI yv tw n0) (p : Nat) (hv : v < 262144) : LI (up yv p v) tw 0 := ⟨up_lt h.1 hv, h.2.1, by omega, fun k hk => by omega, fun k hk => by omega⟩
theorem eig_p {v : Nat} (h : 0 < v / 4) : 0 < eig v := by
  unfold eig
  split <;> omega
theorem fN_p {e : Nat} (h : 0 < e) : 0 < fN e := by
  have h1 : 1 ≤ rt (e * 2 ^ 27) := rt_ge (by omega) (by omega)
  exact h1
theorem LI.ht {yv tw : Nat → Nat} {n1 : Nat} (h : LI yv tw (n1 + 1)) : 0 < htN tw (n1 + 1) := by
  have h1 := fN_p (eig_p (h.2.2.2.2 n1 (by omega)))
  show 0 < htN tw n1 + fN (eig (tw n1))
  omega
theorem sh_v {tw : Nat → Nat} {n1 : Nat} (h1 : n1 < 60) (h : 0 < htN tw (n1 + 1)) : FP.Core.val32 (shF tw (n1 + 1)) ≠ .nan := by
  have h2 := htN_lt tw (n1 + 1)
  rw [shF, if_neg (by omega)]
  exact share_v h (by omega)
theorem sh_0 {tw : Nat → Nat} {n0 : Nat} (h : n0 = 0) : FP.Core.val32 (shF tw n0) ≠ .nan := by
  rw [shF, if_pos h]
  exact fc0_v
theorem cmp_same {x : UInt64} (h : FP.Core.val64 x ≠ .nan) (op : CmpOp) : Op.cmpValue (FP.dcmp x x) op = 0 := by
  rw [dcmp_self h]
  cases op <;> rfl
theorem is_pl {x : Int32} (h : m_X8_is x = true) : ∃ p : Nat, p < 8 ∧ x = nI p := by
  obtain ⟨h1, h2⟩ := is_1 h
  obtain ⟨j, hj, e⟩ := nI_of h1
  subst e
  exact ⟨j, (nI_ltI hj (by decide)).mp h2, rfl⟩
theorem cnt_sp (y : Int32) : (y < 0 ∨ ¬ y ≤ 65535) ∨ ∃ c : Nat, c < 65536 ∧ y = nI c := by
  by_cases h : y < 0
  · exact Or.inl (Or.inl h)
  · by_cases h2 : y ≤ 65535
    · obtain ⟨j, hj, e⟩ := nI_of h
      subst e
      exact Or.inr ⟨j, by have := (nI_leI hj (show 65535 < 2 ^ 31 by decide)).mp h2; omega, rfl⟩
    · exact Or.inl (Or.inr h2)
theorem gr_sp (y : Int64) : (y < 0 ∨ 65535 < y) ∨ ∃ c : Nat, c < 65536 ∧ y = lN c := by
  by_cases h : y < 0
  · exact Or.inl (Or.inl h)
  · by_cases h2 : 65535 < y
    · exact Or.inl (Or.inr h2)
    · obtain ⟨j, hj, e⟩ := pk_lOf h
      subst e
      refine Or.inr ⟨j, ?_, rfl⟩
      rcases Nat.lt_or_ge j 65536 with q | q
      · exact q
      · exact absurd ((pk_lLT (a := 65535) (by decide) hj).mpr (by omega)) h2
theorem arC_sp {x y : Int32} (h : arC x y = true) : ∃ k0 f : Nat, k0 ≤ 256 ∧ y = nI k0 ∧ (0 < k0 → x = nI f ∧ f + k0 ≤ 65536) := by
  obtain ⟨k0, hk, e⟩ := nI_of (arC_1 h)
  subst e
  have h256 : k0 ≤ 256 := (nI_leI hk (by decide)).mp (arC_2 h)
  by_cases h0 : k0 = 0
  · exact ⟨k0, 0, h256, rfl, fun q => by omega⟩
  · have h3 : ¬ nI k0 ≤ 0 := nI_nle (by omega) hk
    obtain ⟨f, hf, e⟩ := nI_of (arC_3 h h3)
    subst e
    refine ⟨k0, f, h256, rfl, fun _ => ⟨rfl, ?_⟩⟩
    have h4 := arC_4 h h3
    rw [show (65536 : Int32) = nI 65536 from rfl, pk_sub (by omega)] at h4
    have := (nI_leI hf (by omega)).mp h4
    omega
theorem f_high {x : Int32} {b : Bool} (h1 : ¬ x ≤ 65536) : ¬ x ≤ nI (fN (eig (mk 65535 b false))) := fun q => h1 (by
  have h2 := fN_lt (eig (mk 65535 b false))
  rw [Int32.le_iff_toInt_le, nI_toInt (by omega)] at q
  rw [Int32.le_iff_toInt_le, show (65536 : Int32) = nI 65536 from rfl, nI_toInt (by decide)]
  omega)
theorem f_sp {x : Int32} (h : 0 < x) (h1 : x ≤ 65536) : ∃ f : Nat, 0 < f ∧ f ≤ 65536 ∧ x = nI f := by
  obtain ⟨j, hj, e⟩ := nI_of (x := x) (fun q => by
    have h2 := Int32.lt_iff_toInt_lt.mp q
    have h3 := Int32.lt_iff_toInt_lt.mp h
    omega)
  subst e
  refine ⟨j, ?_, (nI_leI hj (by decide)).mp h1, rfl⟩
  have := (nI_ltI (a := 0) (by decide) hj).mp h
  omega
theorem oS_0 (V : Int64) (ou : Nat → Int64) : oS V ou 0 = V := if_pos rfl
theorem oD_0 (V : UInt64) (od : Nat → UInt64) : oD V od 0 = V := if_pos rfl
theorem bL_t {b : Bool} (h : b = true) : bL b = 1 := by rw [bL, if_pos h]
theorem bL_f {b : Bool} (h : b = false) : bL b = 0 := by rw [bL, if_neg (by rw [h]; decide)]
theorem lp_in {L i : Nat} (hL : L ≤ 2560) (hi : i ≤ 2560) (h : ¬ nI L - 5 < nI i) : i + 5 ≤ L := by
  rcases Nat.lt_or_ge L (i + 5) with q | q
  · refine absurd ?_ h
    rw [Int32.lt_iff_toInt_lt, nI_toInt (by omega), show (5 : Int32) = nI 5 from rfl, pk_sub_toInt (by omega) (by omega)]
    omega
  · exact q
/-- the machine, the code, the words, the script of SL ints xs at sb, what throws and catches -/
def LC (p : Program) (s : State) (m : MethodId) (meth : Method) (c : Code) (sb SL : Nat) (xs : Nat → Int32) (D : va_G) (T : Nat → ClassId) (A : Nat → Prop) : Prop :=
  p.tables.exec = Jvm.exec ∧ c.code = cL_law ∧ meth.sig.returnType = some FieldType.boolean ∧ c.maxLocals = 10 ∧ s.vm.findClass RL = some m.cls ∧ (∀ w ∈ zU, w.before #[Value.ref sb] s = true) ∧ va_X sb SL xs s s.heap ∧ sb < s.heap.size ∧ meth.locks = false ∧ va_K D zcl (zT T) s ∧ zX A s s.heap ∧ zNc s ∧ (∀ q : Nat, s.heap.size ≤ q → A q) ∧ ¬ A sb

theorem kw_volume : zBC RL 108 yL_volume cL_volume 4 (some FieldType.int) [((0 : Nat), (9 : Nat), (12 : Nat), (13 : Nat))] 3 := ⟨u461, u15, u459, u460, ⟨by decide, by decide⟩, by decide +kernel⟩
theorem kw_kind : zBC RL 112 yL_kind cL_kind 4 (some FieldType.int) [((0 : Nat), (9 : Nat), (12 : Nat), (13 : Nat))] 3 := ⟨u468, u15, u466, u467, ⟨by decide, by decide⟩, by decide +kernel⟩
theorem kw_fine : zBC RL 115 yL_fine cL_fine 4 (some FieldType.int) [((0 : Nat), (9 : Nat), (12 : Nat), (13 : Nat))] 3 := ⟨u475, u15, u473, u474, ⟨by decide, by decide⟩, by decide +kernel⟩
theorem kw_whole : zBC RL 118 yL_whole cL_whole 4 (some FieldType.int) [((0 : Nat), (9 : Nat), (12 : Nat), (13 : Nat))] 3 := ⟨u482, u15, u480, u481, ⟨by decide, by decide⟩, by decide +kernel⟩
theorem kw_coarse : zBC RL 121 yL_coarse cL_coarse 4 (some FieldType.int) [((0 : Nat), (8 : Nat), (11 : Nat), (13 : Nat))] 3 := ⟨u490, u15, u488, u489, ⟨by decide, by decide⟩, by decide +kernel⟩
theorem kw_isExact : zBC RL 125 yL_isExact cL_isExact 4 (some FieldType.int) [((0 : Nat), (16 : Nat), (19 : Nat), (13 : Nat))] 3 := ⟨u498, u15, u496, u497, ⟨by decide, by decide⟩, by decide +kernel⟩
theorem kw_bits : zBC RL 128 yL_bits cL_bits 4 (some FieldType.int) [((0 : Nat), (8 : Nat), (11 : Nat), (13 : Nat)), ((0 : Nat), (8 : Nat), (14 : Nat), (42 : Nat))] 3 := ⟨u506, u15, u504, u505, ⟨by decide, by decide⟩, by decide +kernel⟩
theorem kw_order : zBC RL 131 yL_order cL_order 5 (some FieldType.int) [((0 : Nat), (10 : Nat), (13 : Nat), (13 : Nat))] 4 := ⟨u530, u15, u528, u529, ⟨by decide, by decide⟩, by decide +kernel⟩
theorem kw_grow : zBC RL 135 yL_grow cL_grow 5 (some FieldType.int) [((0 : Nat), (10 : Nat), (13 : Nat), (13 : Nat)), ((0 : Nat), (10 : Nat), (17 : Nat), (42 : Nat))] 4 := ⟨u537, u15, u535, u536, ⟨by decide, by decide⟩, by decide +kernel⟩
theorem kw_put : zBC RL 98 yL_put cL_put 7 (some FieldType.int) [((0 : Nat), (14 : Nat), (17 : Nat), (13 : Nat)), ((0 : Nat), (14 : Nat), (21 : Nat), (15 : Nat))] 6 := ⟨u335, u15, u333, u334, ⟨by decide, by decide⟩, by decide +kernel⟩
theorem kw_opposite : zBC RL 142 yL_opposite cL_opposite 5 (some FieldType.int) [((0 : Nat), (17 : Nat), (20 : Nat), (13 : Nat))] 4 := ⟨u547, u15, u545, u546, ⟨by decide, by decide⟩, by decide +kernel⟩
theorem kw_eightfold : zBC RL 145 yL_eightfold cL_eightfold 5 (some FieldType.int) [((0 : Nat), (17 : Nat), (20 : Nat), (13 : Nat)), ((0 : Nat), (17 : Nat), (24 : Nat), (42 : Nat))] 4 := ⟨u556, u15, u554, u555, ⟨by decide, by decide⟩, by decide +kernel⟩
theorem kw_eighth : zBC RL 148 yL_eighth cL_eighth 5 (some FieldType.int) [((0 : Nat), (17 : Nat), (20 : Nat), (13 : Nat)), ((0 : Nat), (17 : Nat), (24 : Nat), (42 : Nat))] 4 := ⟨u566, u15, u564, u565, ⟨by decide, by decide⟩, by decide +kernel⟩
theorem kw_isNear : zBC RL 151 yL_isNear cL_isNear 4 (some FieldType.int) [((0 : Nat), (16 : Nat), (19 : Nat), (13 : Nat))] 3 := ⟨u578, u15, u576, u577, ⟨by decide, by decide⟩, by decide +kernel⟩
theorem kw_multiply : zBC RL 154 yL_multiply cL_multiply 6 (some FieldType.int) [((0 : Nat), (19 : Nat), (22 : Nat), (13 : Nat)), ((0 : Nat), (19 : Nat), (26 : Nat), (42 : Nat))] 5 := ⟨u589, u15, u587, u588, ⟨by decide, by decide⟩, by decide +kernel⟩
theorem kw_add : zBC RL 158 yL_add cL_add 6 (some FieldType.int) [((0 : Nat), (19 : Nat), (22 : Nat), (13 : Nat)), ((0 : Nat), (19 : Nat), (26 : Nat), (15 : Nat)), ((0 : Nat), (19 : Nat), (30 : Nat), (42 : Nat))] 5 := ⟨u599, u15, u597, u598, ⟨by decide, by decide⟩, by decide +kernel⟩
theorem kw_find : zBC RL 161 yL_find cL_find 5 (some FieldType.int) [((0 : Nat), (10 : Nat), (13 : Nat), (42 : Nat))] 4 := ⟨u614, u15, u612, u613, ⟨by decide, by decide⟩, by decide +kernel⟩
theorem kw_sum : zBC RL 165 yL_sum cL_sum 5 (some FieldType.int) [((0 : Nat), (10 : Nat), (13 : Nat), (15 : Nat))] 4 := ⟨u627, u15, u625, u626, ⟨by decide, by decide⟩, by decide +kernel⟩
theorem kw_exact : zBC RL 168 yL_exact cL_exact 5 (some FieldType.int) [((0 : Nat), (10 : Nat), (13 : Nat), (15 : Nat))] 4 := ⟨u639, u15, u637, u638, ⟨by decide, by decide⟩, by decide +kernel⟩
theorem kw_lay : zBC RL 171 yL_lay cL_lay 4 (some FieldType.int) [((0 : Nat), (9 : Nat), (12 : Nat), (13 : Nat)), ((0 : Nat), (9 : Nat), (15 : Nat), (15 : Nat)), ((0 : Nat), (9 : Nat), (18 : Nat), (84 : Nat))] 3 := ⟨u646, u15, u644, u645, ⟨by decide, by decide⟩, by decide +kernel⟩
theorem kw_lift : zBC RL 174 yL_lift cL_lift 4 (some FieldType.int) [((0 : Nat), (9 : Nat), (12 : Nat), (13 : Nat)), ((0 : Nat), (9 : Nat), (15 : Nat), (89 : Nat))] 3 := ⟨u679, u15, u677, u678, ⟨by decide, by decide⟩, by decide +kernel⟩
theorem kw_melt : zBC RL 181 yL_melt cL_melt 4 (some FieldType.int) [((0 : Nat), (9 : Nat), (12 : Nat), (13 : Nat)), ((0 : Nat), (9 : Nat), (15 : Nat), (89 : Nat)), ((0 : Nat), (9 : Nat), (18 : Nat), (42 : Nat))] 3 := ⟨u712, u15, u710, u711, ⟨by decide, by decide⟩, by decide +kernel⟩
abbrev LWd (T : Nat → ClassId) (x vs es o c1 f1 t bl fl br fr bg fg q a1 a2 a3 a4 a5 ol od0 : Nat) (yv tw : Nat → Nat) (n0 NL NR NG : Nat) (nc : Int32) (ne : Bool) (th : Int32) (ou : Nat → Int64) (od : Nat → UInt64) : va_W := [(x, .inr (3, [.ref vs, .ref es, .ref o, .ref t])), (vs, .inl (T 0, 8, .inl (fun k => nI (yv k)))), (es, .inl (T 1, 8, .inr (.inl (fun k => edge (yv k))))), (o, .inr (1, [.ref c1, .ref f1, .int (nI n0), .int (nI (htN tw n0))])), (c1, .inl (T 0, 60, .inl (fun k => nI (tw k)))), (f1, .inl (T 0, 60, .inl (fun k => nI (fN (eig (tw k)))))), (t, .inr (0, [.ref bl, .ref br, .ref bg])), (bl, .inr (2, [.ref fl])), (fl, .inl (T 1, 7, .inr (.inl (fun i => lN (lb NL i))))), (br, .inr (2, [.ref fr])), (fr, .inl (T 1, 7, .inr (.inl (fun i => lN (lb NR i))))), (bg, .inr (2, [.ref fg])), (fg, .inl (T 1, 7, .inr (.inl (fun i => lN (lb NG i))))), (q, .inr (4, [.ref a1, .ref a2, .ref a3, .ref a4, .ref a5, .int (nI n0), .int nc, .int (bI ne), .int th])), (a1, .inl (T 0, 8, .inl (fun k => nI (yv k / 4)))), (a2, .inl (T 2, 8, .inl (fun k => bI (isE (yv k))))), (a3, .inl (T 2, 8, .inl (fun k => bI (isB (yv k))))), (a4, .inl (T 0, 60, .inl (fun k => nI (tw k / 4)))), (a5, .inl (T 2, 60, .inl (fun k => bI (isE (tw k))))), (ol, .inl (T 1, 1, .inr (.inl (fun k => ou k)))), (od0, .inl (T 3, 1, .inr (.inr (.inr (.inl (fun k => od k))))))]
/-- the way on from a pc, whatever the state is there -/
def LK (p : Program) (l : Launch) (e : Env) (s : State) (m : MethodId) (below : List Frame) (meth : Method) (c : Code) (sb : Nat) (D : va_G) (T : Nat → ClassId) (A : Nat → Prop) (x vs es o c1 f1 t bl fl br fr bg fg q a1 a2 a3 a4 a5 ol od0 : Nat) (i pc cells slots : Nat) : Prop :=
  ∀ (yv tw : Nat → Nat) (n0 NL NR NG : Nat) (nc : Int32) (ne : Bool) (th : Int32) (ou : Nat → Int64) (od : Nat → UInt64) (H : Heap) (locs : List Loc), LI yv tw n0 → va_P D zcl (LWd T x vs es o c1 f1 t bl fl br fr bg fg q a1 a2 a3 a4 a5 ol od0 yv tw n0 NL NR NG nc ne th ou od) H → va_D A (LWd T x vs es o c1 f1 t bl fl br fr bg fg q a1 a2 a3 a4 a5 ol od0 yv tw n0 NL NR NG nc ne th ou od) → va_S A s.heap H locs → ∀ ls : Array Slot, lv_has ls 10 [(0, .ref sb), (1, .ref x), (2, .ref q), (3, .ref ol), (4, .ref od0), (5, .int (nI i))] → W p l e room_1 s m #[Value.ref sb] below meth c H locs cells slots (lw_Z below #[Value.ref sb] s) (F0 m pc ls [])
section ZS
variable {p : Program} {l : Launch} {e : Env} {R : Room} {s : State} {m : MethodId} {args : Array Value} {below : List Frame} {meth : Method} {c : Code} {H : Heap} {locs : List Loc} {cells slots : Nat} {Q : State → Prop} {cc : ByteArray} {pc : Nat} {ls : Array Slot} {rest : List Value} {A : Nat → Prop}
/-- an int of the script -/
theorem za_sld (hx : p.tables.exec = Jvm.exec) (hb : c.code = cc) {b L : Nat} {xs : Nat → Int32} (hX : va_X b L xs s s.heap) (hbl : b < s.heap.size) (hbA : ¬ A b) (hS : va_S A s.heap H locs) (j : Nat) (hj : j < L) (hL : L ≤ 2560) (v : Int32) (hv : xs j = v) (hdg : decode cc pc = .ok (.iaload, 1))
    (kk : W p l e R s m args below meth c H locs cells slots Q (F0 m (pc + 1) ls (.int v :: rest))) : W p l e R s m args below meth c H locs cells slots Q (F0 m pc ls (.int (nI j) :: .ref b :: rest)) := by
  subst hv
  refine va_sld hx hb hX hbl hbA hS (vp_in_nI hj (by omega)) hdg ?_
  rw [nI_clamp (by omega)]
  exact kk
end ZS
