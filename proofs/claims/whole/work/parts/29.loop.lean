/-! The law: its start, its loop. -/
theorem zk_arr {args : Array Value} {s : State} {ty : FieldType} (h : (Cond.arrayClass ty).before args s = true) : ∃ cA : ClassId, ArrOfT s cA ty ∧ s.vm.findClass ("[" ++ ty.toString) = some cA := by
  obtain ⟨c, k, comp, h1, h2, h3⟩ := Cond.arrayClass_spec h
  exact ⟨c, fun n z => ⟨fun k h => (by cases h), k, h2, comp, h3⟩, h1⟩
theorem zk_str {args : Array Value} {s : State} {own tx : String} {k cur : Nat} (hown : s.vm.findClass own = some cur) (h : (Cond.stringRef own k tx).before args s = true) : ∃ sa : Nat, vk_R own k tx sa s := by
  obtain ⟨k1, cf, j, a, h1, h2, h3, h4, h5, h6⟩ := Cond.stringRef_spec hown h
  exact ⟨a, vk_R.of h h6⟩
theorem zc_dbl {cT : ClassId} {N : Nat} {f : Nat → UInt64} (h : ∀ k, f k = 0) : vp_cell cT (N, .inr (.inr (.inr (.inl f)))) = arrV cT N (fun _ => defaultValue .double) := by
  rw [vp_cell_d]
  congr 1
  funext k
  rw [h]
  rfl
theorem zk_start {p : Program} {s : State} {m : MethodId} {meth : Method} {c : Code} {b L : Nat} {xs : Nat → Int32} (C0 : lw_At p s m meth c b L xs) : ∃ (D : va_G) (T : Nat → ClassId), LC p s m meth c b L xs D T (fun q : Nat => s.heap.size ≤ q) := by
  obtain ⟨hx, hb, hr, hml, hown, hts, hX, hbl, hlocks, hgv⟩ := C0
  have hzU : ∀ w ∈ zU, w.before #[Value.ref b] s = true := fun w hw => hts w (List.mem_filter.mp hw).1
  have hs := flat_of_before _ hgv
  obtain ⟨c0, iS0, hKn0⟩ := u_known (C := RX3) (T := TX3) (N := 3) (n := 3) hzU i_X3 (hzU _ u65)
  obtain ⟨c1, iS1, hKn1⟩ := u_known (C := RX4) (T := TX4) (N := 4) (n := 4) hzU i_X4 (hzU _ u44)
  obtain ⟨c2, iS2, hKn2⟩ := u_known (C := RX6) (T := TX6) (N := 1) (n := 1) hzU i_X6 (hzU _ u71)
  obtain ⟨c3, iS3, hKn3⟩ := u_known (C := RX7) (T := TX7) (N := 4) (n := 4) hzU i_X7 (hzU _ u36)
  obtain ⟨c4, iS4, hKn4⟩ := u_known (C := RX8) (T := TX8) (N := 9) (n := 9) hzU i_X8 (hzU _ u729)
  obtain ⟨aI, hAI, hNI⟩ := zk_arr (hzU _ u62)
  obtain ⟨aJ, hAJ, hNJ⟩ := zk_arr (hzU _ u63)
  obtain ⟨aZ, hAZ, hNZ⟩ := zk_arr (hzU _ u762)
  obtain ⟨aD, hAD, hND⟩ := zk_arr (hzU _ u942)
  refine ⟨(fun k => if k = 0 then c0 else if k = 1 then c1 else if k = 2 then c2 else if k = 3 then c3 else c4, fun k => if k = 0 then iS0 else if k = 1 then iS1 else if k = 2 then iS2 else if k = 3 then iS3 else iS4), fun k => if k = 0 then aI else if k = 1 then aJ else if k = 2 then aZ else aD, hx, hb, hr, hml, hown, hzU, hX, hbl, hlocks, ⟨?_, ?_⟩, ?_, ?_, fun q h => h, Nat.not_le.mpr hbl⟩
  · intro k q hq
    match k, hq with
    | 0, hq => cases hq; exact hKn0
    | 1, hq => cases hq; exact hKn1
    | 2, hq => cases hq; exact hKn2
    | 3, hq => cases hq; exact hKn3
    | 4, hq => cases hq; exact hKn4
    | k + 5, hq => simp [zcl] at hq
  · intro k q hq
    match k, hq with
    | 0, hq => cases hq; exact ⟨hAI, hNI⟩
    | 1, hq => cases hq; exact ⟨hAJ, hNJ⟩
    | 2, hq => cases hq; exact ⟨hAZ, hNZ⟩
    | 3, hq => cases hq; exact ⟨hAD, hND⟩
    | k + 4, hq => simp [zT] at hq
  · refine ⟨vx_Zqof (hts (.laysStatic Bundle.tN "UNASSIGNED_STACK" Bundle.steD) (List.mem_of_getElem? (i := 354) (by decide +kernel))) (hts (.initialized Bundle.tN) (by decide +kernel)) (hs (.isRef (.static Bundle.tN "UNASSIGNED_STACK" Bundle.steD)) (by decide +kernel)) (fun a h => Nat.not_le.mpr h), vx_Zqof (hts (.laysStatic Bundle.tN "SUPPRESSED_SENTINEL" Bundle.listD) (List.mem_of_getElem? (i := 356) (by decide +kernel))) (hts (.initialized Bundle.tN) (by decide +kernel)) (hs (.isRef (.static Bundle.tN "SUPPRESSED_SENTINEL" Bundle.listD)) (by decide +kernel)) (fun a h => Nat.not_le.mpr h), fun w hw => ?_, fun q hq => ?_⟩
    · have h2 := (List.mem_filter.mp hw).2
      have h1 := hts w (List.mem_filter.mp hw).1
      cases w <;> first | (simp [zDC] at h2; done) | exact va_Nw.of rfl h1
    · simp only [zSt, List.mem_cons, List.not_mem_nil, or_false] at hq
      rcases hq with rfl | rfl | rfl | rfl | rfl | rfl | rfl | rfl | rfl | rfl | rfl | rfl | rfl | rfl
      · exact zk_str (hKn3.2.1) (hts (.stringRef RX7 224 "no such place") (List.mem_of_getElem? (i := 432) (by decide +kernel)))
      · exact zk_str (hKn3.2.1) (hts (.stringRef RX7 43 "no such count") (List.mem_of_getElem? (i := 446) (by decide +kernel)))
      · exact zk_str (hKn3.2.1) (hts (.stringRef RX7 79 "the edge is not exact") (List.mem_of_getElem? (i := 526) (by decide +kernel)))
      · exact zk_str (hKn3.2.1) (hts (.stringRef RX7 89 "the sum is no count") (List.mem_of_getElem? (i := 543) (by decide +kernel)))
      · exact zk_str (hKn3.2.1) (hts (.stringRef RX7 110 "the eightfold is no volume") (List.mem_of_getElem? (i := 562) (by decide +kernel)))
      · exact zk_str (hKn3.2.1) (hts (.stringRef RX7 118 "the count of eighths is not a multiple of 8") (List.mem_of_getElem? (i := 575) (by decide +kernel)))
      · exact zk_str (hKn3.2.1) (hts (.stringRef RX7 136 "the product is no volume") (List.mem_of_getElem? (i := 595) (by decide +kernel)))
      · exact zk_str (hKn3.2.1) (hts (.stringRef RX7 230 "the volume is below, or 0") (List.mem_of_getElem? (i := 608) (by decide +kernel)))
      · exact zk_str (hKn3.2.1) (hts (.stringRef RX7 148 "the sum is no volume") (List.mem_of_getElem? (i := 610) (by decide +kernel)))
      · exact zk_str (hKn3.2.1) (hts (.stringRef RX7 157 "there is no such count") (List.mem_of_getElem? (i := 623) (by decide +kernel)))
      · exact zk_str (hKn3.2.1) (hts (.stringRef RX7 232 "no such number of counts") (List.mem_of_getElem? (i := 635) (by decide +kernel)))
      · exact zk_str (hKn3.2.1) (hts (.stringRef RX7 173 "the tower has as many cubes as it may") (List.mem_of_getElem? (i := 665) (by decide +kernel)))
      · exact zk_str (hKn3.2.1) (hts (.stringRef RX7 240 "the tower has no cubes") (List.mem_of_getElem? (i := 699) (by decide +kernel)))
      · exact zk_str (hKn3.2.1) (hts (.stringRef RX7 200 "the sum of the tower is no volume") (List.mem_of_getElem? (i := 723) (by decide +kernel)))
  · intro q hq
    simp only [zPr, List.mem_cons, List.not_mem_nil, or_false] at hq
    rcases hq with rfl | rfl | rfl | rfl | rfl | rfl | rfl <;> exact va_Nc.of (hs _ (by decide +kernel))
section ZQ
variable {p : Program} {l : Launch} {e : Env} {s : State} {m : MethodId} {below : List Frame} {meth : Method} {c : Code} {sb SL : Nat} {xs : Nat → Int32} {D : va_G} {T : Nat → ClassId}
set_option maxRecDepth 20000 in
theorem law_loop (hlf : l.stackTraces = false) (C0 : LC p s m meth c sb SL xs D T (fun q : Nat => s.heap.size ≤ q)) (hSL : SL ≤ 2560) (x vs es o c1 f1 t bl fl br fr bg fg q a1 a2 a3 a4 a5 ol od0 : Nat) : ∀ (n i cells slots : Nat), i ≤ SL → SL + 5 ≤ i + 5 * n → cells + 8 * n ≤ 603072 → slots + 64 * n ≤ 7223402 → LK p l e s m below meth c sb D T (fun q : Nat => s.heap.size ≤ q) x vs es o c1 f1 t bl fl br fr bg fg q a1 a2 a3 a4 a5 ol od0 i 28 cells slots := by
  obtain ⟨hx, hb, hr, hml, hown, hts, hX, hbl, hlocks, hK, hZ, hN0, hA, hbA⟩ := id C0
  intro n
  induction n with
  | zero =>
    intro i cells slots h1 h2
    exact absurd h2 (by omega)
  | succ n ih =>
    intro i cells slots h1 h2 hc1 hc2 yv tw n0 NL NR NG nc ne th ou od H locs I0 hP hD hS ls hl
    refine lv_iload hx hb dL_law_28 (lv_at hl 5 rfl) ?_
    refine lv_aload_n hx hb dL_law_30 rfl (lv_at hl 0 rfl) ?_
    refine va_slen hx hb hX hbl hbA hS dL_law_31 ?_
    refine lv_iconst (v := 5) hx hb dL_law_32 (by decide) ?_
    refine lv_isub hx hb dL_law_33 ?_
    refine lv_icmp_gt (tgt := 1811) hx hb dL_law_34 (by decide) (fun _ => ?_) (fun h3 => ?_)
    · refine lv_iconst (v := 1) hx hb dL_law_1811 (by decide) ?_
      refine va_forget (fun q hq => hS.2.2 q hq) ?_
      refine W.widen (k := 603072) (n := 7223402) (by omega) (by omega) ?_
      refine W.base ?_
      exact lw_ret (Drawn.sameBut.refl s.drawn lw_cs) hx hb hr hlocks dL_law_1812
    · have hi : i + 5 ≤ SL := lp_in hSL (by omega) h3
      refine lv_aload_n hx hb dL_law_37 rfl (lv_at hl 0 rfl) ?_
      refine lv_iload hx hb dL_law_38 (lv_at hl 5 rfl) ?_
      refine za_sld hx hb hX hbl hbA hS i (by omega) hSL (xs i) rfl dL_law_40 ?_
      refine lv_bipush (v := 31) hx hb dL_law_41 (by decide) ?_
      refine lv_iand hx hb dL_law_43 ?_
      obtain ⟨k, hk, ek⟩ := pk_andE (xs i) (m := 31) 5 (by decide)
      refine zf_i (x' := nI k) ek ?_
      have K : LK p l e s m below meth c sb D T (fun q : Nat => s.heap.size ≤ q) x vs es o c1 f1 t bl fl br fr bg fg q a1 a2 a3 a4 a5 ol od0 i 1805 (cells + 8) (slots + 64) := by
        intro yv tw n0 NL NR NG nc ne th ou od H locs I0 hP hD hS ls hl
        refine lv_iinc (v := nI (i + 5)) (lv' := [(5, .int (nI (i + 5))), (0, .ref sb), (1, .ref x), (2, .ref q), (3, .ref ol), (4, .ref od0)]) hx hb dL_law_1805 hl (k := 5) rfl (nI_add i 5) (by decide) rfl (fun ls hl => ?_)
        refine lv_goto (tgt := 28) hx hb dL_law_1808 (by decide) ?_
        exact ih (i + 5) (cells + 8) (slots + 64) hi (by omega) (by omega) (by omega) yv tw n0 NL NR NG nc ne th ou od H locs I0 hP hD hS ls (lv_sub hl [1, 2, 3, 4, 5, 0] rfl)
      have hcs : cells + 8 ≤ 603072 ∧ slots + 64 ≤ 7223402 := ⟨by omega, by omega⟩
      by_cases h27 : k < 27
      · rcases (show k = 0 ∨ k = 1 ∨ k = 2 ∨ k = 3 ∨ k = 4 ∨ k = 5 ∨ k = 6 ∨ k = 7 ∨ k = 8 ∨ k = 9 ∨ k = 10 ∨ k = 11 ∨ k = 12 ∨ k = 13 ∨ k = 14 ∨ k = 15 ∨ k = 16 ∨ k = 17 ∨ k = 18 ∨ k = 19 ∨ k = 20 ∨ k = 21 ∨ k = 22 ∨ k = 23 ∨ k = 24 ∨ k = 25 ∨ k = 26 by omega) with rfl | rfl | rfl | rfl | rfl | rfl | rfl | rfl | rfl | rfl | rfl | rfl | rfl | rfl | rfl | rfl | rfl | rfl | rfl | rfl | rfl | rfl | rfl | rfl | rfl | rfl | rfl
        · refine lv_tableIn (tgt := 168) hx hb dL_law_44 (by decide) (by decide) (off := 124) rfl (by decide) ?_
          exact lm_put hlf C0 hcs hi hSL x vs es o c1 f1 t bl fl br fr bg fg q a1 a2 a3 a4 a5 ol od0 K yv tw n0 NL NR NG nc ne th ou od H locs I0 hP hD hS ls hl
        · refine lv_tableIn (tgt := 292) hx hb dL_law_44 (by decide) (by decide) (off := 248) rfl (by decide) ?_
          exact lm_volume hlf C0 hcs hi hSL x vs es o c1 f1 t bl fl br fr bg fg q a1 a2 a3 a4 a5 ol od0 K yv tw n0 NL NR NG nc ne th ou od H locs I0 hP hD hS ls hl
        · refine lv_tableIn (tgt := 348) hx hb dL_law_44 (by decide) (by decide) (off := 304) rfl (by decide) ?_
          exact lm_kind hlf C0 hcs hi hSL x vs es o c1 f1 t bl fl br fr bg fg q a1 a2 a3 a4 a5 ol od0 K yv tw n0 NL NR NG nc ne th ou od H locs I0 hP hD hS ls hl
        · refine lv_tableIn (tgt := 404) hx hb dL_law_44 (by decide) (by decide) (off := 360) rfl (by decide) ?_
          exact lm_fine hlf C0 hcs hi hSL x vs es o c1 f1 t bl fl br fr bg fg q a1 a2 a3 a4 a5 ol od0 K yv tw n0 NL NR NG nc ne th ou od H locs I0 hP hD hS ls hl
        · refine lv_tableIn (tgt := 460) hx hb dL_law_44 (by decide) (by decide) (off := 416) rfl (by decide) ?_
          exact lm_whole hlf C0 hcs hi hSL x vs es o c1 f1 t bl fl br fr bg fg q a1 a2 a3 a4 a5 ol od0 K yv tw n0 NL NR NG nc ne th ou od H locs I0 hP hD hS ls hl
        · refine lv_tableIn (tgt := 516) hx hb dL_law_44 (by decide) (by decide) (off := 472) rfl (by decide) ?_
          exact lm_coarse hlf C0 hcs hi hSL x vs es o c1 f1 t bl fl br fr bg fg q a1 a2 a3 a4 a5 ol od0 K yv tw n0 NL NR NG nc ne th ou od H locs I0 hP hD hS ls hl
        · refine lv_tableIn (tgt := 593) hx hb dL_law_44 (by decide) (by decide) (off := 549) rfl (by decide) ?_
          exact lm_isExact hlf C0 hcs hi hSL x vs es o c1 f1 t bl fl br fr bg fg q a1 a2 a3 a4 a5 ol od0 K yv tw n0 NL NR NG nc ne th ou od H locs I0 hP hD hS ls hl
        · refine lv_tableIn (tgt := 656) hx hb dL_law_44 (by decide) (by decide) (off := 612) rfl (by decide) ?_
          exact lm_bits hlf C0 hcs hi hSL x vs es o c1 f1 t bl fl br fr bg fg q a1 a2 a3 a4 a5 ol od0 K yv tw n0 NL NR NG nc ne th ou od H locs I0 hP hD hS ls hl
        · refine lv_tableIn (tgt := 711) hx hb dL_law_44 (by decide) (by decide) (off := 667) rfl (by decide) ?_
          exact lm_order hlf C0 hcs hi hSL x vs es o c1 f1 t bl fl br fr bg fg q a1 a2 a3 a4 a5 ol od0 K yv tw n0 NL NR NG nc ne th ou od H locs I0 hP hD hS ls hl
        · refine lv_tableIn (tgt := 779) hx hb dL_law_44 (by decide) (by decide) (off := 735) rfl (by decide) ?_
          exact lm_grow hlf C0 hcs hi hSL x vs es o c1 f1 t bl fl br fr bg fg q a1 a2 a3 a4 a5 ol od0 K yv tw n0 NL NR NG nc ne th ou od H locs I0 hP hD hS ls hl
        · refine lv_tableIn (tgt := 847) hx hb dL_law_44 (by decide) (by decide) (off := 803) rfl (by decide) ?_
          exact lm_sort hlf C0 hcs hi hSL x vs es o c1 f1 t bl fl br fr bg fg q a1 a2 a3 a4 a5 ol od0 K yv tw n0 NL NR NG nc ne th ou od H locs I0 hP hD hS ls hl
        · refine lv_tableIn (tgt := 860) hx hb dL_law_44 (by decide) (by decide) (off := 816) rfl (by decide) ?_
          exact lm_opposite hlf C0 hcs hi hSL x vs es o c1 f1 t bl fl br fr bg fg q a1 a2 a3 a4 a5 ol od0 K yv tw n0 NL NR NG nc ne th ou od H locs I0 hP hD hS ls hl
        · refine lv_tableIn (tgt := 935) hx hb dL_law_44 (by decide) (by decide) (off := 891) rfl (by decide) ?_
          exact lm_eightfold hlf C0 hcs hi hSL x vs es o c1 f1 t bl fl br fr bg fg q a1 a2 a3 a4 a5 ol od0 K yv tw n0 NL NR NG nc ne th ou od H locs I0 hP hD hS ls hl
        · refine lv_tableIn (tgt := 1010) hx hb dL_law_44 (by decide) (by decide) (off := 966) rfl (by decide) ?_
          exact lm_eighth hlf C0 hcs hi hSL x vs es o c1 f1 t bl fl br fr bg fg q a1 a2 a3 a4 a5 ol od0 K yv tw n0 NL NR NG nc ne th ou od H locs I0 hP hD hS ls hl
        · refine lv_tableIn (tgt := 1085) hx hb dL_law_44 (by decide) (by decide) (off := 1041) rfl (by decide) ?_
          exact lm_isNear hlf C0 hcs hi hSL x vs es o c1 f1 t bl fl br fr bg fg q a1 a2 a3 a4 a5 ol od0 K yv tw n0 NL NR NG nc ne th ou od H locs I0 hP hD hS ls hl
        · refine lv_tableIn (tgt := 1148) hx hb dL_law_44 (by decide) (by decide) (off := 1104) rfl (by decide) ?_
          exact lm_multiply hlf C0 hcs hi hSL x vs es o c1 f1 t bl fl br fr bg fg q a1 a2 a3 a4 a5 ol od0 K yv tw n0 NL NR NG nc ne th ou od H locs I0 hP hD hS ls hl
        · refine lv_tableIn (tgt := 1235) hx hb dL_law_44 (by decide) (by decide) (off := 1191) rfl (by decide) ?_
          exact lm_add hlf C0 hcs hi hSL x vs es o c1 f1 t bl fl br fr bg fg q a1 a2 a3 a4 a5 ol od0 K yv tw n0 NL NR NG nc ne th ou od H locs I0 hP hD hS ls hl
        · refine lv_tableIn (tgt := 1322) hx hb dL_law_44 (by decide) (by decide) (off := 1278) rfl (by decide) ?_
          exact lm_find hlf C0 hcs hi hSL x vs es o c1 f1 t bl fl br fr bg fg q a1 a2 a3 a4 a5 ol od0 K yv tw n0 NL NR NG nc ne th ou od H locs I0 hP hD hS ls hl
        · refine lv_tableIn (tgt := 1406) hx hb dL_law_44 (by decide) (by decide) (off := 1362) rfl (by decide) ?_
          exact lm_sum hlf C0 hcs hi hSL x vs es o c1 f1 t bl fl br fr bg fg q a1 a2 a3 a4 a5 ol od0 K yv tw n0 NL NR NG nc ne th ou od H locs I0 hP hD hS ls hl
        · refine lv_tableIn (tgt := 1474) hx hb dL_law_44 (by decide) (by decide) (off := 1430) rfl (by decide) ?_
          exact lm_exact hlf C0 hcs hi hSL x vs es o c1 f1 t bl fl br fr bg fg q a1 a2 a3 a4 a5 ol od0 K yv tw n0 NL NR NG nc ne th ou od H locs I0 hP hD hS ls hl
        · refine lv_tableIn (tgt := 1542) hx hb dL_law_44 (by decide) (by decide) (off := 1498) rfl (by decide) ?_
          exact lm_lay hlf C0 hcs hi hSL x vs es o c1 f1 t bl fl br fr bg fg q a1 a2 a3 a4 a5 ol od0 K yv tw n0 NL NR NG nc ne th ou od H locs I0 hP hD hS ls hl
        · refine lv_tableIn (tgt := 1598) hx hb dL_law_44 (by decide) (by decide) (off := 1554) rfl (by decide) ?_
          exact lm_lift hlf C0 hcs hi hSL x vs es o c1 f1 t bl fl br fr bg fg q a1 a2 a3 a4 a5 ol od0 K yv tw n0 NL NR NG nc ne th ou od H locs I0 hP hD hS ls hl
        · refine lv_tableIn (tgt := 1654) hx hb dL_law_44 (by decide) (by decide) (off := 1610) rfl (by decide) ?_
          exact lm_under hlf C0 hcs hi hSL x vs es o c1 f1 t bl fl br fr bg fg q a1 a2 a3 a4 a5 ol od0 K yv tw n0 NL NR NG nc ne th ou od H locs I0 hP hD hS ls hl
        · refine lv_tableIn (tgt := 1679) hx hb dL_law_44 (by decide) (by decide) (off := 1635) rfl (by decide) ?_
          exact lm_melt hlf C0 hcs hi hSL x vs es o c1 f1 t bl fl br fr bg fg q a1 a2 a3 a4 a5 ol od0 K yv tw n0 NL NR NG nc ne th ou od H locs I0 hP hD hS ls hl
        · refine lv_tableIn (tgt := 1735) hx hb dL_law_44 (by decide) (by decide) (off := 1691) rfl (by decide) ?_
          exact lm_upperShare hlf C0 hcs hi hSL x vs es o c1 f1 t bl fl br fr bg fg q a1 a2 a3 a4 a5 ol od0 K yv tw n0 NL NR NG nc ne th ou od H locs I0 hP hD hS ls hl
        · refine lv_tableIn (tgt := 1778) hx hb dL_law_44 (by decide) (by decide) (off := 1734) rfl (by decide) ?_
          exact lm_checksum hlf C0 hcs hi hSL x vs es o c1 f1 t bl fl br fr bg fg q a1 a2 a3 a4 a5 ol od0 K yv tw n0 NL NR NG nc ne th ou od H locs I0 hP hD hS ls hl
        · refine lv_tableIn (tgt := 1792) hx hb dL_law_44 (by decide) (by decide) (off := 1748) rfl (by decide) ?_
          exact lm_isSound hlf C0 hcs hi hSL x vs es o c1 f1 t bl fl br fr bg fg q a1 a2 a3 a4 a5 ol od0 K yv tw n0 NL NR NG nc ne th ou od H locs I0 hP hD hS ls hl
      · refine lv_tableOut (tgt := 1805) hx hb dL_law_44 (Or.inr (by rw [nI_toInt (by omega)]; omega)) (by decide) ?_
        exact zc_more (by omega) (by omega) (K yv tw n0 NL NR NG nc ne th ou od H locs I0 hP hD hS ls hl)
end ZQ
