/-! Sorting. -/
def ltI (yv : Nat → Nat) (j i : Nat) : Bool := decide (sgN (yv j) < sgN (yv i)) || (decide (sgN (yv j) = sgN (yv i)) && decide (j < i))
def rkN (yv : Nat → Nat) (i : Nat) : Nat → Nat
  | 0 => 0
  | m + 1 => rkN yv i m + (if ltI yv m i = true then 1 else 0)
def mvN (yv : Nat → Nat) : Nat → Nat
  | 0 => 0
  | i + 1 => mvN yv i + (if rkN yv i 8 = i then 0 else 1)
def wrS (yv : Nat → Nat) : Nat → (Nat → Nat)
  | 0 => yv
  | i + 1 => up (wrS yv i) (rkN yv i 8) (yv i)
theorem ltI_iff (yv : Nat → Nat) (j i : Nat) : ltI yv j i = true ↔ (sgN (yv j) < sgN (yv i) ∨ (sgN (yv j) = sgN (yv i) ∧ j < i)) := by
  unfold ltI
  rw [Bool.or_eq_true, Bool.and_eq_true, decide_eq_true_iff, decide_eq_true_iff, decide_eq_true_iff]
theorem rk_1 {yv : Nat → Nat} {i j : Nat} (h : ltI yv j i = true) : rkN yv i (j + 1) = rkN yv i j + 1 := by rw [rkN, if_pos h]
theorem rk_0 {yv : Nat → Nat} {i j : Nat} (h : ltI yv j i = false) : rkN yv i (j + 1) = rkN yv i j := by rw [rkN, if_neg (by rw [h]; decide)]; rfl
theorem lI_a {yv : Nat → Nat} {i j : Nat} (hj : j < i) (h : ltB (yv i) (yv j) = false) : ltI yv j i = true := by
  have := ltB_f h
  refine (ltI_iff yv j i).mpr ?_
  omega
theorem lI_b {yv : Nat → Nat} {i j : Nat} (h : ltB (yv j) (yv i) = true) : ltI yv j i = true := (ltI_iff yv j i).mpr (Or.inl (ltB_t h))
theorem lI_c {yv : Nat → Nat} {i j : Nat} (h : ltB (yv j) (yv i) = false) (h2 : i ≤ j ∨ ltB (yv i) (yv j) = true) : ltI yv j i = false := by
  have h3 := ltB_f h
  refine Bool.eq_false_iff.mpr fun q => ?_
  have h4 := (ltI_iff yv j i).mp q
  rcases h2 with h2 | h2
  · omega
  · have := ltB_t h2
    omega
theorem lI_d {yv : Nat → Nat} {i j : Nat} (hy : ∀ k, yv k < 262144) (h : sgI (yv j) < sgI (yv i)) : ltI yv j i = true := by
  refine (ltI_iff yv j i).mpr (Or.inl ?_)
  rw [Int32.lt_iff_toInt_lt, sgI_i (hy j), sgI_i (hy i)] at h
  exact h
theorem sg_eq {v w : Nat} (hv : v < 262144) (hw : w < 262144) : sgI v = sgI w ↔ sgN v = sgN w := by
  rw [← Int32.toInt_inj, sgI_i hv, sgI_i hw]
theorem lI_e {yv : Nat → Nat} {i j : Nat} (hy : ∀ k, yv k < 262144) (h : sgI (yv j) = sgI (yv i)) (h2 : j < i) : ltI yv j i = true := (ltI_iff yv j i).mpr (Or.inr ⟨(sg_eq (hy j) (hy i)).mp h, h2⟩)
theorem lI_f {yv : Nat → Nat} {i j : Nat} (hy : ∀ k, yv k < 262144) (h : ¬ sgI (yv j) < sgI (yv i)) (h2 : ¬ sgI (yv j) = sgI (yv i) ∨ i ≤ j) : ltI yv j i = false := by
  refine Bool.eq_false_iff.mpr fun q => ?_
  have h4 := (ltI_iff yv j i).mp q
  rw [Int32.lt_iff_toInt_lt, sgI_i (hy j), sgI_i (hy i)] at h
  rw [sg_eq (hy j) (hy i)] at h2
  omega
/-- counting -/
theorem ltI_irr (yv : Nat → Nat) (i : Nat) : ltI yv i i = false := by
  refine Bool.eq_false_iff.mpr fun q => ?_
  have := (ltI_iff yv i i).mp q
  omega
theorem ltI_tr {yv : Nat → Nat} {i j k : Nat} (h1 : ltI yv i j = true) (h2 : ltI yv j k = true) : ltI yv i k = true := by
  have a := (ltI_iff yv i j).mp h1
  have b := (ltI_iff yv j k).mp h2
  refine (ltI_iff yv i k).mpr ?_
  omega
theorem ltI_tot {yv : Nat → Nat} {i j : Nat} (h : ¬ i = j) (h1 : ltI yv i j = false) : ltI yv j i = true := by
  refine (ltI_iff yv j i).mpr ?_
  have h2 : ¬ (sgN (yv i) < sgN (yv j) ∨ (sgN (yv i) = sgN (yv j) ∧ i < j)) := fun q => by
    have := (ltI_iff yv i j).mpr q
    rw [h1] at this
    exact absurd this (by decide)
  omega
theorem rk_mono {yv : Nat → Nat} {i k : Nat} (h : ltI yv i k = true) : ∀ m, rkN yv i m ≤ rkN yv k m
  | 0 => Nat.le_refl _
  | m + 1 => by
    have ih := rk_mono h m
    show rkN yv i m + _ ≤ rkN yv k m + _
    by_cases q : ltI yv m i = true
    · rw [if_pos q, if_pos (ltI_tr q h)]; omega
    · rw [if_neg q]; omega
theorem rk_lt {yv : Nat → Nat} {i k : Nat} (h : ltI yv i k = true) : ∀ m, i < m → rkN yv i m < rkN yv k m
  | 0, q => absurd q (Nat.not_lt_zero _)
  | m + 1, q => by
    show rkN yv i m + _ < rkN yv k m + _
    by_cases e : i = m
    · subst e
      rw [ltI_irr, if_pos h, if_neg (by decide)]
      have := rk_mono h i
      omega
    · have ih := rk_lt h m (by omega)
      by_cases q2 : ltI yv m i = true
      · rw [if_pos q2, if_pos (ltI_tr q2 h)]; omega
      · rw [if_neg q2]; omega
theorem rk_le (yv : Nat → Nat) (i : Nat) : ∀ m, rkN yv i m ≤ m
  | 0 => Nat.le_refl _
  | m + 1 => by
    have := rk_le yv i m
    show rkN yv i m + _ ≤ m + 1
    split <;> omega
theorem rk_in (yv : Nat → Nat) (i : Nat) : ∀ m, i < m → rkN yv i m < m
  | 0, q => absurd q (Nat.not_lt_zero _)
  | m + 1, q => by
    show rkN yv i m + _ < m + 1
    by_cases e : i = m
    · subst e
      rw [ltI_irr, if_neg (by decide)]
      have := rk_le yv i i
      omega
    · have := rk_in yv i m (by omega)
      split <;> omega
theorem rk_inj {yv : Nat → Nat} {i k m : Nat} (hi : i < m) (hk : k < m) (h : rkN yv i m = rkN yv k m) : i = k := by
  by_cases e : i = k
  · exact e
  · by_cases q : ltI yv i k = true
    · have := rk_lt q m hi; omega
    · have := rk_lt (ltI_tot e (Bool.eq_false_iff.mpr q)) m hk; omega
/-- one more sunk to its place -/
def spN (A : Nat → Nat) (v : Nat) : Nat → Nat
  | 0 => 0
  | p + 1 => if ltB v (A p) = true then spN A v p else p + 1
def insN (A : Nat → Nat) (m : Nat) : Nat → Nat := fun k => if k < spN A (A m) m then A k else if k = spN A (A m) m then A m else if k ≤ m then A (k - 1) else A k
def isN8 (yv : Nat → Nat) : Nat → (Nat → Nat)
  | 0 => yv
  | m + 1 => insN (isN8 yv m) (m + 1)
theorem insN_lt {A : Nat → Nat} {N : Nat} (h : ∀ k, A k < N) (m k : Nat) : insN A m k < N := by
  unfold insN
  split
  · exact h _
  · split
    · exact h _
    · split <;> exact h _
theorem isN8_lt {yv : Nat → Nat} {N : Nat} (h : ∀ k, yv k < N) : ∀ m k, isN8 yv m k < N
  | 0 => h
  | m + 1 => insN_lt (isN8_lt h m) (m + 1)
theorem wrS_lt {yv : Nat → Nat} {N : Nat} (h : ∀ k, yv k < N) : ∀ m k, wrS yv m k < N
  | 0 => h
  | m + 1 => up_lt (wrS_lt h m) (h m)
theorem sp_at {A : Nat → Nat} {v q : Nat} : ∀ m, q ≤ m → (∀ k, k < q → ltB v (A k) = false) → (∀ k, q ≤ k → k < m → ltB v (A k) = true) → spN A v m = q
  | 0, h, _, _ => (Nat.le_zero.mp h).symm
  | p + 1, h, h1, h2 => by
    rw [spN]
    by_cases e : q = p + 1
    · subst e
      rw [if_neg (by rw [h1 p (by omega)]; decide)]
    · rw [if_pos (h2 p (by omega) (by omega))]
      exact sp_at p (by omega) h1 (fun k a b => h2 k a (by omega))
/-- the first m are in order: place k holds what was at P k -/
def srt (yv A : Nat → Nat) (m : Nat) (P : Nat → Nat) : Prop := (∀ k, k < m → P k < m ∧ rkN yv (P k) m = k ∧ A k = yv (P k)) ∧ ∀ k, m ≤ k → A k = yv k
theorem rk_q {yv : Nat → Nat} {i m : Nat} (hi : i < m) : rkN yv i m < rkN yv m m ↔ ltI yv i m = true := by
  constructor
  · intro h
    by_cases q : ltI yv i m = true
    · exact q
    · have := rk_mono (ltI_tot (by omega : ¬ i = m) (Bool.eq_false_iff.mpr q)) m
      omega
  · exact fun h => rk_lt h m hi
theorem ltI_lt {yv : Nat → Nat} {i m : Nat} (hi : i < m) : ltB (yv m) (yv i) = true ↔ ltI yv i m = false := by
  constructor
  · intro h
    have := ltB_t h
    refine Bool.eq_false_iff.mpr fun q => ?_
    have := (ltI_iff yv i m).mp q
    omega
  · intro h
    refine decide_eq_true ?_
    have h2 := (ltI_iff yv m i).mp (ltI_tot (by omega : ¬ i = m) h)
    omega
theorem srt_step {yv A : Nat → Nat} {m : Nat} {P : Nat → Nat} (h : srt yv A m P) : ∃ P2, srt yv (insN A m) (m + 1) P2 := by
  obtain ⟨h1, h2⟩ := h
  have hq : rkN yv m m ≤ m := rk_le yv m m
  have hAm : A m = yv m := h2 m (Nat.le_refl m)
  have hs : spN A (A m) m = rkN yv m m := by
    rw [hAm]
    refine sp_at m hq (fun k hk => ?_) (fun k a b => ?_)
    · obtain ⟨a1, a2, a3⟩ := h1 k (by omega)
      rw [a3]
      have h3 := (rk_q (yv := yv) a1).mp (by omega)
      refine Bool.eq_false_iff.mpr fun q => ?_
      rw [(ltI_lt a1).mp q] at h3
      exact absurd h3 (by decide)
    · obtain ⟨a1, a2, a3⟩ := h1 k b
      rw [a3]
      refine (ltI_lt a1).mpr (Bool.eq_false_iff.mpr fun q => ?_)
      have := (rk_q a1).mpr q
      omega
  refine ⟨fun k => if k < rkN yv m m then P k else if k = rkN yv m m then m else P (k - 1), fun k hk => ?_, fun k hk => ?_⟩
  · unfold insN
    rw [hs]
    by_cases c1 : k < rkN yv m m
    · obtain ⟨a1, a2, a3⟩ := h1 k (by omega)
      simp only [if_pos c1]
      have h3 : ltI yv m (P k) = false := by
        refine Bool.eq_false_iff.mpr fun q => ?_
        have := rk_mono q m
        omega
      exact ⟨by omega, by rw [rk_0 h3, a2], a3⟩
    · simp only [if_neg c1]
      by_cases c2 : k = rkN yv m m
      · simp only [if_pos c2]
        exact ⟨by omega, by rw [rk_0 (ltI_irr yv m), c2], hAm⟩
      · simp only [if_neg c2]
        obtain ⟨a1, a2, a3⟩ := h1 (k - 1) (by omega)
        rw [if_pos (by omega)]
        have h3 : ltI yv m (P (k - 1)) = true := by
          refine ltI_tot (by omega) (Bool.eq_false_iff.mpr fun q => ?_)
          have := (rk_q a1).mpr q
          omega
        exact ⟨by omega, by rw [rk_1 h3, a2]; omega, a3⟩
  · unfold insN
    rw [hs, if_neg (by omega), if_neg (by omega), if_neg (by omega)]
    exact h2 k (by omega)
theorem srt_all (yv : Nat → Nat) : ∀ m, ∃ P, srt yv (isN8 yv m) (m + 1) P
  | 0 => by
    refine ⟨fun _ => 0, fun k hk => ?_, fun k _ => rfl⟩
    obtain rfl : k = 0 := by omega
    exact ⟨by decide, rk_0 (ltI_irr yv 0), rfl⟩
  | m + 1 => by
    obtain ⟨P, h⟩ := srt_all yv m
    exact srt_step h
theorem wr_at {yv A : Nat → Nat} {P : Nat → Nat} (h : srt yv A 8 P) : ∀ n, n ≤ 8 → ∀ k, wrS yv n k = if k < 8 ∧ P k < n then yv (P k) else yv k
  | 0, _, k => by
    rw [if_neg (fun q => Nat.not_lt_zero _ q.2)]
    rfl
  | n + 1, hn, k => by
    have ih := wr_at h n (by omega) k
    show (if k = rkN yv n 8 then yv n else wrS yv n k) = _
    have hr := rk_in yv n 8 (by omega)
    by_cases e : k = rkN yv n 8
    · obtain ⟨a1, a2, a3⟩ := h.1 k (by omega)
      have e2 : P k = n := rk_inj (yv := yv) (m := 8) a1 (by omega) (by omega)
      rw [if_pos e, e2, if_pos ⟨by omega, by omega⟩]
    · rw [if_neg e, ih]
      by_cases c : k < 8
      · obtain ⟨a1, a2, a3⟩ := h.1 k c
        have e2 : ¬ P k = n := fun q => e (by rw [← q, a2])
        by_cases c2 : P k < n
        · rw [if_pos ⟨c, c2⟩, if_pos ⟨c, by omega⟩]
        · rw [if_neg (fun q => c2 q.2), if_neg (fun q => by have := q.2; omega)]
      · rw [if_neg (fun q => c q.1), if_neg (fun q => c q.1)]
theorem sort_same (yv : Nat → Nat) : isN8 yv 7 = wrS yv 8 := by
  obtain ⟨P, h⟩ := srt_all yv 7
  funext k
  rw [wr_at h 8 (Nat.le_refl 8) k]
  by_cases c : k < 8
  · obtain ⟨a1, a2, a3⟩ := h.1 k c
    rw [if_pos ⟨c, a1⟩, a3]
  · rw [if_neg (fun q => c q.1), h.2 k (by omega)]
set_option maxRecDepth 20000 in
theorem c_X7_sortedPlaceOf (l : Launch) (D : va_G) (T : Nat → ClassId) (x vs es o t : Nat) (yv : Nat → Nat) (i : Nat) (hi : i < 8) (hy : ∀ k, yv k < 262144) : Hm l yX7_sortedPlaceOf cX7_sortedPlaceOf 5 (some FieldType.int) 3 0 0 D T [.ref x, .int (nI i)] [(x, .inr (3, [.ref vs, .ref es, .ref o, .ref t])), (vs, .inl (T 0, 8, .inl (fun k => nI (yv k)))), (es, .inl (T 1, 8, .inr (.inl (fun k => edge (yv k)))))] (some (.int (nI (rkN yv i 8)))) (fun _ : Unit => [(x, .inr (3, [.ref vs, .ref es, .ref o, .ref t])), (vs, .inl (T 0, 8, .inl (fun k => nI (yv k)))), (es, .inl (T 1, 8, .inr (.inl (fun k => edge (yv k)))))]) := by
  refine Hm.of (by decide) (Nat.le_of_ble_eq_true rfl) ?_
  intro zp ze s zm args below zmeth zc hx hb hr hml hown hin hts hlocks A hA hP hK hD hS ls hl
  have hl : lv_has ls 5 [(0, .ref x), (1, .int (nI i))] := hl
  refine lv_iconst (v := 0) hx hb dX7_sortedPlaceOf_0 (by decide) ?_
  refine zf_i (x' := nI (rkN yv i 0)) (rfl) ?_
  refine lv_istore_n (lv' := [(2, .int (nI (rkN yv i 0))), (0, .ref x), (1, .int (nI i))]) hx hb dX7_sortedPlaceOf_1 rfl hl (by decide) rfl (fun ls hl => ?_)
  refine lv_iconst (v := 0) hx hb dX7_sortedPlaceOf_2 (by decide) ?_
  refine zf_i (x' := nI 0) (rfl) ?_
  refine lv_istore_n (lv' := [(3, .int (nI 0)), (2, .int (nI (rkN yv i 0))), (0, .ref x), (1, .int (nI i))]) hx hb dX7_sortedPlaceOf_3 rfl hl (by decide) rfl (fun ls hl => ?_)
  have lp : ∀ (n : Nat) (j : Nat), j + n = 8 → ∀ (H : Heap) (locs : List Loc), va_P D zcl [(x, .inr (3, [.ref vs, .ref es, .ref o, .ref t])), (vs, .inl (T 0, 8, .inl (fun k => nI (yv k)))), (es, .inl (T 1, 8, .inr (.inl (fun k => edge (yv k)))))] H → va_D A [(x, .inr (3, [.ref vs, .ref es, .ref o, .ref t])), (vs, .inl (T 0, 8, .inl (fun k => nI (yv k)))), (es, .inl (T 1, 8, .inr (.inl (fun k => edge (yv k)))))] → va_S A s.heap H locs → ∀ ls : Array Slot, lv_has ls 5 [(0, .ref x), (1, .int (nI i)), (2, .int (nI (rkN yv i j))), (3, .int (nI j))] → W zp l ze (zR 3 0 0) s zm args below zmeth zc H locs 0 0 (MQ below (zQh D A (some (.int (nI (rkN yv i 8)))) (fun _ : Unit => [(x, .inr (3, [.ref vs, .ref es, .ref o, .ref t])), (vs, .inl (T 0, 8, .inl (fun k => nI (yv k)))), (es, .inl (T 1, 8, .inr (.inl (fun k => edge (yv k)))))])) args s 0 0 A) (F0 zm 4 ls []) := by
    intro n
    induction n with
    | zero =>
      intro j hj H locs hP hD hS ls hl
      have hj8 : j = 8 := by omega
      refine lv_iload_n hx hb dX7_sortedPlaceOf_4 rfl (lv_at hl 3 rfl) ?_
      refine lv_bipush (v := 8) hx hb dX7_sortedPlaceOf_5 (by decide) ?_
      refine lv_icmp_ge (tgt := 72) hx hb dX7_sortedPlaceOf_7 (by decide) (fun h1 => ?_) (fun h1 => ?_)
      · refine lv_iload_n hx hb dX7_sortedPlaceOf_72 rfl (lv_at hl 2 rfl) ?_
        exact zh_iret () hx hb hr hlocks dX7_sortedPlaceOf_73 hP hD hS (by rw [hj8]) (rfl)
      · exact absurd (show nI 8 ≤ nI j from nI_le (by omega) (by omega)) h1
    | succ n ih =>
      intro j hj H locs hP hD hS ls hl
      have hj8 : j < 8 := by omega
      refine lv_iload_n hx hb dX7_sortedPlaceOf_4 rfl (lv_at hl 3 rfl) ?_
      refine lv_bipush (v := 8) hx hb dX7_sortedPlaceOf_5 (by decide) ?_
      refine lv_icmp_ge (tgt := 72) hx hb dX7_sortedPlaceOf_7 (by decide) (fun h2 => ?_) (fun h2 => ?_)
      · exact absurd h2 (show ¬ nI 8 ≤ nI j from nI_ge (by omega) (by decide))
      · refine lv_iload_n hx hb dX7_sortedPlaceOf_10 rfl (lv_at hl 3 rfl) ?_
        refine lv_iload_n hx hb dX7_sortedPlaceOf_11 rfl (lv_at hl 1 rfl) ?_
        refine lv_icmp_ge (tgt := 37) hx hb dX7_sortedPlaceOf_12 (by decide) (fun h3 => ?_) (fun h3 => ?_)
        · refine lv_iconst (v := 0) hx hb dX7_sortedPlaceOf_37 (by decide) ?_
          refine lv_istore (lv' := [(4, .int 0), (0, .ref x), (1, .int (nI i)), (2, .int (nI (rkN yv i j))), (3, .int (nI j))]) hx hb dX7_sortedPlaceOf_38 hl (by decide) rfl (fun ls hl => ?_)
          refine lv_iload hx hb dX7_sortedPlaceOf_40 (lv_at hl 0 rfl) ?_
          refine lv_if_ne (tgt := 63) hx hb dX7_sortedPlaceOf_42 (by decide) (fun h4 => ?_) (fun h4 => ?_)
          · exact absurd h4 (by decide)
          · refine lv_aload_n hx hb dX7_sortedPlaceOf_45 rfl (lv_at hl 1 rfl) ?_
            refine va_get (D := D) (ci := 3) (v := .ref es) (C := RX7) (T := TX7) (N := 4) hx hb hts i_X7 hown hK hP 0 rfl rfl 1 (by decide) (hts _ u91) (fun _ h9 => h9) rfl dX7_sortedPlaceOf_46 ?_
            refine lv_iload_n hx hb dX7_sortedPlaceOf_49 rfl (lv_at hl 4 rfl) ?_
            refine za_lald hx hb hK hP 2 rfl j (rfl) (by omega) (by decide) dX7_sortedPlaceOf_50 ?_
            refine lv_aload_n hx hb dX7_sortedPlaceOf_51 rfl (lv_at hl 1 rfl) ?_
            refine va_get (D := D) (ci := 3) (v := .ref es) (C := RX7) (T := TX7) (N := 4) hx hb hts i_X7 hown hK hP 0 rfl rfl 1 (by decide) (hts _ u91) (fun _ h9 => h9) rfl dX7_sortedPlaceOf_52 ?_
            refine lv_iload_n hx hb dX7_sortedPlaceOf_55 rfl (lv_at hl 2 rfl) ?_
            refine za_lald hx hb hK hP 2 rfl i (rfl) (by omega) (by decide) dX7_sortedPlaceOf_56 ?_
            refine zp_call hx hb hml hown hts k_X7_82 (c_X2_isLess l (edge (yv j)) (edge (yv i))) ⟨by decide, by decide⟩ rfl hl.1 [] rfl (Nat.le_of_ble_eq_true rfl) dX7_sortedPlaceOf_57 ⟨by decide, by decide⟩ ?_
            refine zf_z (x' := ltB (yv j) (yv i)) (congrArg bI (ed_less (hy j) (hy i))) ?_
            refine zb_eq (tgt := 66) hx hb dX7_sortedPlaceOf_60 (by decide) (fun h5 => ?_) (fun h5 => ?_)
            · have hrk : nI (rkN yv i (j + 1)) = nI (rkN yv i j) := by rw [rk_0 (lI_c h5 (Or.inl (Nat.not_lt.mp fun q => absurd h3 (nI_ge q (by omega)))))]
              rw [← hrk] at hl
              refine lv_iinc (v := (nI (j + 1))) (lv' := [(3, .int (nI (j + 1))), (4, .int 0), (0, .ref x), (1, .int (nI i)), (2, .int (nI (rkN yv i (j + 1))))]) hx hb dX7_sortedPlaceOf_66 hl (k := 4) rfl (nI_1 j) (by decide) rfl (fun ls hl => ?_)
              refine lv_goto (tgt := 4) hx hb dX7_sortedPlaceOf_69 (by decide) ?_
              exact ih (j + 1) (by omega) _ _ hP hD hS ls (lv_sub hl [2, 3, 4, 0] rfl)
            · refine lv_iinc (v := nI (rkN yv i j + 1)) (lv' := [(2, .int (nI (rkN yv i j + 1))), (4, .int 0), (0, .ref x), (1, .int (nI i)), (3, .int (nI j))]) hx hb dX7_sortedPlaceOf_63 hl (k := 3) rfl (nI_1 _) (by decide) rfl (fun ls hl => ?_)
              have hrk : nI (rkN yv i (j + 1)) = nI (rkN yv i j + 1) := by rw [rk_1 (lI_b h5)]
              rw [← hrk] at hl
              refine lv_iinc (v := (nI (j + 1))) (lv' := [(3, .int (nI (j + 1))), (2, .int (nI (rkN yv i (j + 1)))), (4, .int 0), (0, .ref x), (1, .int (nI i))]) hx hb dX7_sortedPlaceOf_66 hl (k := 4) rfl (nI_1 j) (by decide) rfl (fun ls hl => ?_)
              refine lv_goto (tgt := 4) hx hb dX7_sortedPlaceOf_69 (by decide) ?_
              exact ih (j + 1) (by omega) _ _ hP hD hS ls (lv_sub hl [3, 4, 1, 0] rfl)
        · refine lv_aload_n hx hb dX7_sortedPlaceOf_15 rfl (lv_at hl 0 rfl) ?_
          refine va_get (D := D) (ci := 3) (v := .ref es) (C := RX7) (T := TX7) (N := 4) hx hb hts i_X7 hown hK hP 0 rfl rfl 1 (by decide) (hts _ u91) (fun _ h9 => h9) rfl dX7_sortedPlaceOf_16 ?_
          refine lv_iload_n hx hb dX7_sortedPlaceOf_19 rfl (lv_at hl 1 rfl) ?_
          refine za_lald hx hb hK hP 2 rfl i (rfl) (by omega) (by decide) dX7_sortedPlaceOf_20 ?_
          refine lv_aload_n hx hb dX7_sortedPlaceOf_21 rfl (lv_at hl 0 rfl) ?_
          refine va_get (D := D) (ci := 3) (v := .ref es) (C := RX7) (T := TX7) (N := 4) hx hb hts i_X7 hown hK hP 0 rfl rfl 1 (by decide) (hts _ u91) (fun _ h9 => h9) rfl dX7_sortedPlaceOf_22 ?_
          refine lv_iload_n hx hb dX7_sortedPlaceOf_25 rfl (lv_at hl 3 rfl) ?_
          refine za_lald hx hb hK hP 2 rfl j (rfl) (by omega) (by decide) dX7_sortedPlaceOf_26 ?_
          refine zp_call hx hb hml hown hts k_X7_82 (c_X2_isLess l (edge (yv i)) (edge (yv j))) ⟨by decide, by decide⟩ rfl hl.1 [] rfl (Nat.le_of_ble_eq_true rfl) dX7_sortedPlaceOf_27 ⟨by decide, by decide⟩ ?_
          refine zf_z (x' := ltB (yv i) (yv j)) (congrArg bI (ed_less (hy i) (hy j))) ?_
          refine zb_ne (tgt := 37) hx hb dX7_sortedPlaceOf_30 (by decide) (fun h6 => ?_) (fun h6 => ?_)
          · refine lv_iconst (v := 0) hx hb dX7_sortedPlaceOf_37 (by decide) ?_
            refine lv_istore (lv' := [(4, .int 0), (0, .ref x), (1, .int (nI i)), (2, .int (nI (rkN yv i j))), (3, .int (nI j))]) hx hb dX7_sortedPlaceOf_38 hl (by decide) rfl (fun ls hl => ?_)
            refine lv_iload hx hb dX7_sortedPlaceOf_40 (lv_at hl 0 rfl) ?_
            refine lv_if_ne (tgt := 63) hx hb dX7_sortedPlaceOf_42 (by decide) (fun h7 => ?_) (fun h7 => ?_)
            · exact absurd h7 (by decide)
            · refine lv_aload_n hx hb dX7_sortedPlaceOf_45 rfl (lv_at hl 1 rfl) ?_
              refine va_get (D := D) (ci := 3) (v := .ref es) (C := RX7) (T := TX7) (N := 4) hx hb hts i_X7 hown hK hP 0 rfl rfl 1 (by decide) (hts _ u91) (fun _ h9 => h9) rfl dX7_sortedPlaceOf_46 ?_
              refine lv_iload_n hx hb dX7_sortedPlaceOf_49 rfl (lv_at hl 4 rfl) ?_
              refine za_lald hx hb hK hP 2 rfl j (rfl) (by omega) (by decide) dX7_sortedPlaceOf_50 ?_
              refine lv_aload_n hx hb dX7_sortedPlaceOf_51 rfl (lv_at hl 1 rfl) ?_
              refine va_get (D := D) (ci := 3) (v := .ref es) (C := RX7) (T := TX7) (N := 4) hx hb hts i_X7 hown hK hP 0 rfl rfl 1 (by decide) (hts _ u91) (fun _ h9 => h9) rfl dX7_sortedPlaceOf_52 ?_
              refine lv_iload_n hx hb dX7_sortedPlaceOf_55 rfl (lv_at hl 2 rfl) ?_
              refine za_lald hx hb hK hP 2 rfl i (rfl) (by omega) (by decide) dX7_sortedPlaceOf_56 ?_
              refine zp_call hx hb hml hown hts k_X7_82 (c_X2_isLess l (edge (yv j)) (edge (yv i))) ⟨by decide, by decide⟩ rfl hl.1 [] rfl (Nat.le_of_ble_eq_true rfl) dX7_sortedPlaceOf_57 ⟨by decide, by decide⟩ ?_
              refine zf_z (x' := ltB (yv j) (yv i)) (congrArg bI (ed_less (hy j) (hy i))) ?_
              refine zb_eq (tgt := 66) hx hb dX7_sortedPlaceOf_60 (by decide) (fun h8 => ?_) (fun h8 => ?_)
              · have hrk : nI (rkN yv i (j + 1)) = nI (rkN yv i j) := by rw [rk_0 (lI_c h8 (Or.inr h6))]
                rw [← hrk] at hl
                refine lv_iinc (v := (nI (j + 1))) (lv' := [(3, .int (nI (j + 1))), (4, .int 0), (0, .ref x), (1, .int (nI i)), (2, .int (nI (rkN yv i (j + 1))))]) hx hb dX7_sortedPlaceOf_66 hl (k := 4) rfl (nI_1 j) (by decide) rfl (fun ls hl => ?_)
                refine lv_goto (tgt := 4) hx hb dX7_sortedPlaceOf_69 (by decide) ?_
                exact ih (j + 1) (by omega) _ _ hP hD hS ls (lv_sub hl [2, 3, 4, 0] rfl)
              · refine lv_iinc (v := nI (rkN yv i j + 1)) (lv' := [(2, .int (nI (rkN yv i j + 1))), (4, .int 0), (0, .ref x), (1, .int (nI i)), (3, .int (nI j))]) hx hb dX7_sortedPlaceOf_63 hl (k := 3) rfl (nI_1 _) (by decide) rfl (fun ls hl => ?_)
                have hrk : nI (rkN yv i (j + 1)) = nI (rkN yv i j + 1) := by rw [rk_1 (lI_b h8)]
                rw [← hrk] at hl
                refine lv_iinc (v := (nI (j + 1))) (lv' := [(3, .int (nI (j + 1))), (2, .int (nI (rkN yv i (j + 1)))), (4, .int 0), (0, .ref x), (1, .int (nI i))]) hx hb dX7_sortedPlaceOf_66 hl (k := 4) rfl (nI_1 j) (by decide) rfl (fun ls hl => ?_)
                refine lv_goto (tgt := 4) hx hb dX7_sortedPlaceOf_69 (by decide) ?_
                exact ih (j + 1) (by omega) _ _ hP hD hS ls (lv_sub hl [3, 4, 1, 0] rfl)
          · refine lv_iconst (v := 1) hx hb dX7_sortedPlaceOf_33 (by decide) ?_
            refine lv_goto (tgt := 38) hx hb dX7_sortedPlaceOf_34 (by decide) ?_
            refine lv_istore (lv' := [(4, .int 1), (0, .ref x), (1, .int (nI i)), (2, .int (nI (rkN yv i j))), (3, .int (nI j))]) hx hb dX7_sortedPlaceOf_38 hl (by decide) rfl (fun ls hl => ?_)
            refine lv_iload hx hb dX7_sortedPlaceOf_40 (lv_at hl 0 rfl) ?_
            refine lv_if_ne (tgt := 63) hx hb dX7_sortedPlaceOf_42 (by decide) (fun h9 => ?_) (fun h9 => ?_)
            · refine lv_iinc (v := nI (rkN yv i j + 1)) (lv' := [(2, .int (nI (rkN yv i j + 1))), (4, .int 1), (0, .ref x), (1, .int (nI i)), (3, .int (nI j))]) hx hb dX7_sortedPlaceOf_63 hl (k := 3) rfl (nI_1 _) (by decide) rfl (fun ls hl => ?_)
              have hrk : nI (rkN yv i (j + 1)) = nI (rkN yv i j + 1) := by rw [rk_1 (lI_a (Nat.not_le.mp fun q => h3 (nI_le q (by omega))) h6)]
              rw [← hrk] at hl
              refine lv_iinc (v := (nI (j + 1))) (lv' := [(3, .int (nI (j + 1))), (2, .int (nI (rkN yv i (j + 1)))), (4, .int 1), (0, .ref x), (1, .int (nI i))]) hx hb dX7_sortedPlaceOf_66 hl (k := 4) rfl (nI_1 j) (by decide) rfl (fun ls hl => ?_)
              refine lv_goto (tgt := 4) hx hb dX7_sortedPlaceOf_69 (by decide) ?_
              exact ih (j + 1) (by omega) _ _ hP hD hS ls (lv_sub hl [3, 4, 1, 0] rfl)
            · exact absurd h9 (by decide)
  exact lp 8 0 (by omega) _ _ hP hD hS ls (lv_sub hl [2, 3, 1, 0] rfl)
theorem sink_up {A B : Nat → Nat} {n m : Nat} (hB : ∀ k, B k = if k ≤ n + 1 then A k else if k ≤ m then A (k - 1) else A k) (hn : n + 1 ≤ m) (k : Nat) : up B (n + 1) (B n) k = if k ≤ n then A k else if k ≤ m then A (k - 1) else A k := by
  unfold up
  by_cases e : k = n + 1
  · subst e
    rw [if_pos rfl, if_neg (by omega), if_pos hn, hB n, if_pos (by omega)]
    rfl
  · rw [if_neg e, hB k]
    by_cases e2 : k ≤ n
    · rw [if_pos e2, if_pos (by omega)]
    · rw [if_neg e2, if_neg (by omega)]
theorem sink_end {A B : Nat → Nat} {p m : Nat} (hB : ∀ k, B k = if k ≤ p then A k else if k ≤ m then A (k - 1) else A k) (hs : spN A (A m) m = p) : up B p (A m) = insN A m := by
  funext k
  unfold up insN
  rw [hs, hB k]
  by_cases e : k = p
  · rw [if_pos e, if_neg (by omega), if_pos e]
  · rw [if_neg e, if_neg e]
    by_cases e2 : k < p
    · rw [if_pos e2, if_pos (by omega)]
    · rw [if_neg e2, if_neg (by omega)]
theorem nI_dec (n : Nat) : nI (n + 1) + (-1) = nI n := by
  rw [← nI_1 n, Int32.add_assoc]
  exact Int32.add_zero _
theorem sink_0 (A : Nat → Nat) (m : Nat) (k : Nat) : A k = if k ≤ m then A k else if k ≤ m then A (k - 1) else A k := by
  split
  · rfl
  · rfl
set_option maxRecDepth 20000 in
theorem c_X7_sinkToItsPlace (l : Launch) (D : va_G) (T : Nat → ClassId) (x vs es o t : Nat) (yv : Nat → Nat) (m : Nat) (hm : m < 8) (hy : ∀ k, yv k < 262144) : Hm l yX7_sinkToItsPlace cX7_sinkToItsPlace 6 none 3 0 0 D T [.ref x, .int (nI m)] [(x, .inr (3, [.ref vs, .ref es, .ref o, .ref t])), (vs, .inl (T 0, 8, .inl (fun k => nI (yv k)))), (es, .inl (T 1, 8, .inr (.inl (fun k => edge (yv k)))))] none (fun _ : Unit => [(x, .inr (3, [.ref vs, .ref es, .ref o, .ref t])), (vs, .inl (T 0, 8, .inl (fun k => nI ((insN yv m) k)))), (es, .inl (T 1, 8, .inr (.inl (fun k => edge ((insN yv m) k)))))]) := by
  refine Hm.of (by decide) (Nat.le_of_ble_eq_true rfl) ?_
  intro zp ze s zm args below zmeth zc hx hb hr hml hown hin hts hlocks A hA hP hK hD hS ls hl
  have hl : lv_has ls 6 [(0, .ref x), (1, .int (nI m))] := hl
  have hm9 := hm
  refine lv_aload_n hx hb dX7_sinkToItsPlace_0 rfl (lv_at hl 0 rfl) ?_
  refine va_get (D := D) (ci := 3) (v := .ref vs) (C := RX7) (T := TX7) (N := 4) hx hb hts i_X7 hown hK hP 0 rfl rfl 0 (by decide) (hts _ u90) (fun _ h9 => h9) rfl dX7_sinkToItsPlace_1 ?_
  refine lv_iload_n hx hb dX7_sinkToItsPlace_4 rfl (lv_at hl 1 rfl) ?_
  refine za_iald hx hb hK hP 1 rfl m (rfl) (by omega) (by decide) dX7_sinkToItsPlace_5 ?_
  refine lv_istore_n (lv' := [(2, .int (nI (yv m))), (0, .ref x), (1, .int (nI m))]) hx hb dX7_sinkToItsPlace_6 rfl hl (by decide) rfl (fun ls hl => ?_)
  refine lv_aload_n hx hb dX7_sinkToItsPlace_7 rfl (lv_at hl 1 rfl) ?_
  refine va_get (D := D) (ci := 3) (v := .ref es) (C := RX7) (T := TX7) (N := 4) hx hb hts i_X7 hown hK hP 0 rfl rfl 1 (by decide) (hts _ u91) (fun _ h9 => h9) rfl dX7_sinkToItsPlace_8 ?_
  refine lv_iload_n hx hb dX7_sinkToItsPlace_11 rfl (lv_at hl 2 rfl) ?_
  refine za_lald hx hb hK hP 2 rfl m (rfl) (by omega) (by decide) dX7_sinkToItsPlace_12 ?_
  refine lv_lstore_n (lv' := [(3, .long (edge (yv m))), (2, .int (nI (yv m))), (0, .ref x), (1, .int (nI m))]) hx hb dX7_sinkToItsPlace_13 rfl hl (by decide) rfl (fun ls hl => ?_)
  refine lv_iload_n hx hb dX7_sinkToItsPlace_14 rfl (lv_at hl 3 rfl) ?_
  refine lv_istore (lv' := [(5, .int (nI m)), (3, .long (edge (yv m))), (2, .int (nI (yv m))), (0, .ref x), (1, .int (nI m))]) hx hb dX7_sinkToItsPlace_15 hl (by decide) rfl (fun ls hl => ?_)
  have lp : ∀ (n : Nat) (B : Nat → Nat), n ≤ m → spN yv (yv m) n = spN yv (yv m) m → (∀ k, B k = if k ≤ n then yv k else if k ≤ m then yv (k - 1) else yv k) → ∀ (H : Heap) (locs : List Loc), va_P D zcl [(x, .inr (3, [.ref vs, .ref es, .ref o, .ref t])), (vs, .inl (T 0, 8, .inl (fun k => nI (B k)))), (es, .inl (T 1, 8, .inr (.inl (fun k => edge (B k)))))] H → va_D A [(x, .inr (3, [.ref vs, .ref es, .ref o, .ref t])), (vs, .inl (T 0, 8, .inl (fun k => nI (B k)))), (es, .inl (T 1, 8, .inr (.inl (fun k => edge (B k)))))] → va_S A s.heap H locs → ∀ ls : Array Slot, lv_has ls 6 [(0, .ref x), (1, .int (nI m)), (2, .int (nI (yv m))), (3, .long (edge (yv m))), (5, .int (nI n))] → W zp l ze (zR 3 0 0) s zm args below zmeth zc H locs 0 0 (MQ below (zQh D A none (fun _ : Unit => [(x, .inr (3, [.ref vs, .ref es, .ref o, .ref t])), (vs, .inl (T 0, 8, .inl (fun k => nI ((insN yv m) k)))), (es, .inl (T 1, 8, .inr (.inl (fun k => edge ((insN yv m) k)))))])) args s 0 0 A) (F0 zm 17 ls []) := by
    intro n
    induction n with
    | zero =>
      intro B hpm hsp hB H locs hP hD hS ls hl
      refine lv_iload hx hb dX7_sinkToItsPlace_17 (lv_at hl 4 rfl) ?_
      refine lv_if_le (tgt := 76) hx hb dX7_sinkToItsPlace_19 (by decide) (fun h1 => ?_) (fun h1 => ?_)
      · refine lv_aload_n hx hb dX7_sinkToItsPlace_76 rfl (lv_at hl 0 rfl) ?_
        refine va_get (D := D) (ci := 3) (v := .ref vs) (C := RX7) (T := TX7) (N := 4) hx hb hts i_X7 hown hK hP 0 rfl rfl 0 (by decide) (hts _ u90) (fun _ h9 => h9) rfl dX7_sinkToItsPlace_77 ?_
        refine lv_iload hx hb dX7_sinkToItsPlace_80 (lv_at hl 4 rfl) ?_
        refine lv_iload_n hx hb dX7_sinkToItsPlace_82 rfl (lv_at hl 2 rfl) ?_
        refine za_iast hx hb hK hP hD hS 1 rfl 0 (rfl) (by omega) (by decide) (fun k => nI (up B 0 (yv m) k)) (up_6 B 0 (yv m)) dX7_sinkToItsPlace_83 (fun H locs hP hD hS => ?_)
        have hP : va_P D zcl [(x, .inr (3, [.ref vs, .ref es, .ref o, .ref t])), (vs, .inl (T 0, 8, .inl (fun k => nI (up B 0 (yv m) k)))), (es, .inl (T 1, 8, .inr (.inl (fun k => edge (B k)))))] H := hP
        have hD : va_D A [(x, .inr (3, [.ref vs, .ref es, .ref o, .ref t])), (vs, .inl (T 0, 8, .inl (fun k => nI (up B 0 (yv m) k)))), (es, .inl (T 1, 8, .inr (.inl (fun k => edge (B k)))))] := hD
        refine lv_aload_n hx hb dX7_sinkToItsPlace_84 rfl (lv_at hl 0 rfl) ?_
        refine va_get (D := D) (ci := 3) (v := .ref es) (C := RX7) (T := TX7) (N := 4) hx hb hts i_X7 hown hK hP 0 rfl rfl 1 (by decide) (hts _ u91) (fun _ h9 => h9) rfl dX7_sinkToItsPlace_85 ?_
        refine lv_iload hx hb dX7_sinkToItsPlace_88 (lv_at hl 4 rfl) ?_
        refine lv_lload_n hx hb dX7_sinkToItsPlace_90 rfl (lv_at hl 3 rfl) ?_
        refine za_last hx hb hK hP hD hS 2 rfl 0 (rfl) (by omega) (by decide) (fun k => edge (up B 0 (yv m) k)) (up_e B 0 (yv m)) dX7_sinkToItsPlace_91 (fun H locs hP hD hS => ?_)
        have hP : va_P D zcl [(x, .inr (3, [.ref vs, .ref es, .ref o, .ref t])), (vs, .inl (T 0, 8, .inl (fun k => nI (up B 0 (yv m) k)))), (es, .inl (T 1, 8, .inr (.inl (fun k => edge (up B 0 (yv m) k)))))] H := hP
        have hD : va_D A [(x, .inr (3, [.ref vs, .ref es, .ref o, .ref t])), (vs, .inl (T 0, 8, .inl (fun k => nI (up B 0 (yv m) k)))), (es, .inl (T 1, 8, .inr (.inl (fun k => edge (up B 0 (yv m) k)))))] := hD
        exact zh_vret () hx hb hr hlocks dX7_sinkToItsPlace_92 hP hD hS (by rw [sink_end (p := 0) hB hsp.symm])
      · exact absurd (show nI 0 ≤ 0 by decide) h1
    | succ n ih =>
      intro B hpm hsp hB H locs hP hD hS ls hl
      have hBn : B n = yv n := by rw [hB n, if_pos (by omega)]
      refine lv_iload hx hb dX7_sinkToItsPlace_17 (lv_at hl 4 rfl) ?_
      refine lv_if_le (tgt := 76) hx hb dX7_sinkToItsPlace_19 (by decide) (fun h2 => ?_) (fun h2 => ?_)
      · exact absurd h2 (nI_nle (by omega) (by omega))
      · refine lv_lload_n hx hb dX7_sinkToItsPlace_22 rfl (lv_at hl 3 rfl) ?_
        refine lv_aload_n hx hb dX7_sinkToItsPlace_23 rfl (lv_at hl 0 rfl) ?_
        refine va_get (D := D) (ci := 3) (v := .ref es) (C := RX7) (T := TX7) (N := 4) hx hb hts i_X7 hown hK hP 0 rfl rfl 1 (by decide) (hts _ u91) (fun _ h9 => h9) rfl dX7_sinkToItsPlace_24 ?_
        refine lv_iload hx hb dX7_sinkToItsPlace_27 (lv_at hl 4 rfl) ?_
        refine lv_iconst (v := 1) hx hb dX7_sinkToItsPlace_29 (by decide) ?_
        refine lv_isub hx hb dX7_sinkToItsPlace_30 ?_
        refine zf_i (x' := nI n) (nI_pred n) ?_
        refine za_lald hx hb hK hP 2 rfl n (rfl) (by omega) (by decide) dX7_sinkToItsPlace_31 ?_
        refine zf_l (x' := edge (yv n)) (by rw [hBn]) ?_
        refine zp_call hx hb hml hown hts k_X7_82 (c_X2_isLess l (edge (yv m)) (edge (yv n))) ⟨by decide, by decide⟩ rfl hl.1 [] rfl (Nat.le_of_ble_eq_true rfl) dX7_sinkToItsPlace_32 ⟨by decide, by decide⟩ ?_
        refine zf_z (x' := ltB (yv m) (yv n)) (congrArg bI (ed_less (hy m) (hy n))) ?_
        refine zb_eq (tgt := 76) hx hb dX7_sinkToItsPlace_35 (by decide) (fun h3 => ?_) (fun h3 => ?_)
        · refine lv_aload_n hx hb dX7_sinkToItsPlace_76 rfl (lv_at hl 0 rfl) ?_
          refine va_get (D := D) (ci := 3) (v := .ref vs) (C := RX7) (T := TX7) (N := 4) hx hb hts i_X7 hown hK hP 0 rfl rfl 0 (by decide) (hts _ u90) (fun _ h9 => h9) rfl dX7_sinkToItsPlace_77 ?_
          refine lv_iload hx hb dX7_sinkToItsPlace_80 (lv_at hl 4 rfl) ?_
          refine lv_iload_n hx hb dX7_sinkToItsPlace_82 rfl (lv_at hl 2 rfl) ?_
          refine za_iast hx hb hK hP hD hS 1 rfl (n + 1) (rfl) (by omega) (by decide) (fun k => nI (up B (n + 1) (yv m) k)) (up_6 B (n + 1) (yv m)) dX7_sinkToItsPlace_83 (fun H locs hP hD hS => ?_)
          have hP : va_P D zcl [(x, .inr (3, [.ref vs, .ref es, .ref o, .ref t])), (vs, .inl (T 0, 8, .inl (fun k => nI (up B (n + 1) (yv m) k)))), (es, .inl (T 1, 8, .inr (.inl (fun k => edge (B k)))))] H := hP
          have hD : va_D A [(x, .inr (3, [.ref vs, .ref es, .ref o, .ref t])), (vs, .inl (T 0, 8, .inl (fun k => nI (up B (n + 1) (yv m) k)))), (es, .inl (T 1, 8, .inr (.inl (fun k => edge (B k)))))] := hD
          refine lv_aload_n hx hb dX7_sinkToItsPlace_84 rfl (lv_at hl 0 rfl) ?_
          refine va_get (D := D) (ci := 3) (v := .ref es) (C := RX7) (T := TX7) (N := 4) hx hb hts i_X7 hown hK hP 0 rfl rfl 1 (by decide) (hts _ u91) (fun _ h9 => h9) rfl dX7_sinkToItsPlace_85 ?_
          refine lv_iload hx hb dX7_sinkToItsPlace_88 (lv_at hl 4 rfl) ?_
          refine lv_lload_n hx hb dX7_sinkToItsPlace_90 rfl (lv_at hl 3 rfl) ?_
          refine za_last hx hb hK hP hD hS 2 rfl (n + 1) (rfl) (by omega) (by decide) (fun k => edge (up B (n + 1) (yv m) k)) (up_e B (n + 1) (yv m)) dX7_sinkToItsPlace_91 (fun H locs hP hD hS => ?_)
          have hP : va_P D zcl [(x, .inr (3, [.ref vs, .ref es, .ref o, .ref t])), (vs, .inl (T 0, 8, .inl (fun k => nI (up B (n + 1) (yv m) k)))), (es, .inl (T 1, 8, .inr (.inl (fun k => edge (up B (n + 1) (yv m) k)))))] H := hP
          have hD : va_D A [(x, .inr (3, [.ref vs, .ref es, .ref o, .ref t])), (vs, .inl (T 0, 8, .inl (fun k => nI (up B (n + 1) (yv m) k)))), (es, .inl (T 1, 8, .inr (.inl (fun k => edge (up B (n + 1) (yv m) k)))))] := hD
          exact zh_vret () hx hb hr hlocks dX7_sinkToItsPlace_92 hP hD hS (by rw [sink_end (p := n + 1) hB (hsp.symm.trans (by rw [spN, if_neg (by rw [h3]; decide)]))])
        · refine lv_aload_n hx hb dX7_sinkToItsPlace_38 rfl (lv_at hl 0 rfl) ?_
          refine va_get (D := D) (ci := 3) (v := .ref vs) (C := RX7) (T := TX7) (N := 4) hx hb hts i_X7 hown hK hP 0 rfl rfl 0 (by decide) (hts _ u90) (fun _ h9 => h9) rfl dX7_sinkToItsPlace_39 ?_
          refine lv_iload hx hb dX7_sinkToItsPlace_42 (lv_at hl 4 rfl) ?_
          refine lv_aload_n hx hb dX7_sinkToItsPlace_44 rfl (lv_at hl 0 rfl) ?_
          refine va_get (D := D) (ci := 3) (v := .ref vs) (C := RX7) (T := TX7) (N := 4) hx hb hts i_X7 hown hK hP 0 rfl rfl 0 (by decide) (hts _ u90) (fun _ h9 => h9) rfl dX7_sinkToItsPlace_45 ?_
          refine lv_iload hx hb dX7_sinkToItsPlace_48 (lv_at hl 4 rfl) ?_
          refine lv_iconst (v := 1) hx hb dX7_sinkToItsPlace_50 (by decide) ?_
          refine lv_isub hx hb dX7_sinkToItsPlace_51 ?_
          refine zf_i (x' := nI n) (nI_pred n) ?_
          refine za_iald hx hb hK hP 1 rfl n (rfl) (by omega) (by decide) dX7_sinkToItsPlace_52 ?_
          refine za_iast hx hb hK hP hD hS 1 rfl (n + 1) (rfl) (by omega) (by decide) (fun k => nI (up B (n + 1) (B n) k)) (up_6 B (n + 1) (B n)) dX7_sinkToItsPlace_53 (fun H locs hP hD hS => ?_)
          have hP : va_P D zcl [(x, .inr (3, [.ref vs, .ref es, .ref o, .ref t])), (vs, .inl (T 0, 8, .inl (fun k => nI (up B (n + 1) (B n) k)))), (es, .inl (T 1, 8, .inr (.inl (fun k => edge (B k)))))] H := hP
          have hD : va_D A [(x, .inr (3, [.ref vs, .ref es, .ref o, .ref t])), (vs, .inl (T 0, 8, .inl (fun k => nI (up B (n + 1) (B n) k)))), (es, .inl (T 1, 8, .inr (.inl (fun k => edge (B k)))))] := hD
          refine lv_aload_n hx hb dX7_sinkToItsPlace_54 rfl (lv_at hl 0 rfl) ?_
          refine va_get (D := D) (ci := 3) (v := .ref es) (C := RX7) (T := TX7) (N := 4) hx hb hts i_X7 hown hK hP 0 rfl rfl 1 (by decide) (hts _ u91) (fun _ h9 => h9) rfl dX7_sinkToItsPlace_55 ?_
          refine lv_iload hx hb dX7_sinkToItsPlace_58 (lv_at hl 4 rfl) ?_
          refine lv_aload_n hx hb dX7_sinkToItsPlace_60 rfl (lv_at hl 0 rfl) ?_
          refine va_get (D := D) (ci := 3) (v := .ref es) (C := RX7) (T := TX7) (N := 4) hx hb hts i_X7 hown hK hP 0 rfl rfl 1 (by decide) (hts _ u91) (fun _ h9 => h9) rfl dX7_sinkToItsPlace_61 ?_
          refine lv_iload hx hb dX7_sinkToItsPlace_64 (lv_at hl 4 rfl) ?_
          refine lv_iconst (v := 1) hx hb dX7_sinkToItsPlace_66 (by decide) ?_
          refine lv_isub hx hb dX7_sinkToItsPlace_67 ?_
          refine zf_i (x' := nI n) (nI_pred n) ?_
          refine za_lald hx hb hK hP 2 rfl n (rfl) (by omega) (by decide) dX7_sinkToItsPlace_68 ?_
          refine za_last hx hb hK hP hD hS 2 rfl (n + 1) (rfl) (by omega) (by decide) (fun k => edge (up B (n + 1) (B n) k)) (up_e B (n + 1) (B n)) dX7_sinkToItsPlace_69 (fun H locs hP hD hS => ?_)
          have hP : va_P D zcl [(x, .inr (3, [.ref vs, .ref es, .ref o, .ref t])), (vs, .inl (T 0, 8, .inl (fun k => nI (up B (n + 1) (B n) k)))), (es, .inl (T 1, 8, .inr (.inl (fun k => edge (up B (n + 1) (B n) k)))))] H := hP
          have hD : va_D A [(x, .inr (3, [.ref vs, .ref es, .ref o, .ref t])), (vs, .inl (T 0, 8, .inl (fun k => nI (up B (n + 1) (B n) k)))), (es, .inl (T 1, 8, .inr (.inl (fun k => edge (up B (n + 1) (B n) k)))))] := hD
          refine lv_iinc (v := (nI n)) (lv' := [(5, .int (nI n)), (0, .ref x), (1, .int (nI m)), (2, .int (nI (yv m))), (3, .long (edge (yv m)))]) hx hb dX7_sinkToItsPlace_70 hl (k := 4) rfl (nI_dec n) (by decide) rfl (fun ls hl => ?_)
          refine lv_goto (tgt := 17) hx hb dX7_sinkToItsPlace_73 (by decide) ?_
          exact ih (up B (n + 1) (B n)) (by omega) (by rw [← hsp, spN, if_pos h3]) (sink_up hB hpm) _ _ hP hD hS ls (lv_sub hl [1, 2, 3, 4, 0] rfl)
  exact lp m yv (Nat.le_refl m) rfl (sink_0 yv m) _ _ hP hD hS ls (lv_sub hl [3, 4, 2, 1, 0] rfl)
set_option maxRecDepth 20000 in
theorem c_X7_sort_ok (l : Launch) (D : va_G) (T : Nat → ClassId) (x vs es o t : Nat) (yv : Nat → Nat) (hy : ∀ k, yv k < 262144) : Hm l yX7_sort cX7_sort 3 (some FieldType.int) 4 0 0 D T [.ref x] [(x, .inr (3, [.ref vs, .ref es, .ref o, .ref t])), (vs, .inl (T 0, 8, .inl (fun k => nI (yv k)))), (es, .inl (T 1, 8, .inr (.inl (fun k => edge (yv k)))))] (some (.int (nI (mvN yv 8)))) (fun _ : Unit => [(x, .inr (3, [.ref vs, .ref es, .ref o, .ref t])), (vs, .inl (T 0, 8, .inl (fun k => nI ((wrS yv 8) k)))), (es, .inl (T 1, 8, .inr (.inl (fun k => edge ((wrS yv 8) k)))))]) := by
  refine Hm.of (by decide) (Nat.le_of_ble_eq_true rfl) ?_
  intro zp ze s zm args below zmeth zc hx hb hr hml hown hin hts hlocks A hA hP hK hD hS ls hl
  have hl : lv_has ls 3 [(0, .ref x)] := hl
  refine lv_iconst (v := 0) hx hb dX7_sort_0 (by decide) ?_
  refine zf_i (x' := nI (mvN yv 0)) (rfl) ?_
  refine lv_istore_n (lv' := [(1, .int (nI (mvN yv 0))), (0, .ref x)]) hx hb dX7_sort_1 rfl hl (by decide) rfl (fun ls hl => ?_)
  refine lv_iconst (v := 0) hx hb dX7_sort_2 (by decide) ?_
  refine zf_i (x' := nI 0) (rfl) ?_
  refine lv_istore_n (lv' := [(2, .int (nI 0)), (1, .int (nI (mvN yv 0))), (0, .ref x)]) hx hb dX7_sort_3 rfl hl (by decide) rfl (fun ls hl => ?_)
  have lp : ∀ (n : Nat) (i : Nat), i + n = 8 → ∀ (H : Heap) (locs : List Loc), va_P D zcl [(x, .inr (3, [.ref vs, .ref es, .ref o, .ref t])), (vs, .inl (T 0, 8, .inl (fun k => nI (yv k)))), (es, .inl (T 1, 8, .inr (.inl (fun k => edge (yv k)))))] H → va_D A [(x, .inr (3, [.ref vs, .ref es, .ref o, .ref t])), (vs, .inl (T 0, 8, .inl (fun k => nI (yv k)))), (es, .inl (T 1, 8, .inr (.inl (fun k => edge (yv k)))))] → va_S A s.heap H locs → ∀ ls : Array Slot, lv_has ls 3 [(0, .ref x), (1, .int (nI (mvN yv i))), (2, .int (nI i))] → W zp l ze (zR 4 0 0) s zm args below zmeth zc H locs 0 0 (MQ below (zQh D A (some (.int (nI (mvN yv 8)))) (fun _ : Unit => [(x, .inr (3, [.ref vs, .ref es, .ref o, .ref t])), (vs, .inl (T 0, 8, .inl (fun k => nI ((wrS yv 8) k)))), (es, .inl (T 1, 8, .inr (.inl (fun k => edge ((wrS yv 8) k)))))])) args s 0 0 A) (F0 zm 4 ls []) := by
    intro n
    induction n with
    | zero =>
      intro i hi H locs hP hD hS ls hl
      have hi8 : i = 8 := by omega
      rw [hi8] at hl
      refine lv_iload_n hx hb dX7_sort_4 rfl (lv_at hl 2 rfl) ?_
      refine lv_bipush (v := 8) hx hb dX7_sort_5 (by decide) ?_
      refine lv_icmp_ge (tgt := 28) hx hb dX7_sort_7 (by decide) (fun h1 => ?_) (fun h1 => ?_)
      · refine lv_iconst (v := 1) hx hb dX7_sort_28 (by decide) ?_
        refine zf_i (x' := nI (0 + 1)) (rfl) ?_
        refine lv_istore_n (lv' := [(2, .int (nI (0 + 1))), (0, .ref x), (1, .int (nI (mvN yv 8)))]) hx hb dX7_sort_29 rfl hl (by decide) rfl (fun ls hl => ?_)
        have lq : ∀ (n : Nat) (m : Nat), m + n = 7 → ∀ (H : Heap) (locs : List Loc), va_P D zcl [(x, .inr (3, [.ref vs, .ref es, .ref o, .ref t])), (vs, .inl (T 0, 8, .inl (fun k => nI ((isN8 yv m) k)))), (es, .inl (T 1, 8, .inr (.inl (fun k => edge ((isN8 yv m) k)))))] H → va_D A [(x, .inr (3, [.ref vs, .ref es, .ref o, .ref t])), (vs, .inl (T 0, 8, .inl (fun k => nI ((isN8 yv m) k)))), (es, .inl (T 1, 8, .inr (.inl (fun k => edge ((isN8 yv m) k)))))] → va_S A s.heap H locs → ∀ ls : Array Slot, lv_has ls 3 [(0, .ref x), (1, .int (nI (mvN yv 8))), (2, .int (nI (m + 1)))] → W zp l ze (zR 4 0 0) s zm args below zmeth zc H locs 0 0 (MQ below (zQh D A (some (.int (nI (mvN yv 8)))) (fun _ : Unit => [(x, .inr (3, [.ref vs, .ref es, .ref o, .ref t])), (vs, .inl (T 0, 8, .inl (fun k => nI ((wrS yv 8) k)))), (es, .inl (T 1, 8, .inr (.inl (fun k => edge ((wrS yv 8) k)))))])) args s 0 0 A) (F0 zm 30 ls []) := by
          intro n
          induction n with
          | zero =>
            intro m hm H locs hP hD hS ls hl
            have hm7 : m = 7 := by omega
            refine lv_iload_n hx hb dX7_sort_30 rfl (lv_at hl 2 rfl) ?_
            refine lv_bipush (v := 8) hx hb dX7_sort_31 (by decide) ?_
            refine lv_icmp_ge (tgt := 47) hx hb dX7_sort_33 (by decide) (fun h2 => ?_) (fun h2 => ?_)
            · refine lv_iload_n hx hb dX7_sort_47 rfl (lv_at hl 1 rfl) ?_
              exact zh_iret () hx hb hr hlocks dX7_sort_48 hP hD hS (rfl) (by rw [hm7, sort_same])
            · exact absurd (show nI 8 ≤ nI (m + 1) from nI_le (by omega) (by omega)) h2
          | succ n ih =>
            intro m hm H locs hP hD hS ls hl
            have hm8 : m + 1 < 8 := by omega
            refine lv_iload_n hx hb dX7_sort_30 rfl (lv_at hl 2 rfl) ?_
            refine lv_bipush (v := 8) hx hb dX7_sort_31 (by decide) ?_
            refine lv_icmp_ge (tgt := 47) hx hb dX7_sort_33 (by decide) (fun h3 => ?_) (fun h3 => ?_)
            · exact absurd h3 (show ¬ nI 8 ≤ nI (m + 1) from nI_ge (by omega) (by decide))
            · refine lv_aload_n hx hb dX7_sort_36 rfl (lv_at hl 0 rfl) ?_
              refine lv_iload_n hx hb dX7_sort_37 rfl (lv_at hl 2 rfl) ?_
              refine zh_v (T := T) hx hb hml hown hts k_X7_98 (c_X7_sinkToItsPlace l D T x vs es o t (isN8 yv m) (m + 1) hm8 (isN8_lt hy m)) ⟨by decide, by decide⟩ rfl hl.1 [] rfl (Nat.le_of_ble_eq_true rfl) dX7_sort_38 ⟨Nat.le_of_ble_eq_true rfl, Nat.le_of_ble_eq_true rfl⟩ hK hP hD hS hA (ci := 3) rfl rfl rfl [0, 1, 2] [] (wr := []) rfl rfl (by decide) (by decide) (by decide) [0, 1, 2] (fun _ => [(x, .inr (3, [.ref vs, .ref es, .ref o, .ref t])), (vs, .inl (T 0, 8, .inl (fun k => nI ((insN (isN8 yv m) (m + 1)) k)))), (es, .inl (T 1, 8, .inr (.inl (fun k => edge ((insN (isN8 yv m) (m + 1)) k)))))]) (by decide) (fun _ => rfl) (fun _ H locs hP hD hS => ?_)
              have hP : va_P D zcl [(x, .inr (3, [.ref vs, .ref es, .ref o, .ref t])), (vs, .inl (T 0, 8, .inl (fun k => nI ((insN (isN8 yv m) (m + 1)) k)))), (es, .inl (T 1, 8, .inr (.inl (fun k => edge ((insN (isN8 yv m) (m + 1)) k)))))] H := hP
              have hD : va_D A [(x, .inr (3, [.ref vs, .ref es, .ref o, .ref t])), (vs, .inl (T 0, 8, .inl (fun k => nI ((insN (isN8 yv m) (m + 1)) k)))), (es, .inl (T 1, 8, .inr (.inl (fun k => edge ((insN (isN8 yv m) (m + 1)) k)))))] := hD
              refine lv_iinc (v := (nI (m + 1 + 1))) (lv' := [(2, .int (nI (m + 1 + 1))), (0, .ref x), (1, .int (nI (mvN yv 8)))]) hx hb dX7_sort_41 hl (k := 2) rfl (nI_1 _) (by decide) rfl (fun ls hl => ?_)
              refine lv_goto (tgt := 30) hx hb dX7_sort_44 (by decide) ?_
              exact ih (m + 1) (by omega) _ _ hP hD hS ls (lv_sub hl [1, 2, 0] rfl)
        exact lq 7 0 (by omega) _ _ hP hD hS ls (lv_sub hl [1, 2, 0] rfl)
      · exact absurd (show (8 : Int32) ≤ nI 8 by decide) h1
    | succ n ih =>
      intro i hi H locs hP hD hS ls hl
      have hi8 : i < 8 := by omega
      refine lv_iload_n hx hb dX7_sort_4 rfl (lv_at hl 2 rfl) ?_
      refine lv_bipush (v := 8) hx hb dX7_sort_5 (by decide) ?_
      refine lv_icmp_ge (tgt := 28) hx hb dX7_sort_7 (by decide) (fun h4 => ?_) (fun h4 => ?_)
      · exact absurd h4 (show ¬ nI 8 ≤ nI i from nI_ge (by omega) (by decide))
      · refine lv_aload_n hx hb dX7_sort_10 rfl (lv_at hl 0 rfl) ?_
        refine lv_iload_n hx hb dX7_sort_11 rfl (lv_at hl 2 rfl) ?_
        refine zh_v (T := T) hx hb hml hown hts k_X7_95 (c_X7_sortedPlaceOf l D T x vs es o t yv i hi8 hy) ⟨by decide, by decide⟩ rfl hl.1 [] rfl (Nat.le_of_ble_eq_true rfl) dX7_sort_12 ⟨Nat.le_of_ble_eq_true rfl, Nat.le_of_ble_eq_true rfl⟩ hK hP hD hS hA (ci := 3) rfl rfl rfl [0, 1, 2] [] (wr := []) rfl rfl (by decide) (by decide) (by decide) [0, 1, 2] (fun _ => [(x, .inr (3, [.ref vs, .ref es, .ref o, .ref t])), (vs, .inl (T 0, 8, .inl (fun k => nI (yv k)))), (es, .inl (T 1, 8, .inr (.inl (fun k => edge (yv k)))))]) (by decide) (fun _ => rfl) (fun _ H locs hP hD hS => ?_)
        have hP : va_P D zcl [(x, .inr (3, [.ref vs, .ref es, .ref o, .ref t])), (vs, .inl (T 0, 8, .inl (fun k => nI (yv k)))), (es, .inl (T 1, 8, .inr (.inl (fun k => edge (yv k)))))] H := hP
        have hD : va_D A [(x, .inr (3, [.ref vs, .ref es, .ref o, .ref t])), (vs, .inl (T 0, 8, .inl (fun k => nI (yv k)))), (es, .inl (T 1, 8, .inr (.inl (fun k => edge (yv k)))))] := hD
        refine lv_iload_n hx hb dX7_sort_15 rfl (lv_at hl 2 rfl) ?_
        refine lv_icmp_eq (tgt := 22) hx hb dX7_sort_16 (by decide) (fun h5 => ?_) (fun h5 => ?_)
        · have hmv : nI (mvN yv (i + 1)) = nI (mvN yv i) := by rw [mvN, if_pos ((nI_eq (by have := rk_le yv i 8; omega) (by omega)).mp h5)]; rfl
          rw [← hmv] at hl
          refine lv_iinc (v := (nI (i + 1))) (lv' := [(2, .int (nI (i + 1))), (0, .ref x), (1, .int (nI (mvN yv (i + 1))))]) hx hb dX7_sort_22 hl (k := 2) rfl (nI_1 i) (by decide) rfl (fun ls hl => ?_)
          refine lv_goto (tgt := 4) hx hb dX7_sort_25 (by decide) ?_
          exact ih (i + 1) (by omega) _ _ hP hD hS ls (lv_sub hl [1, 2, 0] rfl)
        · refine lv_iinc (v := nI (mvN yv i + 1)) (lv' := [(1, .int (nI (mvN yv i + 1))), (0, .ref x), (2, .int (nI i))]) hx hb dX7_sort_19 hl (k := 1) rfl (nI_1 _) (by decide) rfl (fun ls hl => ?_)
          have hmv : nI (mvN yv (i + 1)) = nI (mvN yv i + 1) := by rw [mvN, if_neg (fun q => h5 (by rw [q]))]
          rw [← hmv] at hl
          refine lv_iinc (v := (nI (i + 1))) (lv' := [(2, .int (nI (i + 1))), (1, .int (nI (mvN yv (i + 1)))), (0, .ref x)]) hx hb dX7_sort_22 hl (k := 2) rfl (nI_1 i) (by decide) rfl (fun ls hl => ?_)
          refine lv_goto (tgt := 4) hx hb dX7_sort_25 (by decide) ?_
          exact ih (i + 1) (by omega) _ _ hP hD hS ls (lv_sub hl [2, 1, 0] rfl)
  exact lp 8 0 (by omega) _ _ hP hD hS ls (lv_sub hl [2, 1, 0] rfl)
